theorem dX12_pour_8 : decode cX12_pour 8 = .ok (.aload_n 0, 1) := z_dd_42 (by decide +kernel)
theorem dX12_pour_9 : decode cX12_pour 9 = .ok (.iload_n 2, 1) := z_dd_28 (by decide +kernel)
set_option maxRecDepth 20000 in
theorem ggX12_pour_X12_isHolder : GoodIn wsX12_pour wsX12_isHolder := goodIn_sub (fa_c (me_s (me_l (me_l (List.mem_of_getElem? (i := 22) rfl)))) (fa_a (fa_c (me_s (me_l (me_l (List.mem_of_getElem? (i := 23) rfl)))) fa_n) (fun w h => (me_s (me_r h))))) (by decide +kernel)
set_option maxRecDepth 20000 in
theorem gX12_pour_X12_isHolder : GoodIn wsX12_pour (wsV RX12 239 RX12 yX12_isHolder wsX12_isHolder) := goodIn_app (goodIn_sub (fa_c (me_s (me_l (me_l (List.mem_of_getElem? (i := 19) rfl)))) (fa_c (me_s (me_l (me_l (List.mem_of_getElem? (i := 20) rfl)))) (fa_c (me_s (me_l (me_l (List.mem_of_getElem? (i := 21) rfl)))) (fa_c (me_s (me_l (me_l (List.mem_of_getElem? (i := 16) rfl)))) fa_n)))) (by decide +kernel)) ggX12_pour_X12_isHolder
theorem dX12_pour_10 : decode cX12_pour 10 = .ok (.invokevirtual 239, 3) := z_dd_182 (by decide +kernel)
theorem dX12_pour_13 : decode cX12_pour 13 = .ok (.ifCond .eq 24, 3) := z_dd_153 (by decide +kernel)
theorem dX12_pour_16 : decode cX12_pour 16 = .ok (.iload_n 3, 1) := z_dd_29 (by decide +kernel)
theorem dX12_pour_17 : decode cX12_pour 17 = .ok (.iconst 0, 1) := z_dd_3 (by decide +kernel)
theorem dX12_pour_18 : decode cX12_pour 18 = .ok (.ldc_w 467, 3) := z_dd_19 (by decide +kernel)
set_option maxRecDepth 20000 in
theorem ggX12_pour_X12_within : GoodIn wsX12_pour wsX12_within := goodIn_sub (fa_c (me_s (me_l (me_r (me_l (List.mem_of_getElem? (i := 2) rfl))))) fa_n) (by decide +kernel)
set_option maxRecDepth 20000 in
theorem gX12_pour_X12_within : GoodIn wsX12_pour (va_wsS RX12 235 yX12_within wsX12_within) := goodIn_app (goodIn_sub (fa_c (me_s (me_l (me_r (me_l (List.mem_of_getElem? (i := 0) rfl))))) (fa_c (me_s (me_l (me_r (me_l (List.mem_of_getElem? (i := 1) rfl))))) (fa_c (me_s (me_l (me_l (List.mem_of_getElem? (i := 16) rfl)))) fa_n))) (by decide +kernel)) ggX12_pour_X12_within
theorem dX12_pour_21 : decode cX12_pour 21 = .ok (.invokestatic 235, 3) := z_dd_184 (by decide +kernel)
theorem dX12_pour_24 : decode cX12_pour 24 = .ok (.ifCond .eq 13, 3) := z_dd_153 (by decide +kernel)
theorem dX12_pour_27 : decode cX12_pour 27 = .ok (.aload_n 0, 1) := z_dd_42 (by decide +kernel)
theorem dX12_pour_28 : decode cX12_pour 28 = .ok (.getfield 468, 3) := z_dd_180 (by decide +kernel)
theorem dX12_pour_31 : decode cX12_pour 31 = .ok (.sipush 300, 3) := z_dd_17 (by decide +kernel)
theorem dX12_pour_34 : decode cX12_pour 34 = .ok (.if_icmp .ne 5, 3) := z_dd_160 (by decide +kernel)
theorem dX12_pour_39 : decode cX12_pour 39 = .ok (.aload_n 0, 1) := z_dd_42 (by decide +kernel)
theorem dX12_pour_40 : decode cX12_pour 40 = .ok (.getfield 118, 3) := z_dd_180 (by decide +kernel)
theorem dX12_pour_43 : decode cX12_pour 43 = .ok (.aload_n 0, 1) := z_dd_42 (by decide +kernel)
theorem dX12_pour_44 : decode cX12_pour 44 = .ok (.getfield 468, 3) := z_dd_180 (by decide +kernel)
theorem dX12_pour_47 : decode cX12_pour 47 = .ok (.iload_n 1, 1) := z_dd_27 (by decide +kernel)
theorem dX12_pour_48 : decode cX12_pour 48 = .ok (.iastore, 1) := z_dd_79 (by decide +kernel)
theorem dX12_pour_49 : decode cX12_pour 49 = .ok (.aload_n 0, 1) := z_dd_42 (by decide +kernel)
theorem dX12_pour_50 : decode cX12_pour 50 = .ok (.getfield 121, 3) := z_dd_180 (by decide +kernel)
theorem dX12_pour_53 : decode cX12_pour 53 = .ok (.aload_n 0, 1) := z_dd_42 (by decide +kernel)
theorem dX12_pour_54 : decode cX12_pour 54 = .ok (.getfield 468, 3) := z_dd_180 (by decide +kernel)
theorem dX12_pour_57 : decode cX12_pour 57 = .ok (.iload_n 2, 1) := z_dd_28 (by decide +kernel)
theorem dX12_pour_58 : decode cX12_pour 58 = .ok (.iastore, 1) := z_dd_79 (by decide +kernel)
theorem dX12_pour_59 : decode cX12_pour 59 = .ok (.aload_n 0, 1) := z_dd_42 (by decide +kernel)
theorem dX12_pour_60 : decode cX12_pour 60 = .ok (.getfield 124, 3) := z_dd_180 (by decide +kernel)
theorem dX12_pour_63 : decode cX12_pour 63 = .ok (.aload_n 0, 1) := z_dd_42 (by decide +kernel)
theorem dX12_pour_64 : decode cX12_pour 64 = .ok (.getfield 468, 3) := z_dd_180 (by decide +kernel)
theorem dX12_pour_67 : decode cX12_pour 67 = .ok (.iload_n 3, 1) := z_dd_29 (by decide +kernel)
theorem dX12_pour_68 : decode cX12_pour 68 = .ok (.iastore, 1) := z_dd_79 (by decide +kernel)
theorem dX12_pour_69 : decode cX12_pour 69 = .ok (.aload_n 0, 1) := z_dd_42 (by decide +kernel)
theorem dX12_pour_70 : decode cX12_pour 70 = .ok (.getfield 127, 3) := z_dd_180 (by decide +kernel)
theorem dX12_pour_73 : decode cX12_pour 73 = .ok (.aload_n 0, 1) := z_dd_42 (by decide +kernel)
theorem dX12_pour_74 : decode cX12_pour 74 = .ok (.getfield 468, 3) := z_dd_180 (by decide +kernel)
theorem dX12_pour_77 : decode cX12_pour 77 = .ok (.aload_n 0, 1) := z_dd_42 (by decide +kernel)
theorem dX12_pour_78 : decode cX12_pour 78 = .ok (.getfield 232, 3) := z_dd_180 (by decide +kernel)
theorem dX12_pour_81 : decode cX12_pour 81 = .ok (.iastore, 1) := z_dd_79 (by decide +kernel)
theorem dX12_pour_82 : decode cX12_pour 82 = .ok (.aload_n 0, 1) := z_dd_42 (by decide +kernel)
theorem dX12_pour_83 : decode cX12_pour 83 = .ok (.getfield 130, 3) := z_dd_180 (by decide +kernel)
theorem dX12_pour_86 : decode cX12_pour 86 = .ok (.aload_n 0, 1) := z_dd_42 (by decide +kernel)
theorem dX12_pour_87 : decode cX12_pour 87 = .ok (.getfield 468, 3) := z_dd_180 (by decide +kernel)
theorem dX12_pour_90 : decode cX12_pour 90 = .ok (.aload_n 0, 1) := z_dd_42 (by decide +kernel)
theorem dX12_pour_91 : decode cX12_pour 91 = .ok (.aload_n 0, 1) := z_dd_42 (by decide +kernel)
theorem dX12_pour_92 : decode cX12_pour 92 = .ok (.getfield 232, 3) := z_dd_180 (by decide +kernel)
theorem dX12_pour_95 : decode cX12_pour 95 = .ok (.bipush 30, 2) := z_dd_16 (by decide +kernel)
theorem dX12_pour_97 : decode cX12_pour 97 = .ok (.idiv, 1) := z_dd_108 (by decide +kernel)
theorem dX12_pour_98 : decode cX12_pour 98 = .ok (.aload_n 0, 1) := z_dd_42 (by decide +kernel)
theorem dX12_pour_99 : decode cX12_pour 99 = .ok (.getfield 232, 3) := z_dd_180 (by decide +kernel)
theorem dX12_pour_102 : decode cX12_pour 102 = .ok (.iconst 3, 1) := z_dd_6 (by decide +kernel)
set_option maxRecDepth 20000 in
theorem ggX12_pour_X12_number : GoodIn wsX12_pour wsX12_number := goodIn_sub (fa_c (me_s (me_l (me_r (me_l (List.mem_of_getElem? (i := 6) rfl))))) (fa_a (fa_c (me_s (me_l (me_r (me_l (List.mem_of_getElem? (i := 7) rfl))))) (fa_c (me_s (me_l (me_r (me_l (List.mem_of_getElem? (i := 8) rfl))))) (fa_c (me_s (me_l (me_r (me_l (List.mem_of_getElem? (i := 9) rfl))))) (fa_c (me_s (me_l (me_r (me_l (List.mem_of_getElem? (i := 10) rfl))))) (fa_c (me_s (me_l (me_r (me_l (List.mem_of_getElem? (i := 11) rfl))))) (fa_c (me_s (me_l (me_r (me_l (List.mem_of_getElem? (i := 12) rfl))))) (fa_c (me_s (me_l (me_r (me_l (List.mem_of_getElem? (i := 13) rfl))))) (fa_c (me_s (me_l (me_l (List.mem_of_getElem? (i := 16) rfl)))) (fa_c (me_s (me_l (me_r (me_l (List.mem_of_getElem? (i := 14) rfl))))) (fa_c (me_s (me_l (me_r (me_l (List.mem_of_getElem? (i := 15) rfl))))) (fa_c (me_s (me_l (me_r (me_l (List.mem_of_getElem? (i := 16) rfl))))) (fa_c (me_s (me_l (me_r (me_l (List.mem_of_getElem? (i := 17) rfl))))) fa_n)))))))))))) (fun w h => (me_s (me_r h))))) (by decide +kernel)
set_option maxRecDepth 20000 in
theorem gX12_pour_X12_number : GoodIn wsX12_pour (wsV RX12 420 RX12 yX12_number wsX12_number) := goodIn_app (goodIn_sub (fa_c (me_s (me_l (me_r (me_l (List.mem_of_getElem? (i := 3) rfl))))) (fa_c (me_s (me_l (me_r (me_l (List.mem_of_getElem? (i := 4) rfl))))) (fa_c (me_s (me_l (me_r (me_l (List.mem_of_getElem? (i := 5) rfl))))) (fa_c (me_s (me_l (me_l (List.mem_of_getElem? (i := 16) rfl)))) fa_n)))) (by decide +kernel)) ggX12_pour_X12_number
theorem dX12_pour_103 : decode cX12_pour 103 = .ok (.invokevirtual 420, 3) := z_dd_182 (by decide +kernel)
theorem dX12_pour_106 : decode cX12_pour 106 = .ok (.iastore, 1) := z_dd_79 (by decide +kernel)
theorem dX12_pour_107 : decode cX12_pour 107 = .ok (.aload_n 0, 1) := z_dd_42 (by decide +kernel)
theorem dX12_pour_108 : decode cX12_pour 108 = .ok (.getfield 133, 3) := z_dd_180 (by decide +kernel)
theorem dX12_pour_111 : decode cX12_pour 111 = .ok (.aload_n 0, 1) := z_dd_42 (by decide +kernel)
theorem dX12_pour_112 : decode cX12_pour 112 = .ok (.getfield 468, 3) := z_dd_180 (by decide +kernel)
theorem dX12_pour_115 : decode cX12_pour 115 = .ok (.aload_n 0, 1) := z_dd_42 (by decide +kernel)
theorem dX12_pour_116 : decode cX12_pour 116 = .ok (.iload_n 3, 1) := z_dd_29 (by decide +kernel)
set_option maxRecDepth 20000 in
theorem ggX12_pour_X12_isCoupon : GoodIn wsX12_pour wsX12_isCoupon := goodIn_sub (fa_c (me_s (me_l (me_r (me_l (List.mem_of_getElem? (i := 21) rfl))))) (fa_a (fa_c (me_s (me_l (me_r (me_l (List.mem_of_getElem? (i := 22) rfl))))) (fa_c (me_s (me_l (me_r (me_l (List.mem_of_getElem? (i := 23) rfl))))) fa_n)) (fun w h => (me_s (me_r h))))) (by decide +kernel)
set_option maxRecDepth 20000 in
theorem gX12_pour_X12_isCoupon : GoodIn wsX12_pour (wsV RX12 452 RX12 yX12_isCoupon wsX12_isCoupon) := goodIn_app (goodIn_sub (fa_c (me_s (me_l (me_r (me_l (List.mem_of_getElem? (i := 18) rfl))))) (fa_c (me_s (me_l (me_r (me_l (List.mem_of_getElem? (i := 19) rfl))))) (fa_c (me_s (me_l (me_r (me_l (List.mem_of_getElem? (i := 20) rfl))))) (fa_c (me_s (me_l (me_l (List.mem_of_getElem? (i := 16) rfl)))) fa_n)))) (by decide +kernel)) ggX12_pour_X12_isCoupon
theorem dX12_pour_117 : decode cX12_pour 117 = .ok (.invokevirtual 452, 3) := z_dd_182 (by decide +kernel)
theorem dX12_pour_120 : decode cX12_pour 120 = .ok (.ifCond .eq 11, 3) := z_dd_153 (by decide +kernel)
theorem dX12_pour_123 : decode cX12_pour 123 = .ok (.aload_n 0, 1) := z_dd_42 (by decide +kernel)
theorem dX12_pour_124 : decode cX12_pour 124 = .ok (.iload_n 3, 1) := z_dd_29 (by decide +kernel)
set_option maxRecDepth 20000 in
theorem ggX12_pour_X12_heldBy : GoodIn wsX12_pour wsX12_heldBy := goodIn_sub (fa_c (me_s (me_l (me_r (me_r (List.mem_of_getElem? (i := 3) rfl))))) (fa_a (fa_c (me_s (me_l (me_r (me_r (List.mem_of_getElem? (i := 4) rfl))))) fa_n) (fun w h => (me_s (me_r h))))) (by decide +kernel)
set_option maxRecDepth 20000 in
theorem gX12_pour_X12_heldBy : GoodIn wsX12_pour (wsV RX12 458 RX12 yX12_heldBy wsX12_heldBy) := goodIn_app (goodIn_sub (fa_c (me_s (me_l (me_r (me_r (List.mem_of_getElem? (i := 0) rfl))))) (fa_c (me_s (me_l (me_r (me_r (List.mem_of_getElem? (i := 1) rfl))))) (fa_c (me_s (me_l (me_r (me_r (List.mem_of_getElem? (i := 2) rfl))))) (fa_c (me_s (me_l (me_l (List.mem_of_getElem? (i := 16) rfl)))) fa_n)))) (by decide +kernel)) ggX12_pour_X12_heldBy
theorem dX12_pour_125 : decode cX12_pour 125 = .ok (.invokevirtual 458, 3) := z_dd_182 (by decide +kernel)
theorem dX12_pour_128 : decode cX12_pour 128 = .ok (.goto 4, 3) := z_dd_167 (by decide +kernel)
theorem dX12_pour_132 : decode cX12_pour 132 = .ok (.iastore, 1) := z_dd_79 (by decide +kernel)
theorem dX12_pour_133 : decode cX12_pour 133 = .ok (.aload_n 0, 1) := z_dd_42 (by decide +kernel)
theorem dX12_pour_134 : decode cX12_pour 134 = .ok (.getfield 136, 3) := z_dd_180 (by decide +kernel)
theorem dX12_pour_137 : decode cX12_pour 137 = .ok (.aload_n 0, 1) := z_dd_42 (by decide +kernel)
theorem dX12_pour_138 : decode cX12_pour 138 = .ok (.getfield 468, 3) := z_dd_180 (by decide +kernel)
theorem dX12_pour_141 : decode cX12_pour 141 = .ok (.iconst (-1), 1) := z_dd_2 (by decide +kernel)
theorem dX12_pour_142 : decode cX12_pour 142 = .ok (.iastore, 1) := z_dd_79 (by decide +kernel)
theorem dX12_pour_143 : decode cX12_pour 143 = .ok (.aload_n 0, 1) := z_dd_42 (by decide +kernel)
theorem dX12_pour_144 : decode cX12_pour 144 = .ok (.getfield 142, 3) := z_dd_180 (by decide +kernel)
theorem dX12_pour_147 : decode cX12_pour 147 = .ok (.aload_n 0, 1) := z_dd_42 (by decide +kernel)
theorem dX12_pour_148 : decode cX12_pour 148 = .ok (.getfield 468, 3) := z_dd_180 (by decide +kernel)
theorem dX12_pour_151 : decode cX12_pour 151 = .ok (.aload_n 0, 1) := z_dd_42 (by decide +kernel)
theorem dX12_pour_152 : decode cX12_pour 152 = .ok (.iload_n 2, 1) := z_dd_28 (by decide +kernel)
theorem dX12_pour_153 : decode cX12_pour 153 = .ok (.aload_n 0, 1) := z_dd_42 (by decide +kernel)
theorem dX12_pour_154 : decode cX12_pour 154 = .ok (.getfield 232, 3) := z_dd_180 (by decide +kernel)
theorem dX12_pour_157 : decode cX12_pour 157 = .ok (.aload_n 0, 1) := z_dd_42 (by decide +kernel)
theorem dX12_pour_158 : decode cX12_pour 158 = .ok (.getfield 232, 3) := z_dd_180 (by decide +kernel)
set_option maxRecDepth 20000 in
theorem ggX12_pour_X12_kindOn : GoodIn wsX12_pour wsX12_kindOn := goodIn_sub (fa_c (me_s (me_l (me_r (me_r (List.mem_of_getElem? (i := 8) rfl))))) (fa_a (fa_c (me_s (me_l (me_r (me_r (List.mem_of_getElem? (i := 9) rfl))))) (fa_c (me_s (me_l (me_r (me_r (List.mem_of_getElem? (i := 10) rfl))))) (fa_c (me_s (me_l (me_r (me_r (List.mem_of_getElem? (i := 11) rfl))))) (fa_c (me_s (me_l (me_r (me_r (List.mem_of_getElem? (i := 12) rfl))))) (fa_c (me_s (me_l (me_r (me_r (List.mem_of_getElem? (i := 13) rfl))))) (fa_c (me_s (me_l (me_r (me_r (List.mem_of_getElem? (i := 14) rfl))))) fa_n)))))) (fun w h => (me_s (me_r h))))) (by decide +kernel)
set_option maxRecDepth 20000 in
theorem gX12_pour_X12_kindOn : GoodIn wsX12_pour (wsV RX12 249 RX12 yX12_kindOn wsX12_kindOn) := goodIn_app (goodIn_sub (fa_c (me_s (me_l (me_r (me_r (List.mem_of_getElem? (i := 5) rfl))))) (fa_c (me_s (me_l (me_r (me_r (List.mem_of_getElem? (i := 6) rfl))))) (fa_c (me_s (me_l (me_r (me_r (List.mem_of_getElem? (i := 7) rfl))))) (fa_c (me_s (me_l (me_l (List.mem_of_getElem? (i := 16) rfl)))) fa_n)))) (by decide +kernel)) ggX12_pour_X12_kindOn
theorem dX12_pour_161 : decode cX12_pour 161 = .ok (.invokevirtual 249, 3) := z_dd_182 (by decide +kernel)
theorem dX12_pour_164 : decode cX12_pour 164 = .ok (.iconst 2, 1) := z_dd_5 (by decide +kernel)
theorem dX12_pour_165 : decode cX12_pour 165 = .ok (.if_icmp .ne 7, 3) := z_dd_160 (by decide +kernel)
theorem dX12_pour_172 : decode cX12_pour 172 = .ok (.iconst 0, 1) := z_dd_3 (by decide +kernel)
theorem dX12_pour_173 : decode cX12_pour 173 = .ok (.bastore, 1) := z_dd_84 (by decide +kernel)
theorem dX12_pour_174 : decode cX12_pour 174 = .ok (.aload_n 0, 1) := z_dd_42 (by decide +kernel)
theorem dX12_pour_175 : decode cX12_pour 175 = .ok (.getfield 139, 3) := z_dd_180 (by decide +kernel)
theorem dX12_pour_178 : decode cX12_pour 178 = .ok (.aload_n 0, 1) := z_dd_42 (by decide +kernel)
theorem dX12_pour_179 : decode cX12_pour 179 = .ok (.getfield 468, 3) := z_dd_180 (by decide +kernel)
theorem dX12_pour_182 : decode cX12_pour 182 = .ok (.aload_n 0, 1) := z_dd_42 (by decide +kernel)
theorem dX12_pour_183 : decode cX12_pour 183 = .ok (.getfield 471, 3) := z_dd_180 (by decide +kernel)
theorem dX12_pour_186 : decode cX12_pour 186 = .ok (.iastore, 1) := z_dd_79 (by decide +kernel)
theorem dX12_pour_187 : decode cX12_pour 187 = .ok (.aload_n 0, 1) := z_dd_42 (by decide +kernel)
theorem dX12_pour_188 : decode cX12_pour 188 = .ok (.dup, 1) := z_dd_89 (by decide +kernel)
theorem dX12_pour_189 : decode cX12_pour 189 = .ok (.getfield 471, 3) := z_dd_180 (by decide +kernel)
theorem dX12_pour_192 : decode cX12_pour 192 = .ok (.iconst 1, 1) := z_dd_4 (by decide +kernel)
theorem dX12_pour_193 : decode cX12_pour 193 = .ok (.iadd, 1) := z_dd_96 (by decide +kernel)
theorem dX12_pour_194 : decode cX12_pour 194 = .ok (.putfield 471, 3) := z_dd_181 (by decide +kernel)
theorem dX12_pour_197 : decode cX12_pour 197 = .ok (.aload_n 0, 1) := z_dd_42 (by decide +kernel)
theorem dX12_pour_198 : decode cX12_pour 198 = .ok (.dup, 1) := z_dd_89 (by decide +kernel)
theorem dX12_pour_199 : decode cX12_pour 199 = .ok (.getfield 468, 3) := z_dd_180 (by decide +kernel)
theorem dX12_pour_202 : decode cX12_pour 202 = .ok (.iconst 1, 1) := z_dd_4 (by decide +kernel)
theorem dX12_pour_203 : decode cX12_pour 203 = .ok (.iadd, 1) := z_dd_96 (by decide +kernel)
theorem dX12_pour_204 : decode cX12_pour 204 = .ok (.putfield 468, 3) := z_dd_181 (by decide +kernel)
theorem dX12_pour_207 : decode cX12_pour 207 = .ok (.aload_n 0, 1) := z_dd_42 (by decide +kernel)
theorem dX12_pour_208 : decode cX12_pour 208 = .ok (.getfield 468, 3) := z_dd_180 (by decide +kernel)
theorem dX12_pour_211 : decode cX12_pour 211 = .ok (.iconst 1, 1) := z_dd_4 (by decide +kernel)
theorem dX12_pour_212 : decode cX12_pour 212 = .ok (.isub, 1) := z_dd_100 (by decide +kernel)
theorem dX12_pour_213 : decode cX12_pour 213 = .ok (.ireturn, 1) := z_dd_172 (by decide +kernel)
theorem dX12_pour_168 : decode cX12_pour 168 = .ok (.iconst 1, 1) := z_dd_4 (by decide +kernel)
theorem dX12_pour_169 : decode cX12_pour 169 = .ok (.goto 4, 3) := z_dd_167 (by decide +kernel)
theorem dX12_pour_131 : decode cX12_pour 131 = .ok (.iconst (-1), 1) := z_dd_2 (by decide +kernel)
theorem dX12_judges_0 : decode cX12_judges 0 = .ok (.aload_n 0, 1) := z_dd_42 (by decide +kernel)
theorem dX12_judges_1 : decode cX12_judges 1 = .ok (.getfield 124, 3) := z_dd_180 (by decide +kernel)
theorem dX12_judges_4 : decode cX12_judges 4 = .ok (.iload_n 1, 1) := z_dd_27 (by decide +kernel)
theorem dX12_judges_5 : decode cX12_judges 5 = .ok (.iaload, 1) := z_dd_46 (by decide +kernel)
theorem dX12_judges_6 : decode cX12_judges 6 = .ok (.istore_n 2, 1) := z_dd_61 (by decide +kernel)
theorem dX12_judges_7 : decode cX12_judges 7 = .ok (.aload_n 0, 1) := z_dd_42 (by decide +kernel)
theorem dX12_judges_8 : decode cX12_judges 8 = .ok (.iload_n 2, 1) := z_dd_28 (by decide +kernel)
set_option maxRecDepth 20000 in
theorem ggX12_judges_X12_isCoupon : GoodIn wsX12_judges wsX12_isCoupon := goodIn_sub (fa_c (me_s (me_l (me_l (List.mem_of_getElem? (i := 9) rfl)))) (fa_a (fa_c (me_s (me_l (me_l (List.mem_of_getElem? (i := 10) rfl)))) (fa_c (me_s (me_l (me_l (List.mem_of_getElem? (i := 11) rfl)))) fa_n)) (fun w h => (me_s (me_r h))))) (by decide +kernel)
set_option maxRecDepth 20000 in
theorem gX12_judges_X12_isCoupon : GoodIn wsX12_judges (wsV RX12 452 RX12 yX12_isCoupon wsX12_isCoupon) := goodIn_app (goodIn_sub (fa_c (me_s (me_l (me_l (List.mem_of_getElem? (i := 5) rfl)))) (fa_c (me_s (me_l (me_l (List.mem_of_getElem? (i := 6) rfl)))) (fa_c (me_s (me_l (me_l (List.mem_of_getElem? (i := 7) rfl)))) (fa_c (me_s (me_l (me_l (List.mem_of_getElem? (i := 8) rfl)))) fa_n)))) (by decide +kernel)) ggX12_judges_X12_isCoupon
theorem dX12_judges_9 : decode cX12_judges 9 = .ok (.invokevirtual 452, 3) := z_dd_182 (by decide +kernel)
theorem dX12_judges_12 : decode cX12_judges 12 = .ok (.ifCond .ne 5, 3) := z_dd_154 (by decide +kernel)
theorem dX12_judges_17 : decode cX12_judges 17 = .ok (.aload_n 0, 1) := z_dd_42 (by decide +kernel)
theorem dX12_judges_18 : decode cX12_judges 18 = .ok (.getfield 114, 3) := z_dd_180 (by decide +kernel)
theorem dX12_judges_21 : decode cX12_judges 21 = .ok (.iload_n 2, 1) := z_dd_28 (by decide +kernel)
theorem dX12_judges_22 : decode cX12_judges 22 = .ok (.baload, 1) := z_dd_51 (by decide +kernel)
theorem dX12_judges_23 : decode cX12_judges 23 = .ok (.ifCond .eq 5, 3) := z_dd_153 (by decide +kernel)
theorem dX12_judges_28 : decode cX12_judges 28 = .ok (.iload_n 2, 1) := z_dd_28 (by decide +kernel)
theorem dX12_judges_29 : decode cX12_judges 29 = .ok (.bipush 100, 2) := z_dd_16 (by decide +kernel)
theorem dX12_judges_31 : decode cX12_judges 31 = .ok (.idiv, 1) := z_dd_108 (by decide +kernel)
theorem dX12_judges_32 : decode cX12_judges 32 = .ok (.bipush 24, 2) := z_dd_16 (by decide +kernel)
theorem dX12_judges_34 : decode cX12_judges 34 = .ok (.irem, 1) := z_dd_112 (by decide +kernel)
theorem dX12_judges_35 : decode cX12_judges 35 = .ok (.istore_n 3, 1) := z_dd_62 (by decide +kernel)
theorem dX12_judges_36 : decode cX12_judges 36 = .ok (.aload_n 0, 1) := z_dd_42 (by decide +kernel)
theorem dX12_judges_37 : decode cX12_judges 37 = .ok (.getfield 127, 3) := z_dd_180 (by decide +kernel)
theorem dX12_judges_40 : decode cX12_judges 40 = .ok (.iload_n 1, 1) := z_dd_27 (by decide +kernel)
theorem dX12_judges_41 : decode cX12_judges 41 = .ok (.iaload, 1) := z_dd_46 (by decide +kernel)
theorem dX12_judges_42 : decode cX12_judges 42 = .ok (.bipush 30, 2) := z_dd_16 (by decide +kernel)
theorem dX12_judges_44 : decode cX12_judges 44 = .ok (.idiv, 1) := z_dd_108 (by decide +kernel)
theorem dX12_judges_45 : decode cX12_judges 45 = .ok (.istore 4, 2) := z_dd_54 (by decide +kernel)
theorem dX12_judges_47 : decode cX12_judges 47 = .ok (.iload 4, 2) := z_dd_21 (by decide +kernel)
theorem dX12_judges_49 : decode cX12_judges 49 = .ok (.iload_n 3, 1) := z_dd_29 (by decide +kernel)
theorem dX12_judges_50 : decode cX12_judges 50 = .ok (.if_icmp .lt 22, 3) := z_dd_161 (by decide +kernel)
theorem dX12_judges_72 : decode cX12_judges 72 = .ok (.iconst 3, 1) := z_dd_6 (by decide +kernel)
theorem dX12_judges_73 : decode cX12_judges 73 = .ok (.ireturn, 1) := z_dd_172 (by decide +kernel)
theorem dX12_judges_53 : decode cX12_judges 53 = .ok (.iload 4, 2) := z_dd_21 (by decide +kernel)
theorem dX12_judges_55 : decode cX12_judges 55 = .ok (.iload_n 3, 1) := z_dd_29 (by decide +kernel)
theorem dX12_judges_56 : decode cX12_judges 56 = .ok (.aload_n 0, 1) := z_dd_42 (by decide +kernel)
theorem dX12_judges_57 : decode cX12_judges 57 = .ok (.iload_n 3, 1) := z_dd_29 (by decide +kernel)
theorem dX12_judges_58 : decode cX12_judges 58 = .ok (.aload_n 0, 1) := z_dd_42 (by decide +kernel)
theorem dX12_judges_59 : decode cX12_judges 59 = .ok (.getfield 127, 3) := z_dd_180 (by decide +kernel)
theorem dX12_judges_62 : decode cX12_judges 62 = .ok (.iload_n 1, 1) := z_dd_27 (by decide +kernel)
theorem dX12_judges_63 : decode cX12_judges 63 = .ok (.iaload, 1) := z_dd_46 (by decide +kernel)
theorem dX12_judges_64 : decode cX12_judges 64 = .ok (.iconst 4, 1) := z_dd_7 (by decide +kernel)
set_option maxRecDepth 20000 in
theorem ggX12_judges_X12_number : GoodIn wsX12_judges wsX12_number := goodIn_sub (fa_c (me_s (me_l (me_l (List.mem_of_getElem? (i := 15) rfl)))) (fa_a (fa_c (me_s (me_l (me_l (List.mem_of_getElem? (i := 16) rfl)))) (fa_c (me_s (me_l (me_l (List.mem_of_getElem? (i := 17) rfl)))) (fa_c (me_s (me_l (me_l (List.mem_of_getElem? (i := 18) rfl)))) (fa_c (me_s (me_l (me_l (List.mem_of_getElem? (i := 19) rfl)))) (fa_c (me_s (me_l (me_l (List.mem_of_getElem? (i := 20) rfl)))) (fa_c (me_s (me_l (me_l (List.mem_of_getElem? (i := 21) rfl)))) (fa_c (me_s (me_l (me_l (List.mem_of_getElem? (i := 22) rfl)))) (fa_c (me_s (me_l (me_l (List.mem_of_getElem? (i := 8) rfl)))) (fa_c (me_s (me_l (me_l (List.mem_of_getElem? (i := 23) rfl)))) (fa_c (me_s (me_l (me_r (List.mem_of_getElem? (i := 0) rfl)))) (fa_c (me_s (me_l (me_r (List.mem_of_getElem? (i := 1) rfl)))) (fa_c (me_s (me_l (me_r (List.mem_of_getElem? (i := 2) rfl)))) fa_n)))))))))))) (fun w h => (me_s (me_r h))))) (by decide +kernel)
set_option maxRecDepth 20000 in
theorem gX12_judges_X12_number : GoodIn wsX12_judges (wsV RX12 420 RX12 yX12_number wsX12_number) := goodIn_app (goodIn_sub (fa_c (me_s (me_l (me_l (List.mem_of_getElem? (i := 12) rfl)))) (fa_c (me_s (me_l (me_l (List.mem_of_getElem? (i := 13) rfl)))) (fa_c (me_s (me_l (me_l (List.mem_of_getElem? (i := 14) rfl)))) (fa_c (me_s (me_l (me_l (List.mem_of_getElem? (i := 8) rfl)))) fa_n)))) (by decide +kernel)) ggX12_judges_X12_number
theorem dX12_judges_65 : decode cX12_judges 65 = .ok (.invokevirtual 420, 3) := z_dd_182 (by decide +kernel)
theorem dX12_judges_68 : decode cX12_judges 68 = .ok (.iadd, 1) := z_dd_96 (by decide +kernel)
theorem dX12_judges_69 : decode cX12_judges 69 = .ok (.if_icmp .le 5, 3) := z_dd_164 (by decide +kernel)
theorem dX12_judges_74 : decode cX12_judges 74 = .ok (.aload_n 0, 1) := z_dd_42 (by decide +kernel)
theorem dX12_judges_75 : decode cX12_judges 75 = .ok (.getfield 133, 3) := z_dd_180 (by decide +kernel)
theorem dX12_judges_78 : decode cX12_judges 78 = .ok (.iload_n 1, 1) := z_dd_27 (by decide +kernel)
theorem dX12_judges_79 : decode cX12_judges 79 = .ok (.iaload, 1) := z_dd_46 (by decide +kernel)
theorem dX12_judges_80 : decode cX12_judges 80 = .ok (.aload_n 0, 1) := z_dd_42 (by decide +kernel)
theorem dX12_judges_81 : decode cX12_judges 81 = .ok (.getfield 121, 3) := z_dd_180 (by decide +kernel)
theorem dX12_judges_84 : decode cX12_judges 84 = .ok (.iload_n 1, 1) := z_dd_27 (by decide +kernel)
theorem dX12_judges_85 : decode cX12_judges 85 = .ok (.iaload, 1) := z_dd_46 (by decide +kernel)
theorem dX12_judges_86 : decode cX12_judges 86 = .ok (.if_icmp .ne 7, 3) := z_dd_160 (by decide +kernel)
theorem dX12_judges_93 : decode cX12_judges 93 = .ok (.iconst 4, 1) := z_dd_7 (by decide +kernel)
theorem dX12_judges_94 : decode cX12_judges 94 = .ok (.ireturn, 1) := z_dd_172 (by decide +kernel)
theorem dX12_judges_89 : decode cX12_judges 89 = .ok (.iconst 0, 1) := z_dd_3 (by decide +kernel)
theorem dX12_judges_90 : decode cX12_judges 90 = .ok (.goto 4, 3) := z_dd_167 (by decide +kernel)
theorem dX12_judges_26 : decode cX12_judges 26 = .ok (.iconst 2, 1) := z_dd_5 (by decide +kernel)
theorem dX12_judges_27 : decode cX12_judges 27 = .ok (.ireturn, 1) := z_dd_172 (by decide +kernel)
theorem dX12_judges_15 : decode cX12_judges 15 = .ok (.iconst 1, 1) := z_dd_4 (by decide +kernel)
theorem dX12_judges_16 : decode cX12_judges 16 = .ok (.ireturn, 1) := z_dd_172 (by decide +kernel)
theorem dX12_handIn_10 : decode cX12_handIn 10 = .ok (.iconst 0, 1) := z_dd_3 (by decide +kernel)
theorem dX12_handIn_11 : decode cX12_handIn 11 = .ok (.istore_n 2, 1) := z_dd_61 (by decide +kernel)
theorem dX12_handIn_12 : decode cX12_handIn 12 = .ok (.iconst 0, 1) := z_dd_3 (by decide +kernel)
theorem dX12_handIn_13 : decode cX12_handIn 13 = .ok (.istore_n 3, 1) := z_dd_62 (by decide +kernel)
theorem dX12_handIn_14 : decode cX12_handIn 14 = .ok (.iload_n 3, 1) := z_dd_29 (by decide +kernel)
theorem dX12_handIn_15 : decode cX12_handIn 15 = .ok (.aload_n 0, 1) := z_dd_42 (by decide +kernel)
theorem dX12_handIn_16 : decode cX12_handIn 16 = .ok (.getfield 468, 3) := z_dd_180 (by decide +kernel)
theorem dX12_handIn_19 : decode cX12_handIn 19 = .ok (.if_icmp .ge 66, 3) := z_dd_162 (by decide +kernel)
theorem dX12_handIn_85 : decode cX12_handIn 85 = .ok (.iload_n 2, 1) := z_dd_28 (by decide +kernel)
theorem dX12_handIn_86 : decode cX12_handIn 86 = .ok (.ireturn, 1) := z_dd_172 (by decide +kernel)
theorem dX12_handIn_22 : decode cX12_handIn 22 = .ok (.aload_n 0, 1) := z_dd_42 (by decide +kernel)
theorem dX12_handIn_23 : decode cX12_handIn 23 = .ok (.getfield 118, 3) := z_dd_180 (by decide +kernel)
theorem dX12_handIn_26 : decode cX12_handIn 26 = .ok (.iload_n 3, 1) := z_dd_29 (by decide +kernel)
theorem dX12_handIn_27 : decode cX12_handIn 27 = .ok (.iaload, 1) := z_dd_46 (by decide +kernel)
theorem dX12_handIn_28 : decode cX12_handIn 28 = .ok (.iload_n 1, 1) := z_dd_27 (by decide +kernel)
theorem dX12_handIn_29 : decode cX12_handIn 29 = .ok (.if_icmp .ne 50, 3) := z_dd_160 (by decide +kernel)
theorem dX12_handIn_79 : decode cX12_handIn 79 = .ok (.iinc 3 1, 3) := z_dd_132 (by decide +kernel)
theorem dX12_handIn_82 : decode cX12_handIn 82 = .ok (.goto (-68), 3) := z_dd_167 (by decide +kernel)
theorem dX12_handIn_32 : decode cX12_handIn 32 = .ok (.aload_n 0, 1) := z_dd_42 (by decide +kernel)
theorem dX12_handIn_33 : decode cX12_handIn 33 = .ok (.getfield 136, 3) := z_dd_180 (by decide +kernel)
theorem dX12_handIn_36 : decode cX12_handIn 36 = .ok (.iload_n 3, 1) := z_dd_29 (by decide +kernel)
theorem dX12_handIn_37 : decode cX12_handIn 37 = .ok (.iaload, 1) := z_dd_46 (by decide +kernel)
theorem dX12_handIn_38 : decode cX12_handIn 38 = .ok (.ifCond .lt 6, 3) := z_dd_155 (by decide +kernel)
theorem dX12_handIn_44 : decode cX12_handIn 44 = .ok (.aload_n 0, 1) := z_dd_42 (by decide +kernel)
theorem dX12_handIn_45 : decode cX12_handIn 45 = .ok (.getfield 136, 3) := z_dd_180 (by decide +kernel)
theorem dX12_handIn_48 : decode cX12_handIn 48 = .ok (.iload_n 3, 1) := z_dd_29 (by decide +kernel)
theorem dX12_handIn_49 : decode cX12_handIn 49 = .ok (.aload_n 0, 1) := z_dd_42 (by decide +kernel)
theorem dX12_handIn_50 : decode cX12_handIn 50 = .ok (.iload_n 3, 1) := z_dd_29 (by decide +kernel)
set_option maxRecDepth 20000 in
theorem ggX12_handIn_X12_judges : GoodIn wsX12_handIn wsX12_judges := goodIn_sub (fa_c (me_s (me_l (me_l (List.mem_of_getElem? (i := 14) rfl)))) (fa_a (fa_a (fa_c (me_s (me_l (me_l (List.mem_of_getElem? (i := 4) rfl)))) (fa_c (me_s (me_l (me_l (List.mem_of_getElem? (i := 3) rfl)))) (fa_c (me_s (me_l (me_l (List.mem_of_getElem? (i := 15) rfl)))) (fa_c (me_s (me_l (me_l (List.mem_of_getElem? (i := 16) rfl)))) (fa_c (me_s (me_l (me_l (List.mem_of_getElem? (i := 17) rfl)))) (fa_c (me_s (me_l (me_l (List.mem_of_getElem? (i := 18) rfl)))) (fa_c (me_s (me_l (me_l (List.mem_of_getElem? (i := 19) rfl)))) (fa_c (me_s (me_l (me_l (List.mem_of_getElem? (i := 20) rfl)))) (fa_c (me_s (me_l (me_l (List.mem_of_getElem? (i := 8) rfl)))) (fa_c (me_s (me_l (me_l (List.mem_of_getElem? (i := 21) rfl)))) (fa_c (me_s (me_l (me_l (List.mem_of_getElem? (i := 22) rfl)))) (fa_c (me_s (me_l (me_l (List.mem_of_getElem? (i := 23) rfl)))) (fa_c (me_s (me_l (me_r (List.mem_of_getElem? (i := 0) rfl)))) (fa_c (me_s (me_l (me_r (List.mem_of_getElem? (i := 1) rfl)))) (fa_c (me_s (me_l (me_r (List.mem_of_getElem? (i := 2) rfl)))) (fa_c (me_s (me_l (me_r (List.mem_of_getElem? (i := 3) rfl)))) (fa_c (me_s (me_l (me_r (List.mem_of_getElem? (i := 4) rfl)))) (fa_c (me_s (me_l (me_r (List.mem_of_getElem? (i := 5) rfl)))) (fa_c (me_s (me_l (me_r (List.mem_of_getElem? (i := 6) rfl)))) (fa_c (me_s (me_l (me_r (List.mem_of_getElem? (i := 7) rfl)))) (fa_c (me_s (me_l (me_r (List.mem_of_getElem? (i := 8) rfl)))) (fa_c (me_s (me_l (me_r (List.mem_of_getElem? (i := 9) rfl)))) (fa_c (me_s (me_l (me_r (List.mem_of_getElem? (i := 10) rfl)))) (fa_c (me_s (me_l (me_r (List.mem_of_getElem? (i := 11) rfl)))) fa_n)))))))))))))))))))))))) (fa_c (me_s (me_l (me_r (List.mem_of_getElem? (i := 12) rfl)))) (fa_c (me_s (me_l (me_r (List.mem_of_getElem? (i := 13) rfl)))) (fa_c (me_s (me_l (me_r (List.mem_of_getElem? (i := 14) rfl)))) fa_n)))) (fun w h => (me_s (me_r h))))) (by decide +kernel)
set_option maxRecDepth 20000 in
theorem gX12_handIn_X12_judges : GoodIn wsX12_handIn (wsV RX12 474 RX12 yX12_judges wsX12_judges) := goodIn_app (goodIn_sub (fa_c (me_s (me_l (me_l (List.mem_of_getElem? (i := 11) rfl)))) (fa_c (me_s (me_l (me_l (List.mem_of_getElem? (i := 12) rfl)))) (fa_c (me_s (me_l (me_l (List.mem_of_getElem? (i := 13) rfl)))) (fa_c (me_s (me_l (me_l (List.mem_of_getElem? (i := 8) rfl)))) fa_n)))) (by decide +kernel)) ggX12_handIn_X12_judges
theorem dX12_handIn_51 : decode cX12_handIn 51 = .ok (.invokevirtual 474, 3) := z_dd_182 (by decide +kernel)
theorem dX12_handIn_54 : decode cX12_handIn 54 = .ok (.iastore, 1) := z_dd_79 (by decide +kernel)
theorem dX12_handIn_55 : decode cX12_handIn 55 = .ok (.aload_n 0, 1) := z_dd_42 (by decide +kernel)
theorem dX12_handIn_56 : decode cX12_handIn 56 = .ok (.getfield 114, 3) := z_dd_180 (by decide +kernel)
theorem dX12_handIn_59 : decode cX12_handIn 59 = .ok (.aload_n 0, 1) := z_dd_42 (by decide +kernel)
theorem dX12_handIn_60 : decode cX12_handIn 60 = .ok (.getfield 124, 3) := z_dd_180 (by decide +kernel)
theorem dX12_handIn_63 : decode cX12_handIn 63 = .ok (.iload_n 3, 1) := z_dd_29 (by decide +kernel)
theorem dX12_handIn_64 : decode cX12_handIn 64 = .ok (.iaload, 1) := z_dd_46 (by decide +kernel)
theorem dX12_handIn_65 : decode cX12_handIn 65 = .ok (.iconst 1, 1) := z_dd_4 (by decide +kernel)
theorem dX12_handIn_66 : decode cX12_handIn 66 = .ok (.bastore, 1) := z_dd_84 (by decide +kernel)
theorem dX12_handIn_67 : decode cX12_handIn 67 = .ok (.aload_n 0, 1) := z_dd_42 (by decide +kernel)
theorem dX12_handIn_68 : decode cX12_handIn 68 = .ok (.getfield 136, 3) := z_dd_180 (by decide +kernel)
theorem dX12_handIn_71 : decode cX12_handIn 71 = .ok (.iload_n 3, 1) := z_dd_29 (by decide +kernel)
theorem dX12_handIn_72 : decode cX12_handIn 72 = .ok (.iaload, 1) := z_dd_46 (by decide +kernel)
theorem dX12_handIn_73 : decode cX12_handIn 73 = .ok (.ifCond .ne 6, 3) := z_dd_154 (by decide +kernel)
theorem dX12_handIn_76 : decode cX12_handIn 76 = .ok (.iinc 2 1, 3) := z_dd_132 (by decide +kernel)
theorem dX12_handIn_41 : decode cX12_handIn 41 = .ok (.goto 38, 3) := z_dd_167 (by decide +kernel)
theorem dX12_deliver_8 : decode cX12_deliver 8 = .ok (.iload_n 2, 1) := z_dd_28 (by decide +kernel)
theorem dX12_deliver_9 : decode cX12_deliver 9 = .ok (.iconst 1, 1) := z_dd_4 (by decide +kernel)
theorem dX12_deliver_10 : decode cX12_deliver 10 = .ok (.ldc 113, 2) := z_dd_18 (by decide +kernel)
set_option maxRecDepth 20000 in
theorem ggX12_deliver_X12_within : GoodIn wsX12_deliver wsX12_within := goodIn_sub (fa_c (me_s (me_l (List.mem_of_getElem? (i := 14) rfl))) fa_n) (by decide +kernel)
set_option maxRecDepth 20000 in
theorem gX12_deliver_X12_within : GoodIn wsX12_deliver (va_wsS RX12 235 yX12_within wsX12_within) := goodIn_app (goodIn_sub (fa_c (me_s (me_l (List.mem_of_getElem? (i := 12) rfl))) (fa_c (me_s (me_l (List.mem_of_getElem? (i := 13) rfl))) (fa_c (me_s (me_l (List.mem_of_getElem? (i := 9) rfl))) fa_n))) (by decide +kernel)) ggX12_deliver_X12_within
theorem dX12_deliver_12 : decode cX12_deliver 12 = .ok (.invokestatic 235, 3) := z_dd_184 (by decide +kernel)
theorem dX12_deliver_15 : decode cX12_deliver 15 = .ok (.ifCond .eq 14, 3) := z_dd_153 (by decide +kernel)
theorem dX12_deliver_18 : decode cX12_deliver 18 = .ok (.aload_n 0, 1) := z_dd_42 (by decide +kernel)
theorem dX12_deliver_19 : decode cX12_deliver 19 = .ok (.getfield 145, 3) := z_dd_180 (by decide +kernel)
theorem dX12_deliver_22 : decode cX12_deliver 22 = .ok (.iload_n 1, 1) := z_dd_27 (by decide +kernel)
theorem dX12_deliver_23 : decode cX12_deliver 23 = .ok (.iaload, 1) := z_dd_46 (by decide +kernel)
theorem dX12_deliver_24 : decode cX12_deliver 24 = .ok (.bipush 30, 2) := z_dd_16 (by decide +kernel)
theorem dX12_deliver_26 : decode cX12_deliver 26 = .ok (.if_icmp .ne 5, 3) := z_dd_160 (by decide +kernel)
theorem dX12_deliver_31 : decode cX12_deliver 31 = .ok (.aload_n 0, 1) := z_dd_42 (by decide +kernel)
theorem dX12_deliver_32 : decode cX12_deliver 32 = .ok (.getfield 151, 3) := z_dd_180 (by decide +kernel)
theorem dX12_deliver_35 : decode cX12_deliver 35 = .ok (.bipush 30, 2) := z_dd_16 (by decide +kernel)
theorem dX12_deliver_37 : decode cX12_deliver 37 = .ok (.iload_n 1, 1) := z_dd_27 (by decide +kernel)
theorem dX12_deliver_38 : decode cX12_deliver 38 = .ok (.imul, 1) := z_dd_104 (by decide +kernel)
theorem dX12_deliver_39 : decode cX12_deliver 39 = .ok (.aload_n 0, 1) := z_dd_42 (by decide +kernel)
theorem dX12_deliver_40 : decode cX12_deliver 40 = .ok (.getfield 145, 3) := z_dd_180 (by decide +kernel)
theorem dX12_deliver_43 : decode cX12_deliver 43 = .ok (.iload_n 1, 1) := z_dd_27 (by decide +kernel)
theorem dX12_deliver_44 : decode cX12_deliver 44 = .ok (.iaload, 1) := z_dd_46 (by decide +kernel)
theorem dX12_deliver_45 : decode cX12_deliver 45 = .ok (.iadd, 1) := z_dd_96 (by decide +kernel)
theorem dX12_deliver_46 : decode cX12_deliver 46 = .ok (.iload_n 2, 1) := z_dd_28 (by decide +kernel)
theorem dX12_deliver_47 : decode cX12_deliver 47 = .ok (.iastore, 1) := z_dd_79 (by decide +kernel)
theorem dX12_deliver_48 : decode cX12_deliver 48 = .ok (.aload_n 0, 1) := z_dd_42 (by decide +kernel)
theorem dX12_deliver_49 : decode cX12_deliver 49 = .ok (.getfield 154, 3) := z_dd_180 (by decide +kernel)
theorem dX12_deliver_52 : decode cX12_deliver 52 = .ok (.bipush 30, 2) := z_dd_16 (by decide +kernel)
theorem dX12_deliver_54 : decode cX12_deliver 54 = .ok (.iload_n 1, 1) := z_dd_27 (by decide +kernel)
theorem dX12_deliver_55 : decode cX12_deliver 55 = .ok (.imul, 1) := z_dd_104 (by decide +kernel)
theorem dX12_deliver_56 : decode cX12_deliver 56 = .ok (.aload_n 0, 1) := z_dd_42 (by decide +kernel)
theorem dX12_deliver_57 : decode cX12_deliver 57 = .ok (.getfield 145, 3) := z_dd_180 (by decide +kernel)
theorem dX12_deliver_60 : decode cX12_deliver 60 = .ok (.iload_n 1, 1) := z_dd_27 (by decide +kernel)
theorem dX12_deliver_61 : decode cX12_deliver 61 = .ok (.iaload, 1) := z_dd_46 (by decide +kernel)
theorem dX12_deliver_62 : decode cX12_deliver 62 = .ok (.iadd, 1) := z_dd_96 (by decide +kernel)
theorem dX12_deliver_63 : decode cX12_deliver 63 = .ok (.aload_n 0, 1) := z_dd_42 (by decide +kernel)
theorem dX12_deliver_64 : decode cX12_deliver 64 = .ok (.getfield 471, 3) := z_dd_180 (by decide +kernel)
theorem dX12_deliver_67 : decode cX12_deliver 67 = .ok (.iastore, 1) := z_dd_79 (by decide +kernel)
theorem dX12_deliver_68 : decode cX12_deliver 68 = .ok (.aload_n 0, 1) := z_dd_42 (by decide +kernel)
theorem dX12_deliver_69 : decode cX12_deliver 69 = .ok (.dup, 1) := z_dd_89 (by decide +kernel)
theorem dX12_deliver_70 : decode cX12_deliver 70 = .ok (.getfield 471, 3) := z_dd_180 (by decide +kernel)
theorem dX12_deliver_73 : decode cX12_deliver 73 = .ok (.iconst 1, 1) := z_dd_4 (by decide +kernel)
theorem dX12_deliver_74 : decode cX12_deliver 74 = .ok (.iadd, 1) := z_dd_96 (by decide +kernel)
theorem dX12_deliver_75 : decode cX12_deliver 75 = .ok (.putfield 471, 3) := z_dd_181 (by decide +kernel)
theorem dX12_deliver_78 : decode cX12_deliver 78 = .ok (.aload_n 0, 1) := z_dd_42 (by decide +kernel)
theorem dX12_deliver_79 : decode cX12_deliver 79 = .ok (.getfield 145, 3) := z_dd_180 (by decide +kernel)
theorem dX12_deliver_82 : decode cX12_deliver 82 = .ok (.iload_n 1, 1) := z_dd_27 (by decide +kernel)
theorem dX12_deliver_83 : decode cX12_deliver 83 = .ok (.dup2, 1) := z_dd_92 (by decide +kernel)
theorem dX12_deliver_84 : decode cX12_deliver 84 = .ok (.iaload, 1) := z_dd_46 (by decide +kernel)
theorem dX12_deliver_85 : decode cX12_deliver 85 = .ok (.iconst 1, 1) := z_dd_4 (by decide +kernel)
theorem dX12_deliver_86 : decode cX12_deliver 86 = .ok (.iadd, 1) := z_dd_96 (by decide +kernel)
theorem dX12_deliver_87 : decode cX12_deliver 87 = .ok (.iastore, 1) := z_dd_79 (by decide +kernel)
theorem dX12_deliver_88 : decode cX12_deliver 88 = .ok (.aload_n 0, 1) := z_dd_42 (by decide +kernel)
theorem dX12_deliver_89 : decode cX12_deliver 89 = .ok (.getfield 148, 3) := z_dd_180 (by decide +kernel)
theorem dX12_deliver_92 : decode cX12_deliver 92 = .ok (.iload_n 1, 1) := z_dd_27 (by decide +kernel)
theorem dX12_deliver_93 : decode cX12_deliver 93 = .ok (.dup2, 1) := z_dd_92 (by decide +kernel)
theorem dX12_deliver_94 : decode cX12_deliver 94 = .ok (.iaload, 1) := z_dd_46 (by decide +kernel)
theorem dX12_deliver_95 : decode cX12_deliver 95 = .ok (.iload_n 2, 1) := z_dd_28 (by decide +kernel)
theorem dX12_deliver_96 : decode cX12_deliver 96 = .ok (.iadd, 1) := z_dd_96 (by decide +kernel)
theorem dX12_deliver_97 : decode cX12_deliver 97 = .ok (.iastore, 1) := z_dd_79 (by decide +kernel)
theorem dX12_deliver_98 : decode cX12_deliver 98 = .ok (.aload_n 0, 1) := z_dd_42 (by decide +kernel)
theorem dX12_deliver_99 : decode cX12_deliver 99 = .ok (.getfield 148, 3) := z_dd_180 (by decide +kernel)
theorem dX12_deliver_102 : decode cX12_deliver 102 = .ok (.iload_n 1, 1) := z_dd_27 (by decide +kernel)
theorem dX12_deliver_103 : decode cX12_deliver 103 = .ok (.iaload, 1) := z_dd_46 (by decide +kernel)
theorem dX12_deliver_104 : decode cX12_deliver 104 = .ok (.ireturn, 1) := z_dd_172 (by decide +kernel)
theorem dX12_dip_8 : decode cX12_dip 8 = .ok (.iload_n 2, 1) := z_dd_28 (by decide +kernel)
theorem dX12_dip_9 : decode cX12_dip 9 = .ok (.iconst 0, 1) := z_dd_3 (by decide +kernel)
theorem dX12_dip_10 : decode cX12_dip 10 = .ok (.ldc_w 477, 3) := z_dd_19 (by decide +kernel)
set_option maxRecDepth 20000 in
theorem ggX12_dip_X12_within : GoodIn wsX12_dip wsX12_within := goodIn_sub (fa_c (me_s (me_l (List.mem_of_getElem? (i := 15) rfl))) fa_n) (by decide +kernel)
set_option maxRecDepth 20000 in
theorem gX12_dip_X12_within : GoodIn wsX12_dip (va_wsS RX12 235 yX12_within wsX12_within) := goodIn_app (goodIn_sub (fa_c (me_s (me_l (List.mem_of_getElem? (i := 13) rfl))) (fa_c (me_s (me_l (List.mem_of_getElem? (i := 14) rfl))) (fa_c (me_s (me_l (List.mem_of_getElem? (i := 10) rfl))) fa_n))) (by decide +kernel)) ggX12_dip_X12_within
theorem dX12_dip_13 : decode cX12_dip 13 = .ok (.invokestatic 235, 3) := z_dd_184 (by decide +kernel)
theorem dX12_dip_16 : decode cX12_dip 16 = .ok (.ifCond .eq 14, 3) := z_dd_153 (by decide +kernel)
theorem dX12_dip_19 : decode cX12_dip 19 = .ok (.aload_n 0, 1) := z_dd_42 (by decide +kernel)
theorem dX12_dip_20 : decode cX12_dip 20 = .ok (.getfield 157, 3) := z_dd_180 (by decide +kernel)
theorem dX12_dip_23 : decode cX12_dip 23 = .ok (.iload_n 1, 1) := z_dd_27 (by decide +kernel)
theorem dX12_dip_24 : decode cX12_dip 24 = .ok (.iaload, 1) := z_dd_46 (by decide +kernel)
theorem dX12_dip_25 : decode cX12_dip 25 = .ok (.bipush 30, 2) := z_dd_16 (by decide +kernel)
theorem dX12_dip_27 : decode cX12_dip 27 = .ok (.if_icmp .ne 5, 3) := z_dd_160 (by decide +kernel)
theorem dX12_dip_32 : decode cX12_dip 32 = .ok (.bipush 30, 2) := z_dd_16 (by decide +kernel)
theorem dX12_dip_34 : decode cX12_dip 34 = .ok (.iload_n 1, 1) := z_dd_27 (by decide +kernel)
theorem dX12_dip_35 : decode cX12_dip 35 = .ok (.imul, 1) := z_dd_104 (by decide +kernel)
theorem dX12_dip_36 : decode cX12_dip 36 = .ok (.aload_n 0, 1) := z_dd_42 (by decide +kernel)
theorem dX12_dip_37 : decode cX12_dip 37 = .ok (.getfield 157, 3) := z_dd_180 (by decide +kernel)
theorem dX12_dip_40 : decode cX12_dip 40 = .ok (.iload_n 1, 1) := z_dd_27 (by decide +kernel)
theorem dX12_dip_41 : decode cX12_dip 41 = .ok (.iaload, 1) := z_dd_46 (by decide +kernel)
theorem dX12_dip_42 : decode cX12_dip 42 = .ok (.iadd, 1) := z_dd_96 (by decide +kernel)
theorem dX12_dip_43 : decode cX12_dip 43 = .ok (.istore_n 3, 1) := z_dd_62 (by decide +kernel)
theorem dX12_dip_44 : decode cX12_dip 44 = .ok (.aload_n 0, 1) := z_dd_42 (by decide +kernel)
theorem dX12_dip_45 : decode cX12_dip 45 = .ok (.getfield 160, 3) := z_dd_180 (by decide +kernel)
theorem dX12_dip_48 : decode cX12_dip 48 = .ok (.iload_n 3, 1) := z_dd_29 (by decide +kernel)
theorem dX12_dip_49 : decode cX12_dip 49 = .ok (.iload_n 2, 1) := z_dd_28 (by decide +kernel)
theorem dX12_dip_50 : decode cX12_dip 50 = .ok (.iastore, 1) := z_dd_79 (by decide +kernel)
theorem dX12_dip_51 : decode cX12_dip 51 = .ok (.aload_n 0, 1) := z_dd_42 (by decide +kernel)
theorem dX12_dip_52 : decode cX12_dip 52 = .ok (.getfield 163, 3) := z_dd_180 (by decide +kernel)
theorem dX12_dip_55 : decode cX12_dip 55 = .ok (.iload_n 3, 1) := z_dd_29 (by decide +kernel)
theorem dX12_dip_56 : decode cX12_dip 56 = .ok (.aload_n 0, 1) := z_dd_42 (by decide +kernel)
theorem dX12_dip_57 : decode cX12_dip 57 = .ok (.getfield 232, 3) := z_dd_180 (by decide +kernel)
theorem dX12_dip_60 : decode cX12_dip 60 = .ok (.iastore, 1) := z_dd_79 (by decide +kernel)
theorem dX12_dip_61 : decode cX12_dip 61 = .ok (.aload_n 0, 1) := z_dd_42 (by decide +kernel)
theorem dX12_dip_62 : decode cX12_dip 62 = .ok (.getfield 166, 3) := z_dd_180 (by decide +kernel)
theorem dX12_dip_65 : decode cX12_dip 65 = .ok (.iload_n 3, 1) := z_dd_29 (by decide +kernel)
theorem dX12_dip_66 : decode cX12_dip 66 = .ok (.aload_n 0, 1) := z_dd_42 (by decide +kernel)
theorem dX12_dip_67 : decode cX12_dip 67 = .ok (.getfield 471, 3) := z_dd_180 (by decide +kernel)
theorem dX12_dip_70 : decode cX12_dip 70 = .ok (.iastore, 1) := z_dd_79 (by decide +kernel)
theorem dX12_dip_71 : decode cX12_dip 71 = .ok (.aload_n 0, 1) := z_dd_42 (by decide +kernel)
theorem dX12_dip_72 : decode cX12_dip 72 = .ok (.dup, 1) := z_dd_89 (by decide +kernel)
theorem dX12_dip_73 : decode cX12_dip 73 = .ok (.getfield 471, 3) := z_dd_180 (by decide +kernel)
theorem dX12_dip_76 : decode cX12_dip 76 = .ok (.iconst 1, 1) := z_dd_4 (by decide +kernel)
theorem dX12_dip_77 : decode cX12_dip 77 = .ok (.iadd, 1) := z_dd_96 (by decide +kernel)
theorem dX12_dip_78 : decode cX12_dip 78 = .ok (.putfield 471, 3) := z_dd_181 (by decide +kernel)
theorem dX12_dip_81 : decode cX12_dip 81 = .ok (.aload_n 0, 1) := z_dd_42 (by decide +kernel)
theorem dX12_dip_82 : decode cX12_dip 82 = .ok (.getfield 157, 3) := z_dd_180 (by decide +kernel)
theorem dX12_dip_85 : decode cX12_dip 85 = .ok (.iload_n 1, 1) := z_dd_27 (by decide +kernel)
theorem dX12_dip_86 : decode cX12_dip 86 = .ok (.dup2, 1) := z_dd_92 (by decide +kernel)
theorem dX12_dip_87 : decode cX12_dip 87 = .ok (.iaload, 1) := z_dd_46 (by decide +kernel)
theorem dX12_dip_88 : decode cX12_dip 88 = .ok (.iconst 1, 1) := z_dd_4 (by decide +kernel)
theorem dX12_dip_89 : decode cX12_dip 89 = .ok (.iadd, 1) := z_dd_96 (by decide +kernel)
theorem dX12_dip_90 : decode cX12_dip 90 = .ok (.iastore, 1) := z_dd_79 (by decide +kernel)
theorem dX12_dip_91 : decode cX12_dip 91 = .ok (.aload_n 0, 1) := z_dd_42 (by decide +kernel)
theorem dX12_dip_92 : decode cX12_dip 92 = .ok (.getfield 157, 3) := z_dd_180 (by decide +kernel)
theorem dX12_dip_95 : decode cX12_dip 95 = .ok (.iload_n 1, 1) := z_dd_27 (by decide +kernel)
theorem dX12_dip_96 : decode cX12_dip 96 = .ok (.iaload, 1) := z_dd_46 (by decide +kernel)
theorem dX12_dip_97 : decode cX12_dip 97 = .ok (.iconst 1, 1) := z_dd_4 (by decide +kernel)
theorem dX12_dip_98 : decode cX12_dip 98 = .ok (.isub, 1) := z_dd_100 (by decide +kernel)
theorem dX12_dip_99 : decode cX12_dip 99 = .ok (.ireturn, 1) := z_dd_172 (by decide +kernel)
theorem dX12_inOf_0 : decode cX12_inOf 0 = .ok (.bipush 30, 2) := z_dd_16 (by decide +kernel)
theorem dX12_inOf_2 : decode cX12_inOf 2 = .ok (.iload_n 1, 1) := z_dd_27 (by decide +kernel)
theorem dX12_inOf_3 : decode cX12_inOf 3 = .ok (.imul, 1) := z_dd_104 (by decide +kernel)
theorem dX12_inOf_4 : decode cX12_inOf 4 = .ok (.iload_n 2, 1) := z_dd_28 (by decide +kernel)
theorem dX12_inOf_5 : decode cX12_inOf 5 = .ok (.iadd, 1) := z_dd_96 (by decide +kernel)
theorem dX12_inOf_6 : decode cX12_inOf 6 = .ok (.istore_n 3, 1) := z_dd_62 (by decide +kernel)
theorem dX12_inOf_7 : decode cX12_inOf 7 = .ok (.lconst 0, 1) := z_dd_9 (by decide +kernel)
theorem dX12_inOf_8 : decode cX12_inOf 8 = .ok (.lstore 4, 2) := z_dd_55 (by decide +kernel)
theorem dX12_inOf_10 : decode cX12_inOf 10 = .ok (.bipush 30, 2) := z_dd_16 (by decide +kernel)
theorem dX12_inOf_12 : decode cX12_inOf 12 = .ok (.iload_n 1, 1) := z_dd_27 (by decide +kernel)
theorem dX12_inOf_13 : decode cX12_inOf 13 = .ok (.imul, 1) := z_dd_104 (by decide +kernel)
theorem dX12_inOf_14 : decode cX12_inOf 14 = .ok (.istore 6, 2) := z_dd_54 (by decide +kernel)
theorem dX12_inOf_16 : decode cX12_inOf 16 = .ok (.iload 6, 2) := z_dd_21 (by decide +kernel)
theorem dX12_inOf_18 : decode cX12_inOf 18 = .ok (.bipush 30, 2) := z_dd_16 (by decide +kernel)
theorem dX12_inOf_20 : decode cX12_inOf 20 = .ok (.iload_n 1, 1) := z_dd_27 (by decide +kernel)
theorem dX12_inOf_21 : decode cX12_inOf 21 = .ok (.imul, 1) := z_dd_104 (by decide +kernel)
theorem dX12_inOf_22 : decode cX12_inOf 22 = .ok (.aload_n 0, 1) := z_dd_42 (by decide +kernel)
theorem dX12_inOf_23 : decode cX12_inOf 23 = .ok (.getfield 145, 3) := z_dd_180 (by decide +kernel)
theorem dX12_inOf_26 : decode cX12_inOf 26 = .ok (.iload_n 1, 1) := z_dd_27 (by decide +kernel)
theorem dX12_inOf_27 : decode cX12_inOf 27 = .ok (.iaload, 1) := z_dd_46 (by decide +kernel)
theorem dX12_inOf_28 : decode cX12_inOf 28 = .ok (.iadd, 1) := z_dd_96 (by decide +kernel)
theorem dX12_inOf_29 : decode cX12_inOf 29 = .ok (.if_icmp .ge 56, 3) := z_dd_162 (by decide +kernel)
theorem dX12_inOf_85 : decode cX12_inOf 85 = .ok (.iconst 0, 1) := z_dd_3 (by decide +kernel)
theorem dX12_inOf_86 : decode cX12_inOf 86 = .ok (.istore 6, 2) := z_dd_54 (by decide +kernel)
theorem dX12_inOf_88 : decode cX12_inOf 88 = .ok (.iload 6, 2) := z_dd_21 (by decide +kernel)
theorem dX12_inOf_90 : decode cX12_inOf 90 = .ok (.aload_n 0, 1) := z_dd_42 (by decide +kernel)
theorem dX12_inOf_91 : decode cX12_inOf 91 = .ok (.getfield 468, 3) := z_dd_180 (by decide +kernel)
theorem dX12_inOf_94 : decode cX12_inOf 94 = .ok (.if_icmp .ge 94, 3) := z_dd_162 (by decide +kernel)
theorem dX12_inOf_188 : decode cX12_inOf 188 = .ok (.lload 4, 2) := z_dd_22 (by decide +kernel)
theorem dX12_inOf_190 : decode cX12_inOf 190 = .ok (.aload_n 0, 1) := z_dd_42 (by decide +kernel)
theorem dX12_inOf_191 : decode cX12_inOf 191 = .ok (.aload_n 0, 1) := z_dd_42 (by decide +kernel)
theorem dX12_inOf_192 : decode cX12_inOf 192 = .ok (.getfield 163, 3) := z_dd_180 (by decide +kernel)
theorem dX12_inOf_195 : decode cX12_inOf 195 = .ok (.iload_n 3, 1) := z_dd_29 (by decide +kernel)
theorem dX12_inOf_196 : decode cX12_inOf 196 = .ok (.iaload, 1) := z_dd_46 (by decide +kernel)
theorem dX12_inOf_197 : decode cX12_inOf 197 = .ok (.bipush 30, 2) := z_dd_16 (by decide +kernel)
theorem dX12_inOf_199 : decode cX12_inOf 199 = .ok (.idiv, 1) := z_dd_108 (by decide +kernel)
theorem dX12_inOf_200 : decode cX12_inOf 200 = .ok (.aload_n 0, 1) := z_dd_42 (by decide +kernel)
theorem dX12_inOf_201 : decode cX12_inOf 201 = .ok (.getfield 232, 3) := z_dd_180 (by decide +kernel)
theorem dX12_inOf_204 : decode cX12_inOf 204 = .ok (.bipush 6, 2) := z_dd_16 (by decide +kernel)
set_option maxRecDepth 20000 in
theorem ggX12_inOf_X12_number : GoodIn wsX12_inOf wsX12_number := goodIn_sub (fa_c (me_s (me_l (me_l (List.mem_of_getElem? (i := 15) rfl)))) (fa_a (fa_c (me_s (me_l (me_l (List.mem_of_getElem? (i := 16) rfl)))) (fa_c (me_s (me_l (me_l (List.mem_of_getElem? (i := 17) rfl)))) (fa_c (me_s (me_l (me_l (List.mem_of_getElem? (i := 18) rfl)))) (fa_c (me_s (me_l (me_l (List.mem_of_getElem? (i := 19) rfl)))) (fa_c (me_s (me_l (me_l (List.mem_of_getElem? (i := 20) rfl)))) (fa_c (me_s (me_l (me_l (List.mem_of_getElem? (i := 21) rfl)))) (fa_c (me_s (me_l (me_l (List.mem_of_getElem? (i := 22) rfl)))) (fa_c (me_s (me_l (me_l (List.mem_of_getElem? (i := 14) rfl)))) (fa_c (me_s (me_l (me_l (List.mem_of_getElem? (i := 23) rfl)))) (fa_c (me_s (me_l (me_r (List.mem_of_getElem? (i := 0) rfl)))) (fa_c (me_s (me_l (me_r (List.mem_of_getElem? (i := 1) rfl)))) (fa_c (me_s (me_l (me_r (List.mem_of_getElem? (i := 2) rfl)))) fa_n)))))))))))) (fun w h => (me_s (me_r h))))) (by decide +kernel)
set_option maxRecDepth 20000 in
theorem gX12_inOf_X12_number : GoodIn wsX12_inOf (wsV RX12 420 RX12 yX12_number wsX12_number) := goodIn_app (goodIn_sub (fa_c (me_s (me_l (me_l (List.mem_of_getElem? (i := 11) rfl)))) (fa_c (me_s (me_l (me_l (List.mem_of_getElem? (i := 12) rfl)))) (fa_c (me_s (me_l (me_l (List.mem_of_getElem? (i := 13) rfl)))) (fa_c (me_s (me_l (me_l (List.mem_of_getElem? (i := 14) rfl)))) fa_n)))) (by decide +kernel)) ggX12_inOf_X12_number
theorem dX12_inOf_206 : decode cX12_inOf 206 = .ok (.invokevirtual 420, 3) := z_dd_182 (by decide +kernel)
theorem dX12_inOf_209 : decode cX12_inOf 209 = .ok (.i2l, 1) := z_dd_133 (by decide +kernel)
theorem dX12_inOf_210 : decode cX12_inOf 210 = .ok (.aload_n 0, 1) := z_dd_42 (by decide +kernel)
theorem dX12_inOf_211 : decode cX12_inOf 211 = .ok (.getfield 163, 3) := z_dd_180 (by decide +kernel)
theorem dX12_inOf_214 : decode cX12_inOf 214 = .ok (.iload_n 3, 1) := z_dd_29 (by decide +kernel)
theorem dX12_inOf_215 : decode cX12_inOf 215 = .ok (.iconst 1, 1) := z_dd_4 (by decide +kernel)
theorem dX12_inOf_216 : decode cX12_inOf 216 = .ok (.iadd, 1) := z_dd_96 (by decide +kernel)
theorem dX12_inOf_217 : decode cX12_inOf 217 = .ok (.iaload, 1) := z_dd_46 (by decide +kernel)
theorem dX12_inOf_218 : decode cX12_inOf 218 = .ok (.aload_n 0, 1) := z_dd_42 (by decide +kernel)
theorem dX12_inOf_219 : decode cX12_inOf 219 = .ok (.getfield 163, 3) := z_dd_180 (by decide +kernel)
theorem dX12_inOf_222 : decode cX12_inOf 222 = .ok (.iload_n 3, 1) := z_dd_29 (by decide +kernel)
theorem dX12_inOf_223 : decode cX12_inOf 223 = .ok (.iaload, 1) := z_dd_46 (by decide +kernel)
theorem dX12_inOf_224 : decode cX12_inOf 224 = .ok (.isub, 1) := z_dd_100 (by decide +kernel)
theorem dX12_inOf_225 : decode cX12_inOf 225 = .ok (.i2l, 1) := z_dd_133 (by decide +kernel)
theorem dX12_inOf_226 : decode cX12_inOf 226 = .ok (.lmul, 1) := z_dd_105 (by decide +kernel)
theorem dX12_inOf_227 : decode cX12_inOf 227 = .ok (.lsub, 1) := z_dd_101 (by decide +kernel)
theorem dX12_inOf_228 : decode cX12_inOf 228 = .ok (.lreturn, 1) := z_dd_173 (by decide +kernel)
theorem dX12_inOf_97 : decode cX12_inOf 97 = .ok (.aload_n 0, 1) := z_dd_42 (by decide +kernel)
theorem dX12_inOf_98 : decode cX12_inOf 98 = .ok (.getfield 136, 3) := z_dd_180 (by decide +kernel)
theorem dX12_inOf_101 : decode cX12_inOf 101 = .ok (.iload 6, 2) := z_dd_21 (by decide +kernel)
theorem dX12_inOf_103 : decode cX12_inOf 103 = .ok (.iaload, 1) := z_dd_46 (by decide +kernel)
theorem dX12_inOf_104 : decode cX12_inOf 104 = .ok (.istore 7, 2) := z_dd_54 (by decide +kernel)
theorem dX12_inOf_106 : decode cX12_inOf 106 = .ok (.aload_n 0, 1) := z_dd_42 (by decide +kernel)
theorem dX12_inOf_107 : decode cX12_inOf 107 = .ok (.getfield 118, 3) := z_dd_180 (by decide +kernel)
theorem dX12_inOf_110 : decode cX12_inOf 110 = .ok (.iload 6, 2) := z_dd_21 (by decide +kernel)
theorem dX12_inOf_112 : decode cX12_inOf 112 = .ok (.iaload, 1) := z_dd_46 (by decide +kernel)
theorem dX12_inOf_113 : decode cX12_inOf 113 = .ok (.iload_n 1, 1) := z_dd_27 (by decide +kernel)
theorem dX12_inOf_114 : decode cX12_inOf 114 = .ok (.if_icmp .ne 68, 3) := z_dd_160 (by decide +kernel)
theorem dX12_inOf_182 : decode cX12_inOf 182 = .ok (.iinc 6 1, 3) := z_dd_132 (by decide +kernel)
theorem dX12_inOf_185 : decode cX12_inOf 185 = .ok (.goto (-97), 3) := z_dd_167 (by decide +kernel)
theorem dX12_inOf_117 : decode cX12_inOf 117 = .ok (.aload_n 0, 1) := z_dd_42 (by decide +kernel)
theorem dX12_inOf_118 : decode cX12_inOf 118 = .ok (.getfield 139, 3) := z_dd_180 (by decide +kernel)
theorem dX12_inOf_121 : decode cX12_inOf 121 = .ok (.iload 6, 2) := z_dd_21 (by decide +kernel)
theorem dX12_inOf_123 : decode cX12_inOf 123 = .ok (.iaload, 1) := z_dd_46 (by decide +kernel)
theorem dX12_inOf_124 : decode cX12_inOf 124 = .ok (.aload_n 0, 1) := z_dd_42 (by decide +kernel)
theorem dX12_inOf_125 : decode cX12_inOf 125 = .ok (.getfield 166, 3) := z_dd_180 (by decide +kernel)
theorem dX12_inOf_128 : decode cX12_inOf 128 = .ok (.iload_n 3, 1) := z_dd_29 (by decide +kernel)
theorem dX12_inOf_129 : decode cX12_inOf 129 = .ok (.iaload, 1) := z_dd_46 (by decide +kernel)
theorem dX12_inOf_130 : decode cX12_inOf 130 = .ok (.if_icmp .le 52, 3) := z_dd_164 (by decide +kernel)
theorem dX12_inOf_133 : decode cX12_inOf 133 = .ok (.aload_n 0, 1) := z_dd_42 (by decide +kernel)
theorem dX12_inOf_134 : decode cX12_inOf 134 = .ok (.getfield 139, 3) := z_dd_180 (by decide +kernel)
theorem dX12_inOf_137 : decode cX12_inOf 137 = .ok (.iload 6, 2) := z_dd_21 (by decide +kernel)
theorem dX12_inOf_139 : decode cX12_inOf 139 = .ok (.iaload, 1) := z_dd_46 (by decide +kernel)
theorem dX12_inOf_140 : decode cX12_inOf 140 = .ok (.aload_n 0, 1) := z_dd_42 (by decide +kernel)
theorem dX12_inOf_141 : decode cX12_inOf 141 = .ok (.getfield 166, 3) := z_dd_180 (by decide +kernel)
theorem dX12_inOf_144 : decode cX12_inOf 144 = .ok (.iload_n 3, 1) := z_dd_29 (by decide +kernel)
theorem dX12_inOf_145 : decode cX12_inOf 145 = .ok (.iconst 1, 1) := z_dd_4 (by decide +kernel)
theorem dX12_inOf_146 : decode cX12_inOf 146 = .ok (.iadd, 1) := z_dd_96 (by decide +kernel)
theorem dX12_inOf_147 : decode cX12_inOf 147 = .ok (.iaload, 1) := z_dd_46 (by decide +kernel)
theorem dX12_inOf_148 : decode cX12_inOf 148 = .ok (.if_icmp .ge 34, 3) := z_dd_162 (by decide +kernel)
theorem dX12_inOf_151 : decode cX12_inOf 151 = .ok (.iload 7, 2) := z_dd_21 (by decide +kernel)
theorem dX12_inOf_153 : decode cX12_inOf 153 = .ok (.iconst 1, 1) := z_dd_4 (by decide +kernel)
theorem dX12_inOf_154 : decode cX12_inOf 154 = .ok (.if_icmp .eq 28, 3) := z_dd_159 (by decide +kernel)
theorem dX12_inOf_157 : decode cX12_inOf 157 = .ok (.iload 7, 2) := z_dd_21 (by decide +kernel)
theorem dX12_inOf_159 : decode cX12_inOf 159 = .ok (.iconst 2, 1) := z_dd_5 (by decide +kernel)
theorem dX12_inOf_160 : decode cX12_inOf 160 = .ok (.if_icmp .eq 22, 3) := z_dd_159 (by decide +kernel)
theorem dX12_inOf_163 : decode cX12_inOf 163 = .ok (.iload 7, 2) := z_dd_21 (by decide +kernel)
theorem dX12_inOf_165 : decode cX12_inOf 165 = .ok (.iconst 4, 1) := z_dd_7 (by decide +kernel)
theorem dX12_inOf_166 : decode cX12_inOf 166 = .ok (.if_icmp .eq 16, 3) := z_dd_159 (by decide +kernel)
theorem dX12_inOf_169 : decode cX12_inOf 169 = .ok (.lload 4, 2) := z_dd_22 (by decide +kernel)
theorem dX12_inOf_171 : decode cX12_inOf 171 = .ok (.aload_n 0, 1) := z_dd_42 (by decide +kernel)
theorem dX12_inOf_172 : decode cX12_inOf 172 = .ok (.getfield 130, 3) := z_dd_180 (by decide +kernel)
theorem dX12_inOf_175 : decode cX12_inOf 175 = .ok (.iload 6, 2) := z_dd_21 (by decide +kernel)
theorem dX12_inOf_177 : decode cX12_inOf 177 = .ok (.iaload, 1) := z_dd_46 (by decide +kernel)
theorem dX12_inOf_178 : decode cX12_inOf 178 = .ok (.i2l, 1) := z_dd_133 (by decide +kernel)
theorem dX12_inOf_179 : decode cX12_inOf 179 = .ok (.lsub, 1) := z_dd_101 (by decide +kernel)
theorem dX12_inOf_180 : decode cX12_inOf 180 = .ok (.lstore 4, 2) := z_dd_55 (by decide +kernel)
theorem dX12_inOf_32 : decode cX12_inOf 32 = .ok (.aload_n 0, 1) := z_dd_42 (by decide +kernel)
theorem dX12_inOf_33 : decode cX12_inOf 33 = .ok (.getfield 154, 3) := z_dd_180 (by decide +kernel)
theorem dX12_inOf_36 : decode cX12_inOf 36 = .ok (.iload 6, 2) := z_dd_21 (by decide +kernel)
theorem dX12_inOf_38 : decode cX12_inOf 38 = .ok (.iaload, 1) := z_dd_46 (by decide +kernel)
theorem dX12_inOf_39 : decode cX12_inOf 39 = .ok (.aload_n 0, 1) := z_dd_42 (by decide +kernel)
theorem dX12_inOf_40 : decode cX12_inOf 40 = .ok (.getfield 166, 3) := z_dd_180 (by decide +kernel)
theorem dX12_inOf_43 : decode cX12_inOf 43 = .ok (.iload_n 3, 1) := z_dd_29 (by decide +kernel)
theorem dX12_inOf_44 : decode cX12_inOf 44 = .ok (.iaload, 1) := z_dd_46 (by decide +kernel)
theorem dX12_inOf_45 : decode cX12_inOf 45 = .ok (.if_icmp .le 34, 3) := z_dd_164 (by decide +kernel)
theorem dX12_inOf_79 : decode cX12_inOf 79 = .ok (.iinc 6 1, 3) := z_dd_132 (by decide +kernel)
theorem dX12_inOf_82 : decode cX12_inOf 82 = .ok (.goto (-66), 3) := z_dd_167 (by decide +kernel)
theorem dX12_inOf_48 : decode cX12_inOf 48 = .ok (.aload_n 0, 1) := z_dd_42 (by decide +kernel)
theorem dX12_inOf_49 : decode cX12_inOf 49 = .ok (.getfield 154, 3) := z_dd_180 (by decide +kernel)
theorem dX12_inOf_52 : decode cX12_inOf 52 = .ok (.iload 6, 2) := z_dd_21 (by decide +kernel)
theorem dX12_inOf_54 : decode cX12_inOf 54 = .ok (.iaload, 1) := z_dd_46 (by decide +kernel)
theorem dX12_inOf_55 : decode cX12_inOf 55 = .ok (.aload_n 0, 1) := z_dd_42 (by decide +kernel)
theorem dX12_inOf_56 : decode cX12_inOf 56 = .ok (.getfield 166, 3) := z_dd_180 (by decide +kernel)
theorem dX12_inOf_59 : decode cX12_inOf 59 = .ok (.iload_n 3, 1) := z_dd_29 (by decide +kernel)
theorem dX12_inOf_60 : decode cX12_inOf 60 = .ok (.iconst 1, 1) := z_dd_4 (by decide +kernel)
theorem dX12_inOf_61 : decode cX12_inOf 61 = .ok (.iadd, 1) := z_dd_96 (by decide +kernel)
theorem dX12_inOf_62 : decode cX12_inOf 62 = .ok (.iaload, 1) := z_dd_46 (by decide +kernel)
theorem dX12_inOf_63 : decode cX12_inOf 63 = .ok (.if_icmp .ge 16, 3) := z_dd_162 (by decide +kernel)
theorem dX12_inOf_66 : decode cX12_inOf 66 = .ok (.lload 4, 2) := z_dd_22 (by decide +kernel)
theorem dX12_inOf_68 : decode cX12_inOf 68 = .ok (.aload_n 0, 1) := z_dd_42 (by decide +kernel)
theorem dX12_inOf_69 : decode cX12_inOf 69 = .ok (.getfield 151, 3) := z_dd_180 (by decide +kernel)
theorem dX12_inOf_72 : decode cX12_inOf 72 = .ok (.iload 6, 2) := z_dd_21 (by decide +kernel)
theorem dX12_inOf_74 : decode cX12_inOf 74 = .ok (.iaload, 1) := z_dd_46 (by decide +kernel)
theorem dX12_inOf_75 : decode cX12_inOf 75 = .ok (.i2l, 1) := z_dd_133 (by decide +kernel)
theorem dX12_inOf_76 : decode cX12_inOf 76 = .ok (.ladd, 1) := z_dd_97 (by decide +kernel)
theorem dX12_inOf_77 : decode cX12_inOf 77 = .ok (.lstore 4, 2) := z_dd_55 (by decide +kernel)
theorem dX12_in_8 : decode cX12_in 8 = .ok (.iload_n 2, 1) := z_dd_28 (by decide +kernel)
theorem dX12_in_9 : decode cX12_in 9 = .ok (.ifCond .lt 25, 3) := z_dd_155 (by decide +kernel)
theorem dX12_in_12 : decode cX12_in 12 = .ok (.iload_n 2, 1) := z_dd_28 (by decide +kernel)
theorem dX12_in_13 : decode cX12_in 13 = .ok (.aload_n 0, 1) := z_dd_42 (by decide +kernel)
theorem dX12_in_14 : decode cX12_in 14 = .ok (.getfield 157, 3) := z_dd_180 (by decide +kernel)
theorem dX12_in_17 : decode cX12_in 17 = .ok (.iload_n 1, 1) := z_dd_27 (by decide +kernel)
theorem dX12_in_18 : decode cX12_in 18 = .ok (.iaload, 1) := z_dd_46 (by decide +kernel)
theorem dX12_in_19 : decode cX12_in 19 = .ok (.iconst 1, 1) := z_dd_4 (by decide +kernel)
theorem dX12_in_20 : decode cX12_in 20 = .ok (.isub, 1) := z_dd_100 (by decide +kernel)
theorem dX12_in_21 : decode cX12_in 21 = .ok (.if_icmp .ge 13, 3) := z_dd_162 (by decide +kernel)
theorem dX12_in_24 : decode cX12_in 24 = .ok (.aload_n 0, 1) := z_dd_42 (by decide +kernel)
theorem dX12_in_25 : decode cX12_in 25 = .ok (.iload_n 1, 1) := z_dd_27 (by decide +kernel)
theorem dX12_in_26 : decode cX12_in 26 = .ok (.iload_n 2, 1) := z_dd_28 (by decide +kernel)
set_option maxRecDepth 20000 in
theorem ggX12_in_X12_inOf : GoodIn wsX12_in wsX12_inOf := goodIn_sub (fa_c (me_s (me_l (me_l (List.mem_of_getElem? (i := 11) rfl)))) (fa_a (fa_a (fa_c (me_s (me_l (me_l (List.mem_of_getElem? (i := 12) rfl)))) (fa_c (me_s (me_l (me_l (List.mem_of_getElem? (i := 13) rfl)))) (fa_c (me_s (me_l (me_l (List.mem_of_getElem? (i := 14) rfl)))) (fa_c (me_s (me_l (me_l (List.mem_of_getElem? (i := 15) rfl)))) (fa_c (me_s (me_l (me_l (List.mem_of_getElem? (i := 16) rfl)))) (fa_c (me_s (me_l (me_l (List.mem_of_getElem? (i := 17) rfl)))) (fa_c (me_s (me_l (me_l (List.mem_of_getElem? (i := 18) rfl)))) (fa_c (me_s (me_l (me_l (List.mem_of_getElem? (i := 19) rfl)))) (fa_c (me_s (me_l (me_l (List.mem_of_getElem? (i := 20) rfl)))) (fa_c (me_s (me_l (me_l (List.mem_of_getElem? (i := 21) rfl)))) (fa_c (me_s (me_l (me_l (List.mem_of_getElem? (i := 22) rfl)))) (fa_c (me_s (me_l (me_l (List.mem_of_getElem? (i := 23) rfl)))) (fa_c (me_s (me_l (me_r (List.mem_of_getElem? (i := 0) rfl)))) (fa_c (me_s (me_l (me_r (List.mem_of_getElem? (i := 1) rfl)))) (fa_c (me_s (me_l (me_l (List.mem_of_getElem? (i := 5) rfl)))) (fa_c (me_s (me_l (me_r (List.mem_of_getElem? (i := 2) rfl)))) (fa_c (me_s (me_l (me_r (List.mem_of_getElem? (i := 3) rfl)))) (fa_c (me_s (me_l (me_r (List.mem_of_getElem? (i := 4) rfl)))) (fa_c (me_s (me_l (me_r (List.mem_of_getElem? (i := 5) rfl)))) (fa_c (me_s (me_l (me_r (List.mem_of_getElem? (i := 6) rfl)))) (fa_c (me_s (me_l (me_r (List.mem_of_getElem? (i := 7) rfl)))) (fa_c (me_s (me_l (me_r (List.mem_of_getElem? (i := 8) rfl)))) (fa_c (me_s (me_l (me_r (List.mem_of_getElem? (i := 9) rfl)))) (fa_c (me_s (me_l (me_r (List.mem_of_getElem? (i := 10) rfl)))) fa_n)))))))))))))))))))))))) (fa_c (me_s (me_l (me_r (List.mem_of_getElem? (i := 11) rfl)))) (fa_c (me_s (me_l (me_r (List.mem_of_getElem? (i := 12) rfl)))) (fa_c (me_s (me_l (me_r (List.mem_of_getElem? (i := 13) rfl)))) fa_n)))) (fun w h => (me_s (me_r h))))) (by decide +kernel)
set_option maxRecDepth 20000 in
theorem gX12_in_X12_inOf : GoodIn wsX12_in (wsV RX12 478 RX12 yX12_inOf wsX12_inOf) := goodIn_app (goodIn_sub (fa_c (me_s (me_l (me_l (List.mem_of_getElem? (i := 8) rfl)))) (fa_c (me_s (me_l (me_l (List.mem_of_getElem? (i := 9) rfl)))) (fa_c (me_s (me_l (me_l (List.mem_of_getElem? (i := 10) rfl)))) (fa_c (me_s (me_l (me_l (List.mem_of_getElem? (i := 5) rfl)))) fa_n)))) (by decide +kernel)) ggX12_in_X12_inOf
theorem dX12_in_27 : decode cX12_in 27 = .ok (.invokevirtual 478, 3) := z_dd_182 (by decide +kernel)
theorem dX12_in_30 : decode cX12_in 30 = .ok (.l2i, 1) := z_dd_136 (by decide +kernel)
theorem dX12_in_31 : decode cX12_in 31 = .ok (.goto 6, 3) := z_dd_167 (by decide +kernel)
theorem dX12_lowOf_0 : decode cX12_lowOf 0 = .ok (.aload_n 0, 1) := z_dd_42 (by decide +kernel)
theorem dX12_lowOf_1 : decode cX12_lowOf 1 = .ok (.getfield 160, 3) := z_dd_180 (by decide +kernel)
theorem dX12_lowOf_4 : decode cX12_lowOf 4 = .ok (.iload_n 1, 1) := z_dd_27 (by decide +kernel)
theorem dX12_lowOf_5 : decode cX12_lowOf 5 = .ok (.iaload, 1) := z_dd_46 (by decide +kernel)
theorem dX12_lowOf_6 : decode cX12_lowOf 6 = .ok (.i2l, 1) := z_dd_133 (by decide +kernel)
theorem dX12_lowOf_7 : decode cX12_lowOf 7 = .ok (.aload_n 0, 1) := z_dd_42 (by decide +kernel)
theorem dX12_lowOf_8 : decode cX12_lowOf 8 = .ok (.aload_n 0, 1) := z_dd_42 (by decide +kernel)
theorem dX12_lowOf_9 : decode cX12_lowOf 9 = .ok (.getfield 163, 3) := z_dd_180 (by decide +kernel)
theorem dX12_lowOf_12 : decode cX12_lowOf 12 = .ok (.iload_n 1, 1) := z_dd_27 (by decide +kernel)
theorem dX12_lowOf_13 : decode cX12_lowOf 13 = .ok (.iaload, 1) := z_dd_46 (by decide +kernel)
theorem dX12_lowOf_14 : decode cX12_lowOf 14 = .ok (.bipush 30, 2) := z_dd_16 (by decide +kernel)
theorem dX12_lowOf_16 : decode cX12_lowOf 16 = .ok (.idiv, 1) := z_dd_108 (by decide +kernel)
theorem dX12_lowOf_17 : decode cX12_lowOf 17 = .ok (.aload_n 0, 1) := z_dd_42 (by decide +kernel)
theorem dX12_lowOf_18 : decode cX12_lowOf 18 = .ok (.getfield 232, 3) := z_dd_180 (by decide +kernel)
theorem dX12_lowOf_21 : decode cX12_lowOf 21 = .ok (.bipush 7, 2) := z_dd_16 (by decide +kernel)
set_option maxRecDepth 20000 in
theorem ggX12_lowOf_X12_number : GoodIn wsX12_lowOf wsX12_number := goodIn_sub (fa_c (me_s (me_l (List.mem_of_getElem? (i := 7) rfl))) (fa_a (fa_c (me_s (me_l (List.mem_of_getElem? (i := 8) rfl))) (fa_c (me_s (me_l (List.mem_of_getElem? (i := 9) rfl))) (fa_c (me_s (me_l (List.mem_of_getElem? (i := 10) rfl))) (fa_c (me_s (me_l (List.mem_of_getElem? (i := 11) rfl))) (fa_c (me_s (me_l (List.mem_of_getElem? (i := 12) rfl))) (fa_c (me_s (me_l (List.mem_of_getElem? (i := 13) rfl))) (fa_c (me_s (me_l (List.mem_of_getElem? (i := 14) rfl))) (fa_c (me_s (me_l (List.mem_of_getElem? (i := 6) rfl))) (fa_c (me_s (me_l (List.mem_of_getElem? (i := 15) rfl))) (fa_c (me_s (me_l (List.mem_of_getElem? (i := 16) rfl))) (fa_c (me_s (me_l (List.mem_of_getElem? (i := 17) rfl))) (fa_c (me_s (me_l (List.mem_of_getElem? (i := 18) rfl))) fa_n)))))))))))) (fun w h => (me_s (me_r h))))) (by decide +kernel)
set_option maxRecDepth 20000 in
theorem gX12_lowOf_X12_number : GoodIn wsX12_lowOf (wsV RX12 420 RX12 yX12_number wsX12_number) := goodIn_app (goodIn_sub (fa_c (me_s (me_l (List.mem_of_getElem? (i := 3) rfl))) (fa_c (me_s (me_l (List.mem_of_getElem? (i := 4) rfl))) (fa_c (me_s (me_l (List.mem_of_getElem? (i := 5) rfl))) (fa_c (me_s (me_l (List.mem_of_getElem? (i := 6) rfl))) fa_n)))) (by decide +kernel)) ggX12_lowOf_X12_number
theorem dX12_lowOf_23 : decode cX12_lowOf 23 = .ok (.invokevirtual 420, 3) := z_dd_182 (by decide +kernel)
theorem dX12_lowOf_26 : decode cX12_lowOf 26 = .ok (.i2l, 1) := z_dd_133 (by decide +kernel)
theorem dX12_lowOf_27 : decode cX12_lowOf 27 = .ok (.lsub, 1) := z_dd_101 (by decide +kernel)
theorem dX12_lowOf_28 : decode cX12_lowOf 28 = .ok (.lstore_n 2, 1) := z_dd_65 (by decide +kernel)
theorem dX12_lowOf_29 : decode cX12_lowOf 29 = .ok (.lload_n 2, 1) := z_dd_32 (by decide +kernel)
theorem dX12_lowOf_30 : decode cX12_lowOf 30 = .ok (.lconst 0, 1) := z_dd_9 (by decide +kernel)
theorem dX12_lowOf_31 : decode cX12_lowOf 31 = .ok (.lcmp, 1) := z_dd_148 (by decide +kernel)
theorem dX12_lowOf_32 : decode cX12_lowOf 32 = .ok (.ifCond .ge 7, 3) := z_dd_156 (by decide +kernel)
theorem dX12_lowOf_39 : decode cX12_lowOf 39 = .ok (.lload_n 2, 1) := z_dd_32 (by decide +kernel)
theorem dX12_lowOf_40 : decode cX12_lowOf 40 = .ok (.lreturn, 1) := z_dd_173 (by decide +kernel)
theorem dX12_lowOf_35 : decode cX12_lowOf 35 = .ok (.lconst 0, 1) := z_dd_9 (by decide +kernel)
theorem dX12_lowOf_36 : decode cX12_lowOf 36 = .ok (.goto 4, 3) := z_dd_167 (by decide +kernel)
theorem dX12_highOf_0 : decode cX12_highOf 0 = .ok (.aload_n 0, 1) := z_dd_42 (by decide +kernel)
theorem dX12_highOf_1 : decode cX12_highOf 1 = .ok (.getfield 160, 3) := z_dd_180 (by decide +kernel)
theorem dX12_highOf_4 : decode cX12_highOf 4 = .ok (.iload_n 1, 1) := z_dd_27 (by decide +kernel)
theorem dX12_highOf_5 : decode cX12_highOf 5 = .ok (.iaload, 1) := z_dd_46 (by decide +kernel)
theorem dX12_highOf_6 : decode cX12_highOf 6 = .ok (.i2l, 1) := z_dd_133 (by decide +kernel)
theorem dX12_highOf_7 : decode cX12_highOf 7 = .ok (.aload_n 0, 1) := z_dd_42 (by decide +kernel)
theorem dX12_highOf_8 : decode cX12_highOf 8 = .ok (.aload_n 0, 1) := z_dd_42 (by decide +kernel)
theorem dX12_highOf_9 : decode cX12_highOf 9 = .ok (.getfield 163, 3) := z_dd_180 (by decide +kernel)
theorem dX12_highOf_12 : decode cX12_highOf 12 = .ok (.iload_n 1, 1) := z_dd_27 (by decide +kernel)
theorem dX12_highOf_13 : decode cX12_highOf 13 = .ok (.iaload, 1) := z_dd_46 (by decide +kernel)
theorem dX12_highOf_14 : decode cX12_highOf 14 = .ok (.bipush 30, 2) := z_dd_16 (by decide +kernel)
theorem dX12_highOf_16 : decode cX12_highOf 16 = .ok (.idiv, 1) := z_dd_108 (by decide +kernel)
theorem dX12_highOf_17 : decode cX12_highOf 17 = .ok (.aload_n 0, 1) := z_dd_42 (by decide +kernel)
theorem dX12_highOf_18 : decode cX12_highOf 18 = .ok (.getfield 232, 3) := z_dd_180 (by decide +kernel)
theorem dX12_highOf_21 : decode cX12_highOf 21 = .ok (.bipush 7, 2) := z_dd_16 (by decide +kernel)
set_option maxRecDepth 20000 in
theorem ggX12_highOf_X12_number : GoodIn wsX12_highOf wsX12_number := goodIn_sub (fa_c (me_s (me_l (List.mem_of_getElem? (i := 7) rfl))) (fa_a (fa_c (me_s (me_l (List.mem_of_getElem? (i := 8) rfl))) (fa_c (me_s (me_l (List.mem_of_getElem? (i := 9) rfl))) (fa_c (me_s (me_l (List.mem_of_getElem? (i := 10) rfl))) (fa_c (me_s (me_l (List.mem_of_getElem? (i := 11) rfl))) (fa_c (me_s (me_l (List.mem_of_getElem? (i := 12) rfl))) (fa_c (me_s (me_l (List.mem_of_getElem? (i := 13) rfl))) (fa_c (me_s (me_l (List.mem_of_getElem? (i := 14) rfl))) (fa_c (me_s (me_l (List.mem_of_getElem? (i := 6) rfl))) (fa_c (me_s (me_l (List.mem_of_getElem? (i := 15) rfl))) (fa_c (me_s (me_l (List.mem_of_getElem? (i := 16) rfl))) (fa_c (me_s (me_l (List.mem_of_getElem? (i := 17) rfl))) (fa_c (me_s (me_l (List.mem_of_getElem? (i := 18) rfl))) fa_n)))))))))))) (fun w h => (me_s (me_r h))))) (by decide +kernel)
set_option maxRecDepth 20000 in
theorem gX12_highOf_X12_number : GoodIn wsX12_highOf (wsV RX12 420 RX12 yX12_number wsX12_number) := goodIn_app (goodIn_sub (fa_c (me_s (me_l (List.mem_of_getElem? (i := 3) rfl))) (fa_c (me_s (me_l (List.mem_of_getElem? (i := 4) rfl))) (fa_c (me_s (me_l (List.mem_of_getElem? (i := 5) rfl))) (fa_c (me_s (me_l (List.mem_of_getElem? (i := 6) rfl))) fa_n)))) (by decide +kernel)) ggX12_highOf_X12_number
theorem dX12_highOf_23 : decode cX12_highOf 23 = .ok (.invokevirtual 420, 3) := z_dd_182 (by decide +kernel)
theorem dX12_highOf_26 : decode cX12_highOf 26 = .ok (.i2l, 1) := z_dd_133 (by decide +kernel)
theorem dX12_highOf_27 : decode cX12_highOf 27 = .ok (.ladd, 1) := z_dd_97 (by decide +kernel)
theorem dX12_highOf_28 : decode cX12_highOf 28 = .ok (.lreturn, 1) := z_dd_173 (by decide +kernel)
theorem dX12_sums__8 : decode cX12_sums_ 8 = .ok (.iload_n 2, 1) := z_dd_28 (by decide +kernel)
theorem dX12_sums__9 : decode cX12_sums_ 9 = .ok (.ifCond .lt 28, 3) := z_dd_155 (by decide +kernel)
theorem dX12_sums__12 : decode cX12_sums_ 12 = .ok (.iload_n 3, 1) := z_dd_29 (by decide +kernel)
theorem dX12_sums__13 : decode cX12_sums_ 13 = .ok (.iload_n 2, 1) := z_dd_28 (by decide +kernel)
theorem dX12_sums__14 : decode cX12_sums_ 14 = .ok (.if_icmp .le 23, 3) := z_dd_164 (by decide +kernel)
theorem dX12_sums__17 : decode cX12_sums_ 17 = .ok (.iload_n 3, 1) := z_dd_29 (by decide +kernel)
theorem dX12_sums__18 : decode cX12_sums_ 18 = .ok (.aload_n 0, 1) := z_dd_42 (by decide +kernel)
theorem dX12_sums__19 : decode cX12_sums_ 19 = .ok (.getfield 157, 3) := z_dd_180 (by decide +kernel)
theorem dX12_sums__22 : decode cX12_sums_ 22 = .ok (.iload_n 1, 1) := z_dd_27 (by decide +kernel)
theorem dX12_sums__23 : decode cX12_sums_ 23 = .ok (.iaload, 1) := z_dd_46 (by decide +kernel)
theorem dX12_sums__24 : decode cX12_sums_ 24 = .ok (.if_icmp .ge 13, 3) := z_dd_162 (by decide +kernel)
theorem dX12_sums__27 : decode cX12_sums_ 27 = .ok (.iload 4, 2) := z_dd_21 (by decide +kernel)
theorem dX12_sums__29 : decode cX12_sums_ 29 = .ok (.iconst 0, 1) := z_dd_3 (by decide +kernel)
theorem dX12_sums__30 : decode cX12_sums_ 30 = .ok (.iconst 1, 1) := z_dd_4 (by decide +kernel)
set_option maxRecDepth 20000 in
theorem ggX12_sums__X12_within : GoodIn wsX12_sums_ wsX12_within := goodIn_sub (fa_c (me_s (me_l (me_l (List.mem_of_getElem? (i := 11) rfl)))) fa_n) (by decide +kernel)
set_option maxRecDepth 20000 in
theorem gX12_sums__X12_within : GoodIn wsX12_sums_ (va_wsS RX12 235 yX12_within wsX12_within) := goodIn_app (goodIn_sub (fa_c (me_s (me_l (me_l (List.mem_of_getElem? (i := 9) rfl)))) (fa_c (me_s (me_l (me_l (List.mem_of_getElem? (i := 10) rfl)))) (fa_c (me_s (me_l (me_l (List.mem_of_getElem? (i := 6) rfl)))) fa_n))) (by decide +kernel)) ggX12_sums__X12_within
theorem dX12_sums__31 : decode cX12_sums_ 31 = .ok (.invokestatic 235, 3) := z_dd_184 (by decide +kernel)
theorem dX12_sums__34 : decode cX12_sums_ 34 = .ok (.ifCond .ne 7, 3) := z_dd_154 (by decide +kernel)
theorem dX12_sums__41 : decode cX12_sums_ 41 = .ok (.bipush 30, 2) := z_dd_16 (by decide +kernel)
theorem dX12_sums__43 : decode cX12_sums_ 43 = .ok (.iload_n 1, 1) := z_dd_27 (by decide +kernel)
theorem dX12_sums__44 : decode cX12_sums_ 44 = .ok (.imul, 1) := z_dd_104 (by decide +kernel)
theorem dX12_sums__45 : decode cX12_sums_ 45 = .ok (.istore 5, 2) := z_dd_54 (by decide +kernel)
theorem dX12_sums__47 : decode cX12_sums_ 47 = .ok (.aload_n 0, 1) := z_dd_42 (by decide +kernel)
theorem dX12_sums__48 : decode cX12_sums_ 48 = .ok (.iload 5, 2) := z_dd_21 (by decide +kernel)
theorem dX12_sums__50 : decode cX12_sums_ 50 = .ok (.iload_n 2, 1) := z_dd_28 (by decide +kernel)
theorem dX12_sums__51 : decode cX12_sums_ 51 = .ok (.iadd, 1) := z_dd_96 (by decide +kernel)
set_option maxRecDepth 20000 in
theorem ggX12_sums__X12_highOf : GoodIn wsX12_sums_ wsX12_highOf := goodIn_sub (fa_c (me_s (me_l (me_l (List.mem_of_getElem? (i := 15) rfl)))) (fa_a (fa_c (me_s (me_l (me_l (List.mem_of_getElem? (i := 16) rfl)))) (fa_c (me_s (me_l (me_l (List.mem_of_getElem? (i := 17) rfl)))) (fa_c (me_s (me_l (me_l (List.mem_of_getElem? (i := 18) rfl)))) (fa_c (me_s (me_l (me_l (List.mem_of_getElem? (i := 19) rfl)))) (fa_c (me_s (me_l (me_l (List.mem_of_getElem? (i := 20) rfl)))) (fa_c (me_s (me_l (me_l (List.mem_of_getElem? (i := 21) rfl)))) (fa_c (me_s (me_l (me_l (List.mem_of_getElem? (i := 6) rfl)))) (fa_c (me_s (me_l (me_l (List.mem_of_getElem? (i := 22) rfl)))) (fa_c (me_s (me_l (me_l (List.mem_of_getElem? (i := 23) rfl)))) (fa_c (me_s (me_l (me_r (me_l (List.mem_of_getElem? (i := 0) rfl))))) (fa_c (me_s (me_l (me_r (me_l (List.mem_of_getElem? (i := 1) rfl))))) (fa_c (me_s (me_l (me_r (me_l (List.mem_of_getElem? (i := 2) rfl))))) (fa_c (me_s (me_l (me_r (me_l (List.mem_of_getElem? (i := 3) rfl))))) (fa_c (me_s (me_l (me_r (me_l (List.mem_of_getElem? (i := 4) rfl))))) (fa_c (me_s (me_l (me_r (me_l (List.mem_of_getElem? (i := 5) rfl))))) (fa_c (me_s (me_l (me_r (me_l (List.mem_of_getElem? (i := 6) rfl))))) (fa_c (me_s (me_l (me_r (me_l (List.mem_of_getElem? (i := 7) rfl))))) (fa_c (me_s (me_l (me_r (me_l (List.mem_of_getElem? (i := 8) rfl))))) (fa_c (me_s (me_l (me_r (me_l (List.mem_of_getElem? (i := 9) rfl))))) fa_n))))))))))))))))))) (fun w h => (me_s (me_r h))))) (by decide +kernel)
set_option maxRecDepth 20000 in
theorem gX12_sums__X12_highOf : GoodIn wsX12_sums_ (wsV RX12 483 RX12 yX12_highOf wsX12_highOf) := goodIn_app (goodIn_sub (fa_c (me_s (me_l (me_l (List.mem_of_getElem? (i := 12) rfl)))) (fa_c (me_s (me_l (me_l (List.mem_of_getElem? (i := 13) rfl)))) (fa_c (me_s (me_l (me_l (List.mem_of_getElem? (i := 14) rfl)))) (fa_c (me_s (me_l (me_l (List.mem_of_getElem? (i := 6) rfl)))) fa_n)))) (by decide +kernel)) ggX12_sums__X12_highOf
theorem dX12_sums__52 : decode cX12_sums_ 52 = .ok (.invokevirtual 483, 3) := z_dd_182 (by decide +kernel)
theorem dX12_sums__55 : decode cX12_sums_ 55 = .ok (.lstore 6, 2) := z_dd_55 (by decide +kernel)
theorem dX12_sums__57 : decode cX12_sums_ 57 = .ok (.aload_n 0, 1) := z_dd_42 (by decide +kernel)
theorem dX12_sums__58 : decode cX12_sums_ 58 = .ok (.iload 5, 2) := z_dd_21 (by decide +kernel)
theorem dX12_sums__60 : decode cX12_sums_ 60 = .ok (.iload_n 2, 1) := z_dd_28 (by decide +kernel)
theorem dX12_sums__61 : decode cX12_sums_ 61 = .ok (.iadd, 1) := z_dd_96 (by decide +kernel)
set_option maxRecDepth 20000 in
theorem ggX12_sums__X12_lowOf : GoodIn wsX12_sums_ wsX12_lowOf := goodIn_sub (fa_c (me_s (me_l (me_r (me_l (List.mem_of_getElem? (i := 13) rfl))))) (fa_a (fa_c (me_s (me_l (me_l (List.mem_of_getElem? (i := 16) rfl)))) (fa_c (me_s (me_l (me_l (List.mem_of_getElem? (i := 17) rfl)))) (fa_c (me_s (me_l (me_l (List.mem_of_getElem? (i := 18) rfl)))) (fa_c (me_s (me_l (me_l (List.mem_of_getElem? (i := 19) rfl)))) (fa_c (me_s (me_l (me_l (List.mem_of_getElem? (i := 20) rfl)))) (fa_c (me_s (me_l (me_l (List.mem_of_getElem? (i := 21) rfl)))) (fa_c (me_s (me_l (me_l (List.mem_of_getElem? (i := 6) rfl)))) (fa_c (me_s (me_l (me_l (List.mem_of_getElem? (i := 22) rfl)))) (fa_c (me_s (me_l (me_l (List.mem_of_getElem? (i := 23) rfl)))) (fa_c (me_s (me_l (me_r (me_l (List.mem_of_getElem? (i := 0) rfl))))) (fa_c (me_s (me_l (me_r (me_l (List.mem_of_getElem? (i := 1) rfl))))) (fa_c (me_s (me_l (me_r (me_l (List.mem_of_getElem? (i := 2) rfl))))) (fa_c (me_s (me_l (me_r (me_l (List.mem_of_getElem? (i := 3) rfl))))) (fa_c (me_s (me_l (me_r (me_l (List.mem_of_getElem? (i := 4) rfl))))) (fa_c (me_s (me_l (me_r (me_l (List.mem_of_getElem? (i := 5) rfl))))) (fa_c (me_s (me_l (me_r (me_l (List.mem_of_getElem? (i := 6) rfl))))) (fa_c (me_s (me_l (me_r (me_l (List.mem_of_getElem? (i := 7) rfl))))) (fa_c (me_s (me_l (me_r (me_l (List.mem_of_getElem? (i := 8) rfl))))) (fa_c (me_s (me_l (me_r (me_l (List.mem_of_getElem? (i := 9) rfl))))) fa_n))))))))))))))))))) (fun w h => (me_s (me_r h))))) (by decide +kernel)
set_option maxRecDepth 20000 in
theorem gX12_sums__X12_lowOf : GoodIn wsX12_sums_ (wsV RX12 487 RX12 yX12_lowOf wsX12_lowOf) := goodIn_app (goodIn_sub (fa_c (me_s (me_l (me_r (me_l (List.mem_of_getElem? (i := 10) rfl))))) (fa_c (me_s (me_l (me_r (me_l (List.mem_of_getElem? (i := 11) rfl))))) (fa_c (me_s (me_l (me_r (me_l (List.mem_of_getElem? (i := 12) rfl))))) (fa_c (me_s (me_l (me_l (List.mem_of_getElem? (i := 6) rfl)))) fa_n)))) (by decide +kernel)) ggX12_sums__X12_lowOf
theorem dX12_sums__62 : decode cX12_sums_ 62 = .ok (.invokevirtual 487, 3) := z_dd_182 (by decide +kernel)
theorem dX12_sums__65 : decode cX12_sums_ 65 = .ok (.lstore 8, 2) := z_dd_55 (by decide +kernel)
theorem dX12_sums__67 : decode cX12_sums_ 67 = .ok (.lconst 0, 1) := z_dd_9 (by decide +kernel)
theorem dX12_sums__68 : decode cX12_sums_ 68 = .ok (.lstore 10, 2) := z_dd_55 (by decide +kernel)
theorem dX12_sums__70 : decode cX12_sums_ 70 = .ok (.iconst 0, 1) := z_dd_3 (by decide +kernel)
theorem dX12_sums__71 : decode cX12_sums_ 71 = .ok (.istore 12, 2) := z_dd_54 (by decide +kernel)
theorem dX12_sums__73 : decode cX12_sums_ 73 = .ok (.lconst 0, 1) := z_dd_9 (by decide +kernel)
theorem dX12_sums__74 : decode cX12_sums_ 74 = .ok (.lstore 13, 2) := z_dd_55 (by decide +kernel)
theorem dX12_sums__76 : decode cX12_sums_ 76 = .ok (.iload_n 2, 1) := z_dd_28 (by decide +kernel)
theorem dX12_sums__77 : decode cX12_sums_ 77 = .ok (.istore 15, 2) := z_dd_54 (by decide +kernel)
theorem dX12_sums__79 : decode cX12_sums_ 79 = .ok (.iload 15, 2) := z_dd_21 (by decide +kernel)
theorem dX12_sums__81 : decode cX12_sums_ 81 = .ok (.iload_n 3, 1) := z_dd_29 (by decide +kernel)
theorem dX12_sums__82 : decode cX12_sums_ 82 = .ok (.if_icmp .ge 164, 3) := z_dd_162 (by decide +kernel)
theorem dX12_sums__246 : decode cX12_sums_ 246 = .ok (.iload 4, 2) := z_dd_21 (by decide +kernel)
theorem dX12_sums__248 : decode cX12_sums_ 248 = .ok (.iconst 1, 1) := z_dd_4 (by decide +kernel)
theorem dX12_sums__249 : decode cX12_sums_ 249 = .ok (.if_icmp .ne 24, 3) := z_dd_160 (by decide +kernel)
theorem dX12_sums__273 : decode cX12_sums_ 273 = .ok (.lload 13, 2) := z_dd_22 (by decide +kernel)
theorem dX12_sums__275 : decode cX12_sums_ 275 = .ok (.lload 8, 2) := z_dd_22 (by decide +kernel)
theorem dX12_sums__277 : decode cX12_sums_ 277 = .ok (.ladd, 1) := z_dd_97 (by decide +kernel)
theorem dX12_sums__278 : decode cX12_sums_ 278 = .ok (.lload 10, 2) := z_dd_22 (by decide +kernel)
theorem dX12_sums__280 : decode cX12_sums_ 280 = .ok (.lsub, 1) := z_dd_101 (by decide +kernel)
theorem dX12_sums__281 : decode cX12_sums_ 281 = .ok (.lstore 15, 2) := z_dd_55 (by decide +kernel)
theorem dX12_sums__283 : decode cX12_sums_ 283 = .ok (.lload 15, 2) := z_dd_22 (by decide +kernel)
theorem dX12_sums__285 : decode cX12_sums_ 285 = .ok (.lconst 0, 1) := z_dd_9 (by decide +kernel)
theorem dX12_sums__286 : decode cX12_sums_ 286 = .ok (.lcmp, 1) := z_dd_148 (by decide +kernel)
theorem dX12_sums__287 : decode cX12_sums_ 287 = .ok (.ifCond .ge 7, 3) := z_dd_156 (by decide +kernel)
theorem dX12_sums__294 : decode cX12_sums_ 294 = .ok (.lload 15, 2) := z_dd_22 (by decide +kernel)
theorem dX12_sums__296 : decode cX12_sums_ 296 = .ok (.lreturn, 1) := z_dd_173 (by decide +kernel)
theorem dX12_sums__290 : decode cX12_sums_ 290 = .ok (.lconst 0, 1) := z_dd_9 (by decide +kernel)
theorem dX12_sums__291 : decode cX12_sums_ 291 = .ok (.goto 5, 3) := z_dd_167 (by decide +kernel)
theorem dX12_sums__252 : decode cX12_sums_ 252 = .ok (.lload 13, 2) := z_dd_22 (by decide +kernel)
theorem dX12_sums__254 : decode cX12_sums_ 254 = .ok (.aload_n 0, 1) := z_dd_42 (by decide +kernel)
theorem dX12_sums__255 : decode cX12_sums_ 255 = .ok (.iload 5, 2) := z_dd_21 (by decide +kernel)
theorem dX12_sums__257 : decode cX12_sums_ 257 = .ok (.iload_n 2, 1) := z_dd_28 (by decide +kernel)
theorem dX12_sums__258 : decode cX12_sums_ 258 = .ok (.iadd, 1) := z_dd_96 (by decide +kernel)
theorem dX12_sums__259 : decode cX12_sums_ 259 = .ok (.invokevirtual 483, 3) := z_dd_182 (by decide +kernel)
theorem dX12_sums__262 : decode cX12_sums_ 262 = .ok (.ladd, 1) := z_dd_97 (by decide +kernel)
theorem dX12_sums__263 : decode cX12_sums_ 263 = .ok (.aload_n 0, 1) := z_dd_42 (by decide +kernel)
theorem dX12_sums__264 : decode cX12_sums_ 264 = .ok (.iload 5, 2) := z_dd_21 (by decide +kernel)
theorem dX12_sums__266 : decode cX12_sums_ 266 = .ok (.iload_n 3, 1) := z_dd_29 (by decide +kernel)
theorem dX12_sums__267 : decode cX12_sums_ 267 = .ok (.iadd, 1) := z_dd_96 (by decide +kernel)
theorem dX12_sums__268 : decode cX12_sums_ 268 = .ok (.invokevirtual 487, 3) := z_dd_182 (by decide +kernel)
theorem dX12_sums__271 : decode cX12_sums_ 271 = .ok (.lsub, 1) := z_dd_101 (by decide +kernel)
theorem dX12_sums__272 : decode cX12_sums_ 272 = .ok (.lreturn, 1) := z_dd_173 (by decide +kernel)
theorem dX12_sums__85 : decode cX12_sums_ 85 = .ok (.aload_n 0, 1) := z_dd_42 (by decide +kernel)
theorem dX12_sums__86 : decode cX12_sums_ 86 = .ok (.iload_n 1, 1) := z_dd_27 (by decide +kernel)
theorem dX12_sums__87 : decode cX12_sums_ 87 = .ok (.iload 15, 2) := z_dd_21 (by decide +kernel)
set_option maxRecDepth 20000 in
theorem ggX12_sums__X12_inOf : GoodIn wsX12_sums_ wsX12_inOf := goodIn_sub (fa_c (me_s (me_l (me_r (me_l (List.mem_of_getElem? (i := 17) rfl))))) (fa_a (fa_a (fa_c (me_s (me_l (me_r (me_l (List.mem_of_getElem? (i := 18) rfl))))) (fa_c (me_s (me_l (me_r (me_l (List.mem_of_getElem? (i := 19) rfl))))) (fa_c (me_s (me_l (me_r (me_l (List.mem_of_getElem? (i := 20) rfl))))) (fa_c (me_s (me_l (me_r (me_l (List.mem_of_getElem? (i := 21) rfl))))) (fa_c (me_s (me_l (me_r (me_l (List.mem_of_getElem? (i := 22) rfl))))) (fa_c (me_s (me_l (me_r (me_l (List.mem_of_getElem? (i := 23) rfl))))) (fa_c (me_s (me_l (me_r (me_r (List.mem_of_getElem? (i := 0) rfl))))) (fa_c (me_s (me_l (me_r (me_r (List.mem_of_getElem? (i := 1) rfl))))) (fa_c (me_s (me_l (me_r (me_r (List.mem_of_getElem? (i := 2) rfl))))) (fa_c (me_s (me_l (me_l (List.mem_of_getElem? (i := 17) rfl)))) (fa_c (me_s (me_l (me_l (List.mem_of_getElem? (i := 18) rfl)))) (fa_c (me_s (me_l (me_l (List.mem_of_getElem? (i := 19) rfl)))) (fa_c (me_s (me_l (me_l (List.mem_of_getElem? (i := 20) rfl)))) (fa_c (me_s (me_l (me_l (List.mem_of_getElem? (i := 21) rfl)))) (fa_c (me_s (me_l (me_l (List.mem_of_getElem? (i := 6) rfl)))) (fa_c (me_s (me_l (me_l (List.mem_of_getElem? (i := 22) rfl)))) (fa_c (me_s (me_l (me_l (List.mem_of_getElem? (i := 23) rfl)))) (fa_c (me_s (me_l (me_r (me_l (List.mem_of_getElem? (i := 0) rfl))))) (fa_c (me_s (me_l (me_r (me_l (List.mem_of_getElem? (i := 1) rfl))))) (fa_c (me_s (me_l (me_r (me_l (List.mem_of_getElem? (i := 2) rfl))))) (fa_c (me_s (me_l (me_r (me_l (List.mem_of_getElem? (i := 3) rfl))))) (fa_c (me_s (me_l (me_r (me_l (List.mem_of_getElem? (i := 4) rfl))))) (fa_c (me_s (me_l (me_r (me_l (List.mem_of_getElem? (i := 5) rfl))))) (fa_c (me_s (me_l (me_r (me_l (List.mem_of_getElem? (i := 6) rfl))))) fa_n)))))))))))))))))))))))) (fa_c (me_s (me_l (me_r (me_l (List.mem_of_getElem? (i := 7) rfl))))) (fa_c (me_s (me_l (me_r (me_l (List.mem_of_getElem? (i := 8) rfl))))) (fa_c (me_s (me_l (me_r (me_l (List.mem_of_getElem? (i := 9) rfl))))) fa_n)))) (fun w h => (me_s (me_r h))))) (by decide +kernel)
set_option maxRecDepth 20000 in
theorem gX12_sums__X12_inOf : GoodIn wsX12_sums_ (wsV RX12 478 RX12 yX12_inOf wsX12_inOf) := goodIn_app (goodIn_sub (fa_c (me_s (me_l (me_r (me_l (List.mem_of_getElem? (i := 14) rfl))))) (fa_c (me_s (me_l (me_r (me_l (List.mem_of_getElem? (i := 15) rfl))))) (fa_c (me_s (me_l (me_r (me_l (List.mem_of_getElem? (i := 16) rfl))))) (fa_c (me_s (me_l (me_l (List.mem_of_getElem? (i := 6) rfl)))) fa_n)))) (by decide +kernel)) ggX12_sums__X12_inOf
theorem dX12_sums__89 : decode cX12_sums_ 89 = .ok (.invokevirtual 478, 3) := z_dd_182 (by decide +kernel)
theorem dX12_sums__92 : decode cX12_sums_ 92 = .ok (.lstore 16, 2) := z_dd_55 (by decide +kernel)
theorem dX12_sums__94 : decode cX12_sums_ 94 = .ok (.lload 13, 2) := z_dd_22 (by decide +kernel)
theorem dX12_sums__96 : decode cX12_sums_ 96 = .ok (.lload 16, 2) := z_dd_22 (by decide +kernel)
theorem dX12_sums__98 : decode cX12_sums_ 98 = .ok (.ladd, 1) := z_dd_97 (by decide +kernel)
theorem dX12_sums__99 : decode cX12_sums_ 99 = .ok (.lstore 13, 2) := z_dd_55 (by decide +kernel)
theorem dX12_sums__101 : decode cX12_sums_ 101 = .ok (.lload 6, 2) := z_dd_22 (by decide +kernel)
theorem dX12_sums__103 : decode cX12_sums_ 103 = .ok (.lload 16, 2) := z_dd_22 (by decide +kernel)
theorem dX12_sums__105 : decode cX12_sums_ 105 = .ok (.ladd, 1) := z_dd_97 (by decide +kernel)
theorem dX12_sums__106 : decode cX12_sums_ 106 = .ok (.lstore 6, 2) := z_dd_55 (by decide +kernel)
theorem dX12_sums__108 : decode cX12_sums_ 108 = .ok (.lload 10, 2) := z_dd_22 (by decide +kernel)
theorem dX12_sums__110 : decode cX12_sums_ 110 = .ok (.lload 16, 2) := z_dd_22 (by decide +kernel)
theorem dX12_sums__112 : decode cX12_sums_ 112 = .ok (.ladd, 1) := z_dd_97 (by decide +kernel)
theorem dX12_sums__113 : decode cX12_sums_ 113 = .ok (.lstore 10, 2) := z_dd_55 (by decide +kernel)
theorem dX12_sums__115 : decode cX12_sums_ 115 = .ok (.aload_n 0, 1) := z_dd_42 (by decide +kernel)
theorem dX12_sums__116 : decode cX12_sums_ 116 = .ok (.iload 5, 2) := z_dd_21 (by decide +kernel)
theorem dX12_sums__118 : decode cX12_sums_ 118 = .ok (.iload 15, 2) := z_dd_21 (by decide +kernel)
theorem dX12_sums__120 : decode cX12_sums_ 120 = .ok (.iadd, 1) := z_dd_96 (by decide +kernel)
theorem dX12_sums__121 : decode cX12_sums_ 121 = .ok (.iconst 1, 1) := z_dd_4 (by decide +kernel)
theorem dX12_sums__122 : decode cX12_sums_ 122 = .ok (.iadd, 1) := z_dd_96 (by decide +kernel)
theorem dX12_sums__123 : decode cX12_sums_ 123 = .ok (.invokevirtual 483, 3) := z_dd_182 (by decide +kernel)
theorem dX12_sums__126 : decode cX12_sums_ 126 = .ok (.lload 6, 2) := z_dd_22 (by decide +kernel)
theorem dX12_sums__128 : decode cX12_sums_ 128 = .ok (.lcmp, 1) := z_dd_148 (by decide +kernel)
theorem dX12_sums__129 : decode cX12_sums_ 129 = .ok (.ifCond .ge 16, 3) := z_dd_156 (by decide +kernel)
theorem dX12_sums__145 : decode cX12_sums_ 145 = .ok (.iload 12, 2) := z_dd_21 (by decide +kernel)
theorem dX12_sums__147 : decode cX12_sums_ 147 = .ok (.ifCond .eq 20, 3) := z_dd_153 (by decide +kernel)
theorem dX12_sums__167 : decode cX12_sums_ 167 = .ok (.aload_n 0, 1) := z_dd_42 (by decide +kernel)
theorem dX12_sums__168 : decode cX12_sums_ 168 = .ok (.iload 5, 2) := z_dd_21 (by decide +kernel)
theorem dX12_sums__170 : decode cX12_sums_ 170 = .ok (.iload 15, 2) := z_dd_21 (by decide +kernel)
theorem dX12_sums__172 : decode cX12_sums_ 172 = .ok (.iadd, 1) := z_dd_96 (by decide +kernel)
theorem dX12_sums__173 : decode cX12_sums_ 173 = .ok (.iconst 1, 1) := z_dd_4 (by decide +kernel)
theorem dX12_sums__174 : decode cX12_sums_ 174 = .ok (.iadd, 1) := z_dd_96 (by decide +kernel)
theorem dX12_sums__175 : decode cX12_sums_ 175 = .ok (.invokevirtual 483, 3) := z_dd_182 (by decide +kernel)
theorem dX12_sums__178 : decode cX12_sums_ 178 = .ok (.lstore 10, 2) := z_dd_55 (by decide +kernel)
theorem dX12_sums__180 : decode cX12_sums_ 180 = .ok (.iconst 1, 1) := z_dd_4 (by decide +kernel)
theorem dX12_sums__181 : decode cX12_sums_ 181 = .ok (.istore 12, 2) := z_dd_54 (by decide +kernel)
theorem dX12_sums__183 : decode cX12_sums_ 183 = .ok (.lload 6, 2) := z_dd_22 (by decide +kernel)
theorem dX12_sums__185 : decode cX12_sums_ 185 = .ok (.aload_n 0, 1) := z_dd_42 (by decide +kernel)
theorem dX12_sums__186 : decode cX12_sums_ 186 = .ok (.iload 5, 2) := z_dd_21 (by decide +kernel)
theorem dX12_sums__188 : decode cX12_sums_ 188 = .ok (.iload 15, 2) := z_dd_21 (by decide +kernel)
theorem dX12_sums__190 : decode cX12_sums_ 190 = .ok (.iadd, 1) := z_dd_96 (by decide +kernel)
theorem dX12_sums__191 : decode cX12_sums_ 191 = .ok (.iconst 1, 1) := z_dd_4 (by decide +kernel)
theorem dX12_sums__192 : decode cX12_sums_ 192 = .ok (.iadd, 1) := z_dd_96 (by decide +kernel)
theorem dX12_sums__193 : decode cX12_sums_ 193 = .ok (.invokevirtual 487, 3) := z_dd_182 (by decide +kernel)
theorem dX12_sums__196 : decode cX12_sums_ 196 = .ok (.lcmp, 1) := z_dd_148 (by decide +kernel)
theorem dX12_sums__197 : decode cX12_sums_ 197 = .ok (.ifCond .ge 7, 3) := z_dd_156 (by decide +kernel)
theorem dX12_sums__204 : decode cX12_sums_ 204 = .ok (.aload_n 0, 1) := z_dd_42 (by decide +kernel)
theorem dX12_sums__205 : decode cX12_sums_ 205 = .ok (.iload 5, 2) := z_dd_21 (by decide +kernel)
theorem dX12_sums__207 : decode cX12_sums_ 207 = .ok (.iload 15, 2) := z_dd_21 (by decide +kernel)
theorem dX12_sums__209 : decode cX12_sums_ 209 = .ok (.iadd, 1) := z_dd_96 (by decide +kernel)
theorem dX12_sums__210 : decode cX12_sums_ 210 = .ok (.iconst 1, 1) := z_dd_4 (by decide +kernel)
theorem dX12_sums__211 : decode cX12_sums_ 211 = .ok (.iadd, 1) := z_dd_96 (by decide +kernel)
theorem dX12_sums__212 : decode cX12_sums_ 212 = .ok (.invokevirtual 487, 3) := z_dd_182 (by decide +kernel)
theorem dX12_sums__215 : decode cX12_sums_ 215 = .ok (.lload 13, 2) := z_dd_22 (by decide +kernel)
theorem dX12_sums__217 : decode cX12_sums_ 217 = .ok (.lsub, 1) := z_dd_101 (by decide +kernel)
theorem dX12_sums__218 : decode cX12_sums_ 218 = .ok (.lload 8, 2) := z_dd_22 (by decide +kernel)
theorem dX12_sums__220 : decode cX12_sums_ 220 = .ok (.lcmp, 1) := z_dd_148 (by decide +kernel)
theorem dX12_sums__221 : decode cX12_sums_ 221 = .ok (.ifCond .le 19, 3) := z_dd_158 (by decide +kernel)
theorem dX12_sums__240 : decode cX12_sums_ 240 = .ok (.iinc 15 1, 3) := z_dd_132 (by decide +kernel)
theorem dX12_sums__243 : decode cX12_sums_ 243 = .ok (.goto (-164), 3) := z_dd_167 (by decide +kernel)
theorem dX12_sums__224 : decode cX12_sums_ 224 = .ok (.aload_n 0, 1) := z_dd_42 (by decide +kernel)
theorem dX12_sums__225 : decode cX12_sums_ 225 = .ok (.iload 5, 2) := z_dd_21 (by decide +kernel)
theorem dX12_sums__227 : decode cX12_sums_ 227 = .ok (.iload 15, 2) := z_dd_21 (by decide +kernel)
theorem dX12_sums__229 : decode cX12_sums_ 229 = .ok (.iadd, 1) := z_dd_96 (by decide +kernel)
theorem dX12_sums__230 : decode cX12_sums_ 230 = .ok (.iconst 1, 1) := z_dd_4 (by decide +kernel)
theorem dX12_sums__231 : decode cX12_sums_ 231 = .ok (.iadd, 1) := z_dd_96 (by decide +kernel)
theorem dX12_sums__232 : decode cX12_sums_ 232 = .ok (.invokevirtual 487, 3) := z_dd_182 (by decide +kernel)
theorem dX12_sums__235 : decode cX12_sums_ 235 = .ok (.lload 13, 2) := z_dd_22 (by decide +kernel)
theorem dX12_sums__237 : decode cX12_sums_ 237 = .ok (.lsub, 1) := z_dd_101 (by decide +kernel)
theorem dX12_sums__238 : decode cX12_sums_ 238 = .ok (.lstore 8, 2) := z_dd_55 (by decide +kernel)
theorem dX12_sums__200 : decode cX12_sums_ 200 = .ok (.ldc2_w 490, 3) := z_dd_20 (by decide +kernel)
theorem dX12_sums__203 : decode cX12_sums_ 203 = .ok (.lreturn, 1) := z_dd_173 (by decide +kernel)
theorem dX12_sums__150 : decode cX12_sums_ 150 = .ok (.aload_n 0, 1) := z_dd_42 (by decide +kernel)
theorem dX12_sums__151 : decode cX12_sums_ 151 = .ok (.iload 5, 2) := z_dd_21 (by decide +kernel)
theorem dX12_sums__153 : decode cX12_sums_ 153 = .ok (.iload 15, 2) := z_dd_21 (by decide +kernel)
theorem dX12_sums__155 : decode cX12_sums_ 155 = .ok (.iadd, 1) := z_dd_96 (by decide +kernel)
theorem dX12_sums__156 : decode cX12_sums_ 156 = .ok (.iconst 1, 1) := z_dd_4 (by decide +kernel)
theorem dX12_sums__157 : decode cX12_sums_ 157 = .ok (.iadd, 1) := z_dd_96 (by decide +kernel)
theorem dX12_sums__158 : decode cX12_sums_ 158 = .ok (.invokevirtual 483, 3) := z_dd_182 (by decide +kernel)
theorem dX12_sums__161 : decode cX12_sums_ 161 = .ok (.lload 10, 2) := z_dd_22 (by decide +kernel)
theorem dX12_sums__163 : decode cX12_sums_ 163 = .ok (.lcmp, 1) := z_dd_148 (by decide +kernel)
theorem dX12_sums__164 : decode cX12_sums_ 164 = .ok (.ifCond .ge 16, 3) := z_dd_156 (by decide +kernel)
theorem dX12_sums__132 : decode cX12_sums_ 132 = .ok (.aload_n 0, 1) := z_dd_42 (by decide +kernel)
theorem dX12_sums__133 : decode cX12_sums_ 133 = .ok (.iload 5, 2) := z_dd_21 (by decide +kernel)
theorem dX12_sums__135 : decode cX12_sums_ 135 = .ok (.iload 15, 2) := z_dd_21 (by decide +kernel)
theorem dX12_sums__137 : decode cX12_sums_ 137 = .ok (.iadd, 1) := z_dd_96 (by decide +kernel)
theorem dX12_sums__138 : decode cX12_sums_ 138 = .ok (.iconst 1, 1) := z_dd_4 (by decide +kernel)
theorem dX12_sums__139 : decode cX12_sums_ 139 = .ok (.iadd, 1) := z_dd_96 (by decide +kernel)
theorem dX12_sums__140 : decode cX12_sums_ 140 = .ok (.invokevirtual 483, 3) := z_dd_182 (by decide +kernel)
theorem dX12_sums__143 : decode cX12_sums_ 143 = .ok (.lstore 6, 2) := z_dd_55 (by decide +kernel)
theorem dX12_judged_8 : decode cX12_judged 8 = .ok (.iload_n 2, 1) := z_dd_28 (by decide +kernel)
theorem dX12_judged_9 : decode cX12_judged 9 = .ok (.ifCond .lt 18, 3) := z_dd_155 (by decide +kernel)
theorem dX12_judged_12 : decode cX12_judged 12 = .ok (.iload_n 3, 1) := z_dd_29 (by decide +kernel)
theorem dX12_judged_13 : decode cX12_judged 13 = .ok (.iload_n 2, 1) := z_dd_28 (by decide +kernel)
theorem dX12_judged_14 : decode cX12_judged 14 = .ok (.if_icmp .le 13, 3) := z_dd_164 (by decide +kernel)
theorem dX12_judged_17 : decode cX12_judged 17 = .ok (.iload_n 3, 1) := z_dd_29 (by decide +kernel)
theorem dX12_judged_18 : decode cX12_judged 18 = .ok (.aload_n 0, 1) := z_dd_42 (by decide +kernel)
theorem dX12_judged_19 : decode cX12_judged 19 = .ok (.getfield 157, 3) := z_dd_180 (by decide +kernel)
theorem dX12_judged_22 : decode cX12_judged 22 = .ok (.iload_n 1, 1) := z_dd_27 (by decide +kernel)
theorem dX12_judged_23 : decode cX12_judged 23 = .ok (.iaload, 1) := z_dd_46 (by decide +kernel)
theorem dX12_judged_24 : decode cX12_judged 24 = .ok (.if_icmp .lt 7, 3) := z_dd_161 (by decide +kernel)
theorem dX12_judged_31 : decode cX12_judged 31 = .ok (.lconst 0, 1) := z_dd_9 (by decide +kernel)
theorem dX12_judged_32 : decode cX12_judged 32 = .ok (.lstore 4, 2) := z_dd_55 (by decide +kernel)
theorem dX12_judged_34 : decode cX12_judged 34 = .ok (.iload_n 2, 1) := z_dd_28 (by decide +kernel)
theorem dX12_judged_35 : decode cX12_judged 35 = .ok (.istore 6, 2) := z_dd_54 (by decide +kernel)
theorem dX12_judged_37 : decode cX12_judged 37 = .ok (.iload 6, 2) := z_dd_21 (by decide +kernel)
theorem dX12_judged_39 : decode cX12_judged 39 = .ok (.iload_n 3, 1) := z_dd_29 (by decide +kernel)
theorem dX12_judged_40 : decode cX12_judged 40 = .ok (.if_icmp .gt 113, 3) := z_dd_163 (by decide +kernel)
theorem dX12_judged_153 : decode cX12_judged 153 = .ok (.lload 4, 2) := z_dd_22 (by decide +kernel)
theorem dX12_judged_155 : decode cX12_judged 155 = .ok (.lreturn, 1) := z_dd_173 (by decide +kernel)
theorem dX12_judged_43 : decode cX12_judged 43 = .ok (.aload_n 0, 1) := z_dd_42 (by decide +kernel)
theorem dX12_judged_44 : decode cX12_judged 44 = .ok (.getfield 169, 3) := z_dd_180 (by decide +kernel)
theorem dX12_judged_47 : decode cX12_judged 47 = .ok (.iload 6, 2) := z_dd_21 (by decide +kernel)
theorem dX12_judged_49 : decode cX12_judged 49 = .ok (.iload_n 2, 1) := z_dd_28 (by decide +kernel)
theorem dX12_judged_50 : decode cX12_judged 50 = .ok (.isub, 1) := z_dd_100 (by decide +kernel)
theorem dX12_judged_51 : decode cX12_judged 51 = .ok (.iaload, 1) := z_dd_46 (by decide +kernel)
theorem dX12_judged_52 : decode cX12_judged 52 = .ok (.istore 7, 2) := z_dd_54 (by decide +kernel)
theorem dX12_judged_54 : decode cX12_judged 54 = .ok (.iload 7, 2) := z_dd_21 (by decide +kernel)
theorem dX12_judged_56 : decode cX12_judged 56 = .ok (.i2l, 1) := z_dd_133 (by decide +kernel)
theorem dX12_judged_57 : decode cX12_judged 57 = .ok (.aload_n 0, 1) := z_dd_42 (by decide +kernel)
theorem dX12_judged_58 : decode cX12_judged 58 = .ok (.bipush 30, 2) := z_dd_16 (by decide +kernel)
theorem dX12_judged_60 : decode cX12_judged 60 = .ok (.iload_n 1, 1) := z_dd_27 (by decide +kernel)
theorem dX12_judged_61 : decode cX12_judged 61 = .ok (.imul, 1) := z_dd_104 (by decide +kernel)
theorem dX12_judged_62 : decode cX12_judged 62 = .ok (.iload 6, 2) := z_dd_21 (by decide +kernel)
theorem dX12_judged_64 : decode cX12_judged 64 = .ok (.iadd, 1) := z_dd_96 (by decide +kernel)
set_option maxRecDepth 20000 in
theorem ggX12_judged_X12_lowOf : GoodIn wsX12_judged wsX12_lowOf := goodIn_sub (fa_c (me_s (me_l (me_l (List.mem_of_getElem? (i := 12) rfl)))) (fa_a (fa_c (me_s (me_l (me_l (List.mem_of_getElem? (i := 13) rfl)))) (fa_c (me_s (me_l (me_l (List.mem_of_getElem? (i := 14) rfl)))) (fa_c (me_s (me_l (me_l (List.mem_of_getElem? (i := 15) rfl)))) (fa_c (me_s (me_l (me_l (List.mem_of_getElem? (i := 16) rfl)))) (fa_c (me_s (me_l (me_l (List.mem_of_getElem? (i := 17) rfl)))) (fa_c (me_s (me_l (me_l (List.mem_of_getElem? (i := 18) rfl)))) (fa_c (me_s (me_l (me_l (List.mem_of_getElem? (i := 6) rfl)))) (fa_c (me_s (me_l (me_l (List.mem_of_getElem? (i := 19) rfl)))) (fa_c (me_s (me_l (me_l (List.mem_of_getElem? (i := 20) rfl)))) (fa_c (me_s (me_l (me_l (List.mem_of_getElem? (i := 21) rfl)))) (fa_c (me_s (me_l (me_l (List.mem_of_getElem? (i := 22) rfl)))) (fa_c (me_s (me_l (me_l (List.mem_of_getElem? (i := 23) rfl)))) (fa_c (me_s (me_l (me_r (List.mem_of_getElem? (i := 0) rfl)))) (fa_c (me_s (me_l (me_r (List.mem_of_getElem? (i := 1) rfl)))) (fa_c (me_s (me_l (me_r (List.mem_of_getElem? (i := 2) rfl)))) (fa_c (me_s (me_l (me_r (List.mem_of_getElem? (i := 3) rfl)))) (fa_c (me_s (me_l (me_r (List.mem_of_getElem? (i := 4) rfl)))) (fa_c (me_s (me_l (me_r (List.mem_of_getElem? (i := 5) rfl)))) (fa_c (me_s (me_l (me_r (List.mem_of_getElem? (i := 6) rfl)))) fa_n))))))))))))))))))) (fun w h => (me_s (me_r h))))) (by decide +kernel)
set_option maxRecDepth 20000 in
theorem gX12_judged_X12_lowOf : GoodIn wsX12_judged (wsV RX12 487 RX12 yX12_lowOf wsX12_lowOf) := goodIn_app (goodIn_sub (fa_c (me_s (me_l (me_l (List.mem_of_getElem? (i := 9) rfl)))) (fa_c (me_s (me_l (me_l (List.mem_of_getElem? (i := 10) rfl)))) (fa_c (me_s (me_l (me_l (List.mem_of_getElem? (i := 11) rfl)))) (fa_c (me_s (me_l (me_l (List.mem_of_getElem? (i := 6) rfl)))) fa_n)))) (by decide +kernel)) ggX12_judged_X12_lowOf
theorem dX12_judged_65 : decode cX12_judged 65 = .ok (.invokevirtual 487, 3) := z_dd_182 (by decide +kernel)
theorem dX12_judged_68 : decode cX12_judged 68 = .ok (.lcmp, 1) := z_dd_148 (by decide +kernel)
theorem dX12_judged_69 : decode cX12_judged 69 = .ok (.ifCond .lt 21, 3) := z_dd_155 (by decide +kernel)
theorem dX12_judged_90 : decode cX12_judged 90 = .ok (.ldc2_w 269, 3) := z_dd_20 (by decide +kernel)
theorem dX12_judged_93 : decode cX12_judged 93 = .ok (.lreturn, 1) := z_dd_173 (by decide +kernel)
theorem dX12_judged_72 : decode cX12_judged 72 = .ok (.iload 7, 2) := z_dd_21 (by decide +kernel)
theorem dX12_judged_74 : decode cX12_judged 74 = .ok (.i2l, 1) := z_dd_133 (by decide +kernel)
theorem dX12_judged_75 : decode cX12_judged 75 = .ok (.aload_n 0, 1) := z_dd_42 (by decide +kernel)
theorem dX12_judged_76 : decode cX12_judged 76 = .ok (.bipush 30, 2) := z_dd_16 (by decide +kernel)
theorem dX12_judged_78 : decode cX12_judged 78 = .ok (.iload_n 1, 1) := z_dd_27 (by decide +kernel)
theorem dX12_judged_79 : decode cX12_judged 79 = .ok (.imul, 1) := z_dd_104 (by decide +kernel)
theorem dX12_judged_80 : decode cX12_judged 80 = .ok (.iload 6, 2) := z_dd_21 (by decide +kernel)
theorem dX12_judged_82 : decode cX12_judged 82 = .ok (.iadd, 1) := z_dd_96 (by decide +kernel)
set_option maxRecDepth 20000 in
theorem ggX12_judged_X12_highOf : GoodIn wsX12_judged wsX12_highOf := goodIn_sub (fa_c (me_s (me_l (me_r (List.mem_of_getElem? (i := 10) rfl)))) (fa_a (fa_c (me_s (me_l (me_l (List.mem_of_getElem? (i := 13) rfl)))) (fa_c (me_s (me_l (me_l (List.mem_of_getElem? (i := 14) rfl)))) (fa_c (me_s (me_l (me_l (List.mem_of_getElem? (i := 15) rfl)))) (fa_c (me_s (me_l (me_l (List.mem_of_getElem? (i := 16) rfl)))) (fa_c (me_s (me_l (me_l (List.mem_of_getElem? (i := 17) rfl)))) (fa_c (me_s (me_l (me_l (List.mem_of_getElem? (i := 18) rfl)))) (fa_c (me_s (me_l (me_l (List.mem_of_getElem? (i := 6) rfl)))) (fa_c (me_s (me_l (me_l (List.mem_of_getElem? (i := 19) rfl)))) (fa_c (me_s (me_l (me_l (List.mem_of_getElem? (i := 20) rfl)))) (fa_c (me_s (me_l (me_l (List.mem_of_getElem? (i := 21) rfl)))) (fa_c (me_s (me_l (me_l (List.mem_of_getElem? (i := 22) rfl)))) (fa_c (me_s (me_l (me_l (List.mem_of_getElem? (i := 23) rfl)))) (fa_c (me_s (me_l (me_r (List.mem_of_getElem? (i := 0) rfl)))) (fa_c (me_s (me_l (me_r (List.mem_of_getElem? (i := 1) rfl)))) (fa_c (me_s (me_l (me_r (List.mem_of_getElem? (i := 2) rfl)))) (fa_c (me_s (me_l (me_r (List.mem_of_getElem? (i := 3) rfl)))) (fa_c (me_s (me_l (me_r (List.mem_of_getElem? (i := 4) rfl)))) (fa_c (me_s (me_l (me_r (List.mem_of_getElem? (i := 5) rfl)))) (fa_c (me_s (me_l (me_r (List.mem_of_getElem? (i := 6) rfl)))) fa_n))))))))))))))))))) (fun w h => (me_s (me_r h))))) (by decide +kernel)
set_option maxRecDepth 20000 in
theorem gX12_judged_X12_highOf : GoodIn wsX12_judged (wsV RX12 483 RX12 yX12_highOf wsX12_highOf) := goodIn_app (goodIn_sub (fa_c (me_s (me_l (me_r (List.mem_of_getElem? (i := 7) rfl)))) (fa_c (me_s (me_l (me_r (List.mem_of_getElem? (i := 8) rfl)))) (fa_c (me_s (me_l (me_r (List.mem_of_getElem? (i := 9) rfl)))) (fa_c (me_s (me_l (me_l (List.mem_of_getElem? (i := 6) rfl)))) fa_n)))) (by decide +kernel)) ggX12_judged_X12_highOf
theorem dX12_judged_83 : decode cX12_judged 83 = .ok (.invokevirtual 483, 3) := z_dd_182 (by decide +kernel)
theorem dX12_judged_86 : decode cX12_judged 86 = .ok (.lcmp, 1) := z_dd_148 (by decide +kernel)
theorem dX12_judged_87 : decode cX12_judged 87 = .ok (.ifCond .le 7, 3) := z_dd_158 (by decide +kernel)
theorem dX12_judged_94 : decode cX12_judged 94 = .ok (.iload 6, 2) := z_dd_21 (by decide +kernel)
theorem dX12_judged_96 : decode cX12_judged 96 = .ok (.iload_n 3, 1) := z_dd_29 (by decide +kernel)
theorem dX12_judged_97 : decode cX12_judged 97 = .ok (.if_icmp .ne 6, 3) := z_dd_160 (by decide +kernel)
theorem dX12_judged_103 : decode cX12_judged 103 = .ok (.aload_n 0, 1) := z_dd_42 (by decide +kernel)
theorem dX12_judged_104 : decode cX12_judged 104 = .ok (.iload_n 1, 1) := z_dd_27 (by decide +kernel)
theorem dX12_judged_105 : decode cX12_judged 105 = .ok (.iload 6, 2) := z_dd_21 (by decide +kernel)
set_option maxRecDepth 20000 in
theorem ggX12_judged_X12_inOf : GoodIn wsX12_judged wsX12_inOf := goodIn_sub (fa_c (me_s (me_l (me_r (List.mem_of_getElem? (i := 14) rfl)))) (fa_a (fa_a (fa_c (me_s (me_l (me_r (List.mem_of_getElem? (i := 15) rfl)))) (fa_c (me_s (me_l (me_r (List.mem_of_getElem? (i := 16) rfl)))) (fa_c (me_s (me_l (me_r (List.mem_of_getElem? (i := 17) rfl)))) (fa_c (me_s (me_l (me_r (List.mem_of_getElem? (i := 18) rfl)))) (fa_c (me_s (me_l (me_r (List.mem_of_getElem? (i := 19) rfl)))) (fa_c (me_s (me_l (me_r (List.mem_of_getElem? (i := 20) rfl)))) (fa_c (me_s (me_l (me_r (List.mem_of_getElem? (i := 21) rfl)))) (fa_c (me_s (me_l (me_r (List.mem_of_getElem? (i := 22) rfl)))) (fa_c (me_s (me_l (me_r (List.mem_of_getElem? (i := 23) rfl)))) (fa_c (me_s (me_l (me_l (List.mem_of_getElem? (i := 14) rfl)))) (fa_c (me_s (me_l (me_l (List.mem_of_getElem? (i := 15) rfl)))) (fa_c (me_s (me_l (me_l (List.mem_of_getElem? (i := 16) rfl)))) (fa_c (me_s (me_l (me_l (List.mem_of_getElem? (i := 17) rfl)))) (fa_c (me_s (me_l (me_l (List.mem_of_getElem? (i := 18) rfl)))) (fa_c (me_s (me_l (me_l (List.mem_of_getElem? (i := 6) rfl)))) (fa_c (me_s (me_l (me_l (List.mem_of_getElem? (i := 19) rfl)))) (fa_c (me_s (me_l (me_l (List.mem_of_getElem? (i := 20) rfl)))) (fa_c (me_s (me_l (me_l (List.mem_of_getElem? (i := 21) rfl)))) (fa_c (me_s (me_l (me_l (List.mem_of_getElem? (i := 22) rfl)))) (fa_c (me_s (me_l (me_l (List.mem_of_getElem? (i := 23) rfl)))) (fa_c (me_s (me_l (me_r (List.mem_of_getElem? (i := 0) rfl)))) (fa_c (me_s (me_l (me_r (List.mem_of_getElem? (i := 1) rfl)))) (fa_c (me_s (me_l (me_r (List.mem_of_getElem? (i := 2) rfl)))) (fa_c (me_s (me_l (me_r (List.mem_of_getElem? (i := 3) rfl)))) fa_n)))))))))))))))))))))))) (fa_c (me_s (me_l (me_r (List.mem_of_getElem? (i := 4) rfl)))) (fa_c (me_s (me_l (me_r (List.mem_of_getElem? (i := 5) rfl)))) (fa_c (me_s (me_l (me_r (List.mem_of_getElem? (i := 6) rfl)))) fa_n)))) (fun w h => (me_s (me_r h))))) (by decide +kernel)
set_option maxRecDepth 20000 in
theorem gX12_judged_X12_inOf : GoodIn wsX12_judged (wsV RX12 478 RX12 yX12_inOf wsX12_inOf) := goodIn_app (goodIn_sub (fa_c (me_s (me_l (me_r (List.mem_of_getElem? (i := 11) rfl)))) (fa_c (me_s (me_l (me_r (List.mem_of_getElem? (i := 12) rfl)))) (fa_c (me_s (me_l (me_r (List.mem_of_getElem? (i := 13) rfl)))) (fa_c (me_s (me_l (me_l (List.mem_of_getElem? (i := 6) rfl)))) fa_n)))) (by decide +kernel)) ggX12_judged_X12_inOf
theorem dX12_judged_107 : decode cX12_judged 107 = .ok (.invokevirtual 478, 3) := z_dd_182 (by decide +kernel)
theorem dX12_judged_110 : decode cX12_judged 110 = .ok (.iload 7, 2) := z_dd_21 (by decide +kernel)
theorem dX12_judged_112 : decode cX12_judged 112 = .ok (.i2l, 1) := z_dd_133 (by decide +kernel)
theorem dX12_judged_113 : decode cX12_judged 113 = .ok (.ladd, 1) := z_dd_97 (by decide +kernel)
theorem dX12_judged_114 : decode cX12_judged 114 = .ok (.aload_n 0, 1) := z_dd_42 (by decide +kernel)
theorem dX12_judged_115 : decode cX12_judged 115 = .ok (.getfield 169, 3) := z_dd_180 (by decide +kernel)
theorem dX12_judged_118 : decode cX12_judged 118 = .ok (.iload 6, 2) := z_dd_21 (by decide +kernel)
theorem dX12_judged_120 : decode cX12_judged 120 = .ok (.iload_n 2, 1) := z_dd_28 (by decide +kernel)
theorem dX12_judged_121 : decode cX12_judged 121 = .ok (.isub, 1) := z_dd_100 (by decide +kernel)
theorem dX12_judged_122 : decode cX12_judged 122 = .ok (.iconst 1, 1) := z_dd_4 (by decide +kernel)
theorem dX12_judged_123 : decode cX12_judged 123 = .ok (.iadd, 1) := z_dd_96 (by decide +kernel)
theorem dX12_judged_124 : decode cX12_judged 124 = .ok (.iaload, 1) := z_dd_46 (by decide +kernel)
theorem dX12_judged_125 : decode cX12_judged 125 = .ok (.i2l, 1) := z_dd_133 (by decide +kernel)
theorem dX12_judged_126 : decode cX12_judged 126 = .ok (.lsub, 1) := z_dd_101 (by decide +kernel)
theorem dX12_judged_127 : decode cX12_judged 127 = .ok (.lstore 8, 2) := z_dd_55 (by decide +kernel)
theorem dX12_judged_129 : decode cX12_judged 129 = .ok (.lload 8, 2) := z_dd_22 (by decide +kernel)
theorem dX12_judged_131 : decode cX12_judged 131 = .ok (.lconst 0, 1) := z_dd_9 (by decide +kernel)
theorem dX12_judged_132 : decode cX12_judged 132 = .ok (.lcmp, 1) := z_dd_148 (by decide +kernel)
theorem dX12_judged_133 : decode cX12_judged 133 = .ok (.ifCond .ge 7, 3) := z_dd_156 (by decide +kernel)
theorem dX12_judged_140 : decode cX12_judged 140 = .ok (.lload 4, 2) := z_dd_22 (by decide +kernel)
theorem dX12_judged_142 : decode cX12_judged 142 = .ok (.lload 8, 2) := z_dd_22 (by decide +kernel)
theorem dX12_judged_144 : decode cX12_judged 144 = .ok (.ladd, 1) := z_dd_97 (by decide +kernel)
theorem dX12_judged_145 : decode cX12_judged 145 = .ok (.lstore 4, 2) := z_dd_55 (by decide +kernel)
theorem dX12_judged_147 : decode cX12_judged 147 = .ok (.iinc 6 1, 3) := z_dd_132 (by decide +kernel)
theorem dX12_judged_150 : decode cX12_judged 150 = .ok (.goto (-113), 3) := z_dd_167 (by decide +kernel)
theorem dX12_judged_136 : decode cX12_judged 136 = .ok (.ldc2_w 269, 3) := z_dd_20 (by decide +kernel)
theorem dX12_judged_139 : decode cX12_judged 139 = .ok (.lreturn, 1) := z_dd_173 (by decide +kernel)
theorem dX12_judged_100 : decode cX12_judged 100 = .ok (.goto 47, 3) := z_dd_167 (by decide +kernel)
theorem dX12_count_16 : decode cX12_count 16 = .ok (.aload_n 0, 1) := z_dd_42 (by decide +kernel)
theorem dX12_count_17 : decode cX12_count 17 = .ok (.getfield 136, 3) := z_dd_180 (by decide +kernel)
theorem dX12_count_20 : decode cX12_count 20 = .ok (.iload 4, 2) := z_dd_21 (by decide +kernel)
theorem dX12_count_22 : decode cX12_count 22 = .ok (.iaload, 1) := z_dd_46 (by decide +kernel)
theorem dX12_count_23 : decode cX12_count 23 = .ok (.ifCond .ne 6, 3) := z_dd_154 (by decide +kernel)
theorem dX12_count_29 : decode cX12_count 29 = .ok (.aload_n 0, 1) := z_dd_42 (by decide +kernel)
theorem dX12_count_30 : decode cX12_count 30 = .ok (.getfield 136, 3) := z_dd_180 (by decide +kernel)
theorem dX12_count_33 : decode cX12_count 33 = .ok (.iload 4, 2) := z_dd_21 (by decide +kernel)
theorem dX12_count_35 : decode cX12_count 35 = .ok (.iaload, 1) := z_dd_46 (by decide +kernel)
theorem dX12_count_36 : decode cX12_count 36 = .ok (.ifCond .le 6, 3) := z_dd_158 (by decide +kernel)
theorem dX12_count_42 : decode cX12_count 42 = .ok (.iinc 4 1, 3) := z_dd_132 (by decide +kernel)
theorem dX12_count_45 : decode cX12_count 45 = .ok (.goto (-38), 3) := z_dd_167 (by decide +kernel)
theorem dX12_count_39 : decode cX12_count 39 = .ok (.iinc 3 1, 3) := z_dd_132 (by decide +kernel)
theorem dX12_count_26 : decode cX12_count 26 = .ok (.iinc 2 1, 3) := z_dd_132 (by decide +kernel)
theorem dX12_isLike_0 : decode cX12_isLike 0 = .ok (.iload_n 2, 1) := z_dd_28 (by decide +kernel)
theorem dX12_isLike_1 : decode cX12_isLike 1 = .ok (.iload_n 1, 1) := z_dd_27 (by decide +kernel)
theorem dX12_isLike_2 : decode cX12_isLike 2 = .ok (.if_icmp .eq 76, 3) := z_dd_159 (by decide +kernel)
theorem dX12_isLike_78 : decode cX12_isLike 78 = .ok (.iconst 0, 1) := z_dd_3 (by decide +kernel)
theorem dX12_isLike_79 : decode cX12_isLike 79 = .ok (.ireturn, 1) := z_dd_172 (by decide +kernel)
theorem dX12_isLike_5 : decode cX12_isLike 5 = .ok (.aload_n 0, 1) := z_dd_42 (by decide +kernel)
theorem dX12_isLike_6 : decode cX12_isLike 6 = .ok (.getfield 202, 3) := z_dd_180 (by decide +kernel)
theorem dX12_isLike_9 : decode cX12_isLike 9 = .ok (.iload_n 2, 1) := z_dd_28 (by decide +kernel)
theorem dX12_isLike_10 : decode cX12_isLike 10 = .ok (.iaload, 1) := z_dd_46 (by decide +kernel)
theorem dX12_isLike_11 : decode cX12_isLike 11 = .ok (.aload_n 0, 1) := z_dd_42 (by decide +kernel)
theorem dX12_isLike_12 : decode cX12_isLike 12 = .ok (.getfield 202, 3) := z_dd_180 (by decide +kernel)
theorem dX12_isLike_15 : decode cX12_isLike 15 = .ok (.iload_n 1, 1) := z_dd_27 (by decide +kernel)
theorem dX12_isLike_16 : decode cX12_isLike 16 = .ok (.iaload, 1) := z_dd_46 (by decide +kernel)
theorem dX12_isLike_17 : decode cX12_isLike 17 = .ok (.if_icmp .ne 61, 3) := z_dd_160 (by decide +kernel)
theorem dX12_isLike_20 : decode cX12_isLike 20 = .ok (.aload_n 0, 1) := z_dd_42 (by decide +kernel)
theorem dX12_isLike_21 : decode cX12_isLike 21 = .ok (.getfield 199, 3) := z_dd_180 (by decide +kernel)
theorem dX12_isLike_24 : decode cX12_isLike 24 = .ok (.iload_n 2, 1) := z_dd_28 (by decide +kernel)
theorem dX12_isLike_25 : decode cX12_isLike 25 = .ok (.iaload, 1) := z_dd_46 (by decide +kernel)
theorem dX12_isLike_26 : decode cX12_isLike 26 = .ok (.aload_n 0, 1) := z_dd_42 (by decide +kernel)
theorem dX12_isLike_27 : decode cX12_isLike 27 = .ok (.getfield 199, 3) := z_dd_180 (by decide +kernel)
theorem dX12_isLike_30 : decode cX12_isLike 30 = .ok (.iload_n 1, 1) := z_dd_27 (by decide +kernel)
theorem dX12_isLike_31 : decode cX12_isLike 31 = .ok (.iaload, 1) := z_dd_46 (by decide +kernel)
theorem dX12_isLike_32 : decode cX12_isLike 32 = .ok (.if_icmp .ne 46, 3) := z_dd_160 (by decide +kernel)
theorem dX12_isLike_35 : decode cX12_isLike 35 = .ok (.aload_n 0, 1) := z_dd_42 (by decide +kernel)
theorem dX12_isLike_36 : decode cX12_isLike 36 = .ok (.getfield 196, 3) := z_dd_180 (by decide +kernel)
theorem dX12_isLike_39 : decode cX12_isLike 39 = .ok (.iload_n 2, 1) := z_dd_28 (by decide +kernel)
theorem dX12_isLike_40 : decode cX12_isLike 40 = .ok (.iaload, 1) := z_dd_46 (by decide +kernel)
theorem dX12_isLike_41 : decode cX12_isLike 41 = .ok (.aload_n 0, 1) := z_dd_42 (by decide +kernel)
theorem dX12_isLike_42 : decode cX12_isLike 42 = .ok (.getfield 196, 3) := z_dd_180 (by decide +kernel)
theorem dX12_isLike_45 : decode cX12_isLike 45 = .ok (.iload_n 1, 1) := z_dd_27 (by decide +kernel)
theorem dX12_isLike_46 : decode cX12_isLike 46 = .ok (.iaload, 1) := z_dd_46 (by decide +kernel)
theorem dX12_isLike_47 : decode cX12_isLike 47 = .ok (.isub, 1) := z_dd_100 (by decide +kernel)
set_option maxRecDepth 20000 in
theorem ggX12_isLike_X12_abs : GoodIn wsX12_isLike wsX12_abs := goodIn_sub (fa_c (me_s (me_l (List.mem_of_getElem? (i := 10) rfl))) fa_n) (by decide +kernel)
set_option maxRecDepth 20000 in
theorem gX12_isLike_X12_abs : GoodIn wsX12_isLike (va_wsS RX12 511 yX12_abs wsX12_abs) := goodIn_app (goodIn_sub (fa_c (me_s (me_l (List.mem_of_getElem? (i := 7) rfl))) (fa_c (me_s (me_l (List.mem_of_getElem? (i := 8) rfl))) (fa_c (me_s (me_l (List.mem_of_getElem? (i := 9) rfl))) fa_n))) (by decide +kernel)) ggX12_isLike_X12_abs
theorem dX12_isLike_48 : decode cX12_isLike 48 = .ok (.invokestatic 511, 3) := z_dd_184 (by decide +kernel)
theorem dX12_isLike_51 : decode cX12_isLike 51 = .ok (.aload_n 0, 1) := z_dd_42 (by decide +kernel)
theorem dX12_isLike_52 : decode cX12_isLike 52 = .ok (.getfield 196, 3) := z_dd_180 (by decide +kernel)
theorem dX12_isLike_55 : decode cX12_isLike 55 = .ok (.iload_n 1, 1) := z_dd_27 (by decide +kernel)
theorem dX12_isLike_56 : decode cX12_isLike 56 = .ok (.iaload, 1) := z_dd_46 (by decide +kernel)
theorem dX12_isLike_57 : decode cX12_isLike 57 = .ok (.bipush 10, 2) := z_dd_16 (by decide +kernel)
theorem dX12_isLike_59 : decode cX12_isLike 59 = .ok (.idiv, 1) := z_dd_108 (by decide +kernel)
theorem dX12_isLike_60 : decode cX12_isLike 60 = .ok (.if_icmp .gt 18, 3) := z_dd_163 (by decide +kernel)
theorem dX12_isLike_63 : decode cX12_isLike 63 = .ok (.aload_n 0, 1) := z_dd_42 (by decide +kernel)
theorem dX12_isLike_64 : decode cX12_isLike 64 = .ok (.getfield 214, 3) := z_dd_180 (by decide +kernel)
theorem dX12_isLike_67 : decode cX12_isLike 67 = .ok (.iload_n 2, 1) := z_dd_28 (by decide +kernel)
theorem dX12_isLike_68 : decode cX12_isLike 68 = .ok (.iaload, 1) := z_dd_46 (by decide +kernel)
theorem dX12_isLike_69 : decode cX12_isLike 69 = .ok (.aload_n 0, 1) := z_dd_42 (by decide +kernel)
theorem dX12_isLike_70 : decode cX12_isLike 70 = .ok (.getfield 214, 3) := z_dd_180 (by decide +kernel)
theorem dX12_isLike_73 : decode cX12_isLike 73 = .ok (.iload_n 1, 1) := z_dd_27 (by decide +kernel)
theorem dX12_isLike_74 : decode cX12_isLike 74 = .ok (.iaload, 1) := z_dd_46 (by decide +kernel)
theorem dX12_isLike_75 : decode cX12_isLike 75 = .ok (.if_icmp .ne 5, 3) := z_dd_160 (by decide +kernel)
theorem dX12_isLike_80 : decode cX12_isLike 80 = .ok (.aload_n 0, 1) := z_dd_42 (by decide +kernel)
theorem dX12_isLike_81 : decode cX12_isLike 81 = .ok (.aload_n 0, 1) := z_dd_42 (by decide +kernel)
theorem dX12_isLike_82 : decode cX12_isLike 82 = .ok (.getfield 193, 3) := z_dd_180 (by decide +kernel)
theorem dX12_isLike_85 : decode cX12_isLike 85 = .ok (.iload_n 2, 1) := z_dd_28 (by decide +kernel)
theorem dX12_isLike_86 : decode cX12_isLike 86 = .ok (.iaload, 1) := z_dd_46 (by decide +kernel)
theorem dX12_isLike_87 : decode cX12_isLike 87 = .ok (.aload_n 0, 1) := z_dd_42 (by decide +kernel)
theorem dX12_isLike_88 : decode cX12_isLike 88 = .ok (.getfield 205, 3) := z_dd_180 (by decide +kernel)
theorem dX12_isLike_91 : decode cX12_isLike 91 = .ok (.iload_n 2, 1) := z_dd_28 (by decide +kernel)
theorem dX12_isLike_92 : decode cX12_isLike 92 = .ok (.iaload, 1) := z_dd_46 (by decide +kernel)
theorem dX12_isLike_93 : decode cX12_isLike 93 = .ok (.aload_n 0, 1) := z_dd_42 (by decide +kernel)
theorem dX12_isLike_94 : decode cX12_isLike 94 = .ok (.getfield 232, 3) := z_dd_180 (by decide +kernel)
set_option maxRecDepth 20000 in
theorem ggX12_isLike_X12_kindOn : GoodIn wsX12_isLike wsX12_kindOn := goodIn_sub (fa_c (me_s (me_l (List.mem_of_getElem? (i := 14) rfl))) (fa_a (fa_c (me_s (me_l (List.mem_of_getElem? (i := 15) rfl))) (fa_c (me_s (me_l (List.mem_of_getElem? (i := 16) rfl))) (fa_c (me_s (me_l (List.mem_of_getElem? (i := 17) rfl))) (fa_c (me_s (me_l (List.mem_of_getElem? (i := 18) rfl))) (fa_c (me_s (me_l (List.mem_of_getElem? (i := 19) rfl))) (fa_c (me_s (me_l (List.mem_of_getElem? (i := 20) rfl))) fa_n)))))) (fun w h => (me_s (me_r h))))) (by decide +kernel)
set_option maxRecDepth 20000 in
theorem gX12_isLike_X12_kindOn : GoodIn wsX12_isLike (wsV RX12 249 RX12 yX12_kindOn wsX12_kindOn) := goodIn_app (goodIn_sub (fa_c (me_s (me_l (List.mem_of_getElem? (i := 11) rfl))) (fa_c (me_s (me_l (List.mem_of_getElem? (i := 12) rfl))) (fa_c (me_s (me_l (List.mem_of_getElem? (i := 13) rfl))) (fa_c (me_s (me_l (List.mem_of_getElem? (i := 9) rfl))) fa_n)))) (by decide +kernel)) ggX12_isLike_X12_kindOn
theorem dX12_isLike_97 : decode cX12_isLike 97 = .ok (.invokevirtual 249, 3) := z_dd_182 (by decide +kernel)
theorem dX12_isLike_100 : decode cX12_isLike 100 = .ok (.aload_n 0, 1) := z_dd_42 (by decide +kernel)
theorem dX12_isLike_101 : decode cX12_isLike 101 = .ok (.aload_n 0, 1) := z_dd_42 (by decide +kernel)
theorem dX12_isLike_102 : decode cX12_isLike 102 = .ok (.getfield 193, 3) := z_dd_180 (by decide +kernel)
theorem dX12_isLike_105 : decode cX12_isLike 105 = .ok (.iload_n 1, 1) := z_dd_27 (by decide +kernel)
theorem dX12_isLike_106 : decode cX12_isLike 106 = .ok (.iaload, 1) := z_dd_46 (by decide +kernel)
theorem dX12_isLike_107 : decode cX12_isLike 107 = .ok (.aload_n 0, 1) := z_dd_42 (by decide +kernel)
theorem dX12_isLike_108 : decode cX12_isLike 108 = .ok (.getfield 205, 3) := z_dd_180 (by decide +kernel)
theorem dX12_isLike_111 : decode cX12_isLike 111 = .ok (.iload_n 1, 1) := z_dd_27 (by decide +kernel)
theorem dX12_isLike_112 : decode cX12_isLike 112 = .ok (.iaload, 1) := z_dd_46 (by decide +kernel)
theorem dX12_isLike_113 : decode cX12_isLike 113 = .ok (.aload_n 0, 1) := z_dd_42 (by decide +kernel)
theorem dX12_isLike_114 : decode cX12_isLike 114 = .ok (.getfield 232, 3) := z_dd_180 (by decide +kernel)
theorem dX12_isLike_117 : decode cX12_isLike 117 = .ok (.invokevirtual 249, 3) := z_dd_182 (by decide +kernel)
theorem dX12_isLike_120 : decode cX12_isLike 120 = .ok (.if_icmp .ne 7, 3) := z_dd_160 (by decide +kernel)
theorem dX12_isLike_127 : decode cX12_isLike 127 = .ok (.iconst 0, 1) := z_dd_3 (by decide +kernel)
theorem dX12_isLike_128 : decode cX12_isLike 128 = .ok (.ireturn, 1) := z_dd_172 (by decide +kernel)
theorem dX12_isLike_123 : decode cX12_isLike 123 = .ok (.iconst 1, 1) := z_dd_4 (by decide +kernel)
theorem dX12_isLike_124 : decode cX12_isLike 124 = .ok (.goto 4, 3) := z_dd_167 (by decide +kernel)
theorem dX12_journey_14 : decode cX12_journey 14 = .ok (.iload_n 2, 1) := z_dd_28 (by decide +kernel)
theorem dX12_journey_15 : decode cX12_journey 15 = .ok (.bipush 100, 2) := z_dd_16 (by decide +kernel)
theorem dX12_journey_17 : decode cX12_journey 17 = .ok (.if_icmp .lt 52, 3) := z_dd_161 (by decide +kernel)
theorem dX12_journey_69 : decode cX12_journey 69 = .ok (.iload_n 2, 1) := z_dd_28 (by decide +kernel)
theorem dX12_journey_70 : decode cX12_journey 70 = .ok (.tableswitch 102 0 7 #[46, 53, 60, 67, 74, 81, 88, 95], 46) := by decide +kernel
theorem dX12_journey_116 : decode cX12_journey 116 = .ok (.aload_n 0, 1) := z_dd_42 (by decide +kernel)
theorem dX12_journey_117 : decode cX12_journey 117 = .ok (.getfield 193, 3) := z_dd_180 (by decide +kernel)
theorem dX12_journey_120 : decode cX12_journey 120 = .ok (.iload_n 1, 1) := z_dd_27 (by decide +kernel)
theorem dX12_journey_121 : decode cX12_journey 121 = .ok (.iaload, 1) := z_dd_46 (by decide +kernel)
theorem dX12_journey_122 : decode cX12_journey 122 = .ok (.ireturn, 1) := z_dd_172 (by decide +kernel)
theorem dX12_journey_123 : decode cX12_journey 123 = .ok (.aload_n 0, 1) := z_dd_42 (by decide +kernel)
theorem dX12_journey_124 : decode cX12_journey 124 = .ok (.getfield 196, 3) := z_dd_180 (by decide +kernel)
theorem dX12_journey_127 : decode cX12_journey 127 = .ok (.iload_n 1, 1) := z_dd_27 (by decide +kernel)
theorem dX12_journey_128 : decode cX12_journey 128 = .ok (.iaload, 1) := z_dd_46 (by decide +kernel)
theorem dX12_journey_129 : decode cX12_journey 129 = .ok (.ireturn, 1) := z_dd_172 (by decide +kernel)
theorem dX12_journey_130 : decode cX12_journey 130 = .ok (.aload_n 0, 1) := z_dd_42 (by decide +kernel)
theorem dX12_journey_131 : decode cX12_journey 131 = .ok (.getfield 199, 3) := z_dd_180 (by decide +kernel)
theorem dX12_journey_134 : decode cX12_journey 134 = .ok (.iload_n 1, 1) := z_dd_27 (by decide +kernel)
theorem dX12_journey_135 : decode cX12_journey 135 = .ok (.iaload, 1) := z_dd_46 (by decide +kernel)
theorem dX12_journey_136 : decode cX12_journey 136 = .ok (.ireturn, 1) := z_dd_172 (by decide +kernel)
theorem dX12_journey_137 : decode cX12_journey 137 = .ok (.aload_n 0, 1) := z_dd_42 (by decide +kernel)
theorem dX12_journey_138 : decode cX12_journey 138 = .ok (.getfield 202, 3) := z_dd_180 (by decide +kernel)
theorem dX12_journey_141 : decode cX12_journey 141 = .ok (.iload_n 1, 1) := z_dd_27 (by decide +kernel)
theorem dX12_journey_142 : decode cX12_journey 142 = .ok (.iaload, 1) := z_dd_46 (by decide +kernel)
theorem dX12_journey_143 : decode cX12_journey 143 = .ok (.ireturn, 1) := z_dd_172 (by decide +kernel)
theorem dX12_journey_144 : decode cX12_journey 144 = .ok (.aload_n 0, 1) := z_dd_42 (by decide +kernel)
theorem dX12_journey_145 : decode cX12_journey 145 = .ok (.getfield 205, 3) := z_dd_180 (by decide +kernel)
theorem dX12_journey_148 : decode cX12_journey 148 = .ok (.iload_n 1, 1) := z_dd_27 (by decide +kernel)
theorem dX12_journey_149 : decode cX12_journey 149 = .ok (.iaload, 1) := z_dd_46 (by decide +kernel)
theorem dX12_journey_150 : decode cX12_journey 150 = .ok (.ireturn, 1) := z_dd_172 (by decide +kernel)
theorem dX12_journey_151 : decode cX12_journey 151 = .ok (.aload_n 0, 1) := z_dd_42 (by decide +kernel)
theorem dX12_journey_152 : decode cX12_journey 152 = .ok (.getfield 208, 3) := z_dd_180 (by decide +kernel)
theorem dX12_journey_155 : decode cX12_journey 155 = .ok (.iload_n 1, 1) := z_dd_27 (by decide +kernel)
theorem dX12_journey_156 : decode cX12_journey 156 = .ok (.iaload, 1) := z_dd_46 (by decide +kernel)
theorem dX12_journey_157 : decode cX12_journey 157 = .ok (.ireturn, 1) := z_dd_172 (by decide +kernel)
theorem dX12_journey_158 : decode cX12_journey 158 = .ok (.aload_n 0, 1) := z_dd_42 (by decide +kernel)
theorem dX12_journey_159 : decode cX12_journey 159 = .ok (.getfield 214, 3) := z_dd_180 (by decide +kernel)
theorem dX12_journey_162 : decode cX12_journey 162 = .ok (.iload_n 1, 1) := z_dd_27 (by decide +kernel)
theorem dX12_journey_163 : decode cX12_journey 163 = .ok (.iaload, 1) := z_dd_46 (by decide +kernel)
theorem dX12_journey_164 : decode cX12_journey 164 = .ok (.ireturn, 1) := z_dd_172 (by decide +kernel)
theorem dX12_journey_165 : decode cX12_journey 165 = .ok (.aload_n 0, 1) := z_dd_42 (by decide +kernel)
theorem dX12_journey_166 : decode cX12_journey 166 = .ok (.getfield 217, 3) := z_dd_180 (by decide +kernel)
theorem dX12_journey_169 : decode cX12_journey 169 = .ok (.iload_n 1, 1) := z_dd_27 (by decide +kernel)
theorem dX12_journey_170 : decode cX12_journey 170 = .ok (.iaload, 1) := z_dd_46 (by decide +kernel)
theorem dX12_journey_171 : decode cX12_journey 171 = .ok (.ireturn, 1) := z_dd_172 (by decide +kernel)
theorem dX12_journey_172 : decode cX12_journey 172 = .ok (.iconst (-1), 1) := z_dd_2 (by decide +kernel)
theorem dX12_journey_173 : decode cX12_journey 173 = .ok (.ireturn, 1) := z_dd_172 (by decide +kernel)
theorem dX12_journey_20 : decode cX12_journey 20 = .ok (.iconst 0, 1) := z_dd_3 (by decide +kernel)
theorem dX12_journey_21 : decode cX12_journey 21 = .ok (.istore_n 3, 1) := z_dd_62 (by decide +kernel)
theorem dX12_journey_22 : decode cX12_journey 22 = .ok (.iconst 0, 1) := z_dd_3 (by decide +kernel)
theorem dX12_journey_23 : decode cX12_journey 23 = .ok (.istore 4, 2) := z_dd_54 (by decide +kernel)
theorem dX12_journey_25 : decode cX12_journey 25 = .ok (.iload 4, 2) := z_dd_21 (by decide +kernel)
theorem dX12_journey_27 : decode cX12_journey 27 = .ok (.aload_n 0, 1) := z_dd_42 (by decide +kernel)
theorem dX12_journey_28 : decode cX12_journey 28 = .ok (.getfield 505, 3) := z_dd_180 (by decide +kernel)
theorem dX12_journey_31 : decode cX12_journey 31 = .ok (.if_icmp .ge 36, 3) := z_dd_162 (by decide +kernel)
theorem dX12_journey_67 : decode cX12_journey 67 = .ok (.iconst (-1), 1) := z_dd_2 (by decide +kernel)
theorem dX12_journey_68 : decode cX12_journey 68 = .ok (.ireturn, 1) := z_dd_172 (by decide +kernel)
theorem dX12_journey_34 : decode cX12_journey 34 = .ok (.aload_n 0, 1) := z_dd_42 (by decide +kernel)
theorem dX12_journey_35 : decode cX12_journey 35 = .ok (.iload_n 1, 1) := z_dd_27 (by decide +kernel)
theorem dX12_journey_36 : decode cX12_journey 36 = .ok (.iload 4, 2) := z_dd_21 (by decide +kernel)
set_option maxRecDepth 20000 in
theorem ggX12_journey_X12_isLike : GoodIn wsX12_journey wsX12_isLike := goodIn_sub (fa_c (me_s (me_l (me_l (List.mem_of_getElem? (i := 13) rfl)))) (fa_a (fa_c (me_s (me_l (me_l (List.mem_of_getElem? (i := 4) rfl)))) (fa_c (me_s (me_l (me_l (List.mem_of_getElem? (i := 3) rfl)))) (fa_c (me_s (me_l (me_l (List.mem_of_getElem? (i := 2) rfl)))) (fa_c (me_s (me_l (me_l (List.mem_of_getElem? (i := 7) rfl)))) (fa_c (me_s (me_l (me_l (List.mem_of_getElem? (i := 1) rfl)))) (fa_c (me_s (me_l (me_l (List.mem_of_getElem? (i := 5) rfl)))) (fa_c (me_s (me_l (me_l (List.mem_of_getElem? (i := 14) rfl)))) (fa_c (me_s (me_l (me_l (List.mem_of_getElem? (i := 15) rfl)))) (fa_c (me_s (me_l (me_l (List.mem_of_getElem? (i := 16) rfl)))) (fa_c (me_s (me_l (me_l (List.mem_of_getElem? (i := 12) rfl)))) (fa_c (me_s (me_l (me_l (List.mem_of_getElem? (i := 17) rfl)))) (fa_c (me_s (me_l (me_l (List.mem_of_getElem? (i := 18) rfl)))) (fa_c (me_s (me_l (me_l (List.mem_of_getElem? (i := 19) rfl)))) (fa_c (me_s (me_l (me_l (List.mem_of_getElem? (i := 20) rfl)))) (fa_c (me_s (me_l (me_l (List.mem_of_getElem? (i := 21) rfl)))) (fa_c (me_s (me_l (me_l (List.mem_of_getElem? (i := 22) rfl)))) (fa_c (me_s (me_l (me_l (List.mem_of_getElem? (i := 23) rfl)))) (fa_c (me_s (me_l (me_r (List.mem_of_getElem? (i := 0) rfl)))) (fa_c (me_s (me_l (me_r (List.mem_of_getElem? (i := 1) rfl)))) (fa_c (me_s (me_l (me_r (List.mem_of_getElem? (i := 2) rfl)))) (fa_c (me_s (me_l (me_r (List.mem_of_getElem? (i := 3) rfl)))) fa_n))))))))))))))))))))) (fun w h => (me_s (me_r h))))) (by decide +kernel)
set_option maxRecDepth 20000 in
theorem gX12_journey_X12_isLike : GoodIn wsX12_journey (wsV RX12 514 RX12 yX12_isLike wsX12_isLike) := goodIn_app (goodIn_sub (fa_c (me_s (me_l (me_l (List.mem_of_getElem? (i := 9) rfl)))) (fa_c (me_s (me_l (me_l (List.mem_of_getElem? (i := 10) rfl)))) (fa_c (me_s (me_l (me_l (List.mem_of_getElem? (i := 11) rfl)))) (fa_c (me_s (me_l (me_l (List.mem_of_getElem? (i := 12) rfl)))) fa_n)))) (by decide +kernel)) ggX12_journey_X12_isLike
theorem dX12_journey_38 : decode cX12_journey 38 = .ok (.invokevirtual 514, 3) := z_dd_182 (by decide +kernel)
theorem dX12_journey_41 : decode cX12_journey 41 = .ok (.ifCond .ne 6, 3) := z_dd_154 (by decide +kernel)
theorem dX12_journey_47 : decode cX12_journey 47 = .ok (.iload_n 3, 1) := z_dd_29 (by decide +kernel)
theorem dX12_journey_48 : decode cX12_journey 48 = .ok (.iload_n 2, 1) := z_dd_28 (by decide +kernel)
theorem dX12_journey_49 : decode cX12_journey 49 = .ok (.bipush 100, 2) := z_dd_16 (by decide +kernel)
theorem dX12_journey_51 : decode cX12_journey 51 = .ok (.isub, 1) := z_dd_100 (by decide +kernel)
theorem dX12_journey_52 : decode cX12_journey 52 = .ok (.if_icmp .ne 6, 3) := z_dd_160 (by decide +kernel)
theorem dX12_journey_58 : decode cX12_journey 58 = .ok (.iinc 3 1, 3) := z_dd_132 (by decide +kernel)
theorem dX12_journey_61 : decode cX12_journey 61 = .ok (.iinc 4 1, 3) := z_dd_132 (by decide +kernel)
theorem dX12_journey_64 : decode cX12_journey 64 = .ok (.goto (-39), 3) := z_dd_167 (by decide +kernel)
theorem dX12_journey_55 : decode cX12_journey 55 = .ok (.iload 4, 2) := z_dd_21 (by decide +kernel)
theorem dX12_journey_57 : decode cX12_journey 57 = .ok (.ireturn, 1) := z_dd_172 (by decide +kernel)
theorem dX12_journey_44 : decode cX12_journey 44 = .ok (.goto 17, 3) := z_dd_167 (by decide +kernel)

noncomputable def L_X12_pour : z_L := [(34, 999), (35, 999), (36, 999), (37, 999), (38, 999), (39, 999), (40, 999), (42, 999), (41, 999), (0, 56), (0, 55)]
theorem zj_X12_pour_X12 : ∀ w ∈ wsX120, w ∈ wsX12_pour := fun w h => (List.mem_cons_of_mem _ (List.mem_append_right _ h))
set_option maxHeartbeats 8000000 in
set_option maxRecDepth 100000 in
theorem sx_X12_pour (l : Launch) (G : z_G) (ad : Nat → Nat) (I : z_I) (J : z_J) (hma : z_ima I) (hms : z_ims I) (hApc : z_rg 36 0 99999 I) (hmb : z_imb I) (hAtf : z_rg 11 0 288 I) (hAtm : z_rg 12 0 24 I) (a1 : Int32) (a2 : Int32) (a3 : Int32) : z_M l yX12_pour wsX12_pour { frames := 3, cells := 0, slots := 0, locals := 62 } [.ref (ad 0), .int a1, .int a2, .int a3] G (shM, ad, I, J, PM ad) (fun r u1 => ∃ (I1 : z_I) (J1 : z_J), u1 = (shM, ad, I1, J1, PM ad) ∧ z_ima I1 ∧ z_ims I1 ∧ z_rg 36 0 99999 I1 ∧ z_imb I1 ∧ z_rg 11 0 288 I1 ∧ z_rg 12 0 24 I1 ∧ z_fr L_X12_pour I1 I) 0 0 := by
  intro sz
  refine z_headQ (cc := cX12_pour) (maxL := 4) (ret := (some .int)) (by decide) rfl (Nat.le_of_ble_eq_true rfl) ?_
  intro p e s m below meth c0 ls hIn hK hsz hW hl
  obtain ⟨hx, hb, hr, hml, hown, hts, hlocks, hname⟩ := hIn
  subst hsz
  have hown : s.vm.findClass RX12 = some m.cls := hown
  have hA : ∀ q : Nat, s.heap.size ≤ q → z_A (shM, ad, I, J, PM ad) s.heap.size q := fun q h => Or.inr h
  generalize hAe : z_A (shM, ad, I, J, PM ad) s.heap.size = A at *
  have hS : va_S A s.heap s.heap [] := va_S.rf
  have hl : lv_has ls 4 [(0, .ref (ad 0)), (1, .int a1), (2, .int a2), (3, .int a3)] := hl
  refine lv_aload_n hx hb dX12_pour_0 rfl (lv_at hl 0 rfl) ?_
  refine lv_iload_n hx hb dX12_pour_1 rfl (lv_at hl 1 rfl) ?_
  refine z_ci hW hS hA (va_runV (As := [.int a1]) (rest := []) ⟨hx, hb, hml, hown, hts⟩ (sx_X12_isStation l G ad I J ⟨(by show 0 ≤ (I 0 54).toInt ∧ (I 0 54).toInt ≤ 10; exact hms.1), (by show 0 ≤ (I 0 55).toInt ∧ (I 0 55).toInt ≤ 300; exact hms.2)⟩ a1 _) (cwV 1 hts gX12_pour_X12_isStation rfl rfl rfl hy_X12_isStation ⟨Nat.le_of_ble_eq_true rfl, Nat.le_of_ble_eq_true rfl⟩) (z_preV (i := 0) hK hW rfl rfl) rfl rfl hl.1 rfl (lv_room (Nat.le_of_ble_eq_true rfl)) dX12_pour_2 ⟨Nat.le_of_ble_eq_true rfl, Nat.le_of_ble_eq_true rfl⟩) (fun r u1 H locs hp hW hS => ?_)
  obtain ⟨e9, hp⟩ := hp
  rw [e9] at hW
  rcases hp with ⟨rfl, h1, h2⟩ | rfl
  · refine lv_if_eq (tgt := 37) hx hb dX12_pour_5 (by decide) (fun c3 => absurd c3 (by decide)) (fun c3 => ?_)
    refine lv_aload_n hx hb dX12_pour_8 rfl (lv_at hl 0 rfl) ?_
    refine lv_iload_n hx hb dX12_pour_9 rfl (lv_at hl 2 rfl) ?_
    refine z_ci hW hS hA (va_runV (As := [.int a2]) (rest := []) ⟨hx, hb, hml, hown, hts⟩ (sx_X12_isHolder l G ad I J ⟨(by show 0 ≤ (I 0 0).toInt ∧ (I 0 0).toInt ≤ 719; exact hma.1), (by show 0 ≤ (I 0 1).toInt ∧ (I 0 1).toInt ≤ 30; exact hma.2.1), (by show 0 ≤ (I 0 2).toInt ∧ (I 0 2).toInt ≤ 200; exact hma.2.2)⟩ a2 _) (cwV 1 hts gX12_pour_X12_isHolder rfl rfl rfl hy_X12_isHolder ⟨Nat.le_of_ble_eq_true rfl, Nat.le_of_ble_eq_true rfl⟩) (z_preV (i := 0) hK hW rfl rfl) rfl rfl hl.1 rfl (lv_room (Nat.le_of_ble_eq_true rfl)) dX12_pour_10 ⟨Nat.le_of_ble_eq_true rfl, Nat.le_of_ble_eq_true rfl⟩) (fun r u1 H locs hp hW hS => ?_)
    obtain ⟨e9, hp⟩ := hp
    rw [e9] at hW
    rcases hp with ⟨rfl, h4, h5⟩ | rfl
    · refine lv_if_eq (tgt := 37) hx hb dX12_pour_13 (by decide) (fun c6 => absurd c6 (by decide)) (fun c6 => ?_)
      refine lv_iload_n hx hb dX12_pour_16 rfl (lv_at hl 3 rfl) ?_
      refine lv_iconst (v := 0) hx hb dX12_pour_17 (by decide) ?_
      refine lv_ldcw (v := 99999) hx hb hown (hts (.constant RX12 467 (99999)) (me_s (me_l (me_l (List.mem_of_getElem? (i := 0) rfl))))) dX12_pour_18 ?_
      refine z_ci hW hS hA (va_runS (As := [.int a3, .int 0, .int 99999]) (rest := []) ⟨hx, hb, hml, hown, hts⟩ (sx_X12_within l G ad I J  a3 0 99999 _) (va_cwS 3 hts gX12_pour_X12_within rfl rfl rfl hy_X12_within.2 ⟨Nat.le_of_ble_eq_true rfl, Nat.le_of_ble_eq_true rfl⟩) (z_preS hK hW) rfl rfl hl.1 rfl (lv_room (Nat.le_of_ble_eq_true rfl)) dX12_pour_21 ⟨Nat.le_of_ble_eq_true rfl, Nat.le_of_ble_eq_true rfl⟩) (fun r u1 H locs hp hW hS => ?_)
      obtain ⟨e9, hp⟩ := hp
      rw [e9] at hW
      rcases hp with ⟨rfl, h7, h8⟩ | rfl
      · have h7 := z_t_le z_l0 rfl h7
        have h8 := z_t_le rfl z_l99999 h8
        refine lv_if_eq (tgt := 37) hx hb dX12_pour_24 (by decide) (fun c9 => absurd c9 (by decide)) (fun c9 => ?_)
        refine lv_aload_n hx hb dX12_pour_27 rfl (lv_at hl 0 rfl) ?_
        have r10 : 0 ≤ (I 0 55).toInt ∧ (I 0 55).toInt ≤ 300 := hms.2
        refine z_get (T := TX12) (N := 96) (ci := 12) (i := 0) (v := .int (I 0 55)) hx hb hts zj_X12_pour_X12 hown hK hW rfl rfl 55 (by decide) (hts (.fieldLink RX12 468 "PetrolBoardModel" "pours" "I") (me_s (me_l (me_l (List.mem_of_getElem? (i := 1) rfl))))) (fun _ h => h) rfl dX12_pour_28 ?_
        refine lv_sipush (v := 300) hx hb dX12_pour_31 (by decide) ?_
        refine lv_icmp_ne (tgt := 39) hx hb dX12_pour_34 (by decide) (fun c11 => ?_) (fun c11 => ?_)
        · have g12 := z_f_ne rfl z_l300 c11
          refine lv_aload_n hx hb dX12_pour_39 rfl (lv_at hl 0 rfl) ?_
          refine z_get (T := TX12) (N := 96) (ci := 12) (i := 0) (v := .ref (ad 34)) hx hb hts zj_X12_pour_X12 hown hK hW rfl rfl 57 (by decide) (hts (.fieldLink RX12 118 "PetrolBoardModel" "pourAt" "[I") (me_s (me_l (me_l (List.mem_of_getElem? (i := 2) rfl))))) (fun _ h => h) rfl dX12_pour_40 ?_
          refine lv_aload_n hx hb dX12_pour_43 rfl (lv_at hl 0 rfl) ?_
          refine z_get (T := TX12) (N := 96) (ci := 12) (i := 0) (v := .int (I 0 55)) hx hb hts zj_X12_pour_X12 hown hK hW rfl rfl 55 (by decide) (hts (.fieldLink RX12 468 "PetrolBoardModel" "pours" "I") (me_s (me_l (me_l (List.mem_of_getElem? (i := 1) rfl))))) (fun _ h => h) rfl dX12_pour_44 ?_
          refine lv_iload_n hx hb dX12_pour_47 rfl (lv_at hl 1 rfl) ?_
          refine z_iast (i := 34) hx hb hK hW hS rfl (z_ix rfl (by omega) (by omega)) dX12_pour_48 (fun H locs hz1 hW hS => ?_)
          obtain ⟨I13, eI13⟩ : ∃ K : z_I, K = z_up I 34 (I 0 55).toNatClampNeg a1 := ⟨_, rfl⟩
          rw [← eI13] at hW
          have f14 := z_fr_a z_fr_0 (show z_wa L_X12_pour 34 = true by decide) eI13
          have a15 := z_rg_n hApc (by decide) eI13
          have a16 := z_rg_n hAtf (by decide) eI13
          have a17 := z_rg_n hAtm (by decide) eI13
          refine lv_aload_n hx hb dX12_pour_49 rfl (lv_at hl 0 rfl) ?_
          refine z_get (T := TX12) (N := 96) (ci := 12) (i := 0) (v := .ref (ad 35)) hx hb hts zj_X12_pour_X12 hown hK hW rfl rfl 58 (by decide) (hts (.fieldLink RX12 121 "PetrolBoardModel" "pourWho" "[I") (me_s (me_l (me_l (List.mem_of_getElem? (i := 3) rfl))))) (fun _ h => h) rfl dX12_pour_50 ?_
          refine lv_aload_n hx hb dX12_pour_53 rfl (lv_at hl 0 rfl) ?_
          refine z_get (T := TX12) (N := 96) (ci := 12) (i := 0) (v := .int (I 0 55)) hx hb hts zj_X12_pour_X12 hown hK hW rfl rfl 55 (by decide) (hts (.fieldLink RX12 468 "PetrolBoardModel" "pours" "I") (me_s (me_l (me_l (List.mem_of_getElem? (i := 1) rfl))))) (fun _ h => h) (congrArg Value.int (by rw [eI13, z_up_n (by decide)])) dX12_pour_54 ?_
          refine lv_iload_n hx hb dX12_pour_57 rfl (lv_at hl 2 rfl) ?_
          refine z_iast (i := 35) hx hb hK hW hS rfl (z_ix rfl (by omega) (by omega)) dX12_pour_58 (fun H locs hz1 hW hS => ?_)
          obtain ⟨I18, eI18⟩ : ∃ K : z_I, K = z_up I13 35 (I 0 55).toNatClampNeg a2 := ⟨_, rfl⟩
          rw [← eI18] at hW
          have f19 := z_fr_a f14 (show z_wa L_X12_pour 35 = true by decide) eI18
          have a20 := z_rg_n a15 (by decide) eI18
          have a21 := z_rg_n a16 (by decide) eI18
          have a22 := z_rg_n a17 (by decide) eI18
          refine lv_aload_n hx hb dX12_pour_59 rfl (lv_at hl 0 rfl) ?_
          refine z_get (T := TX12) (N := 96) (ci := 12) (i := 0) (v := .ref (ad 36)) hx hb hts zj_X12_pour_X12 hown hK hW rfl rfl 59 (by decide) (hts (.fieldLink RX12 124 "PetrolBoardModel" "pourCoupon" "[I") (me_s (me_l (me_l (List.mem_of_getElem? (i := 4) rfl))))) (fun _ h => h) rfl dX12_pour_60 ?_
          refine lv_aload_n hx hb dX12_pour_63 rfl (lv_at hl 0 rfl) ?_
          refine z_get (T := TX12) (N := 96) (ci := 12) (i := 0) (v := .int (I 0 55)) hx hb hts zj_X12_pour_X12 hown hK hW rfl rfl 55 (by decide) (hts (.fieldLink RX12 468 "PetrolBoardModel" "pours" "I") (me_s (me_l (me_l (List.mem_of_getElem? (i := 1) rfl))))) (fun _ h => h) (congrArg Value.int (by rw [eI18, z_up_n (by decide), eI13, z_up_n (by decide)])) dX12_pour_64 ?_
          refine lv_iload_n hx hb dX12_pour_67 rfl (lv_at hl 3 rfl) ?_
          refine z_iast (i := 36) hx hb hK hW hS rfl (z_ix rfl (by omega) (by omega)) dX12_pour_68 (fun H locs hz1 hW hS => ?_)
          obtain ⟨I23, eI23⟩ : ∃ K : z_I, K = z_up I18 36 (I 0 55).toNatClampNeg a3 := ⟨_, rfl⟩
          rw [← eI23] at hW
          have f24 := z_fr_a f19 (show z_wa L_X12_pour 36 = true by decide) eI23
          have a25 := z_rg_a a20 (by omega) eI23
          have a26 := z_rg_n a21 (by decide) eI23
          have a27 := z_rg_n a22 (by decide) eI23
          refine lv_aload_n hx hb dX12_pour_69 rfl (lv_at hl 0 rfl) ?_
          refine z_get (T := TX12) (N := 96) (ci := 12) (i := 0) (v := .ref (ad 37)) hx hb hts zj_X12_pour_X12 hown hK hW rfl rfl 60 (by decide) (hts (.fieldLink RX12 127 "PetrolBoardModel" "pourDay" "[I") (me_s (me_l (me_l (List.mem_of_getElem? (i := 5) rfl))))) (fun _ h => h) rfl dX12_pour_70 ?_
          refine lv_aload_n hx hb dX12_pour_73 rfl (lv_at hl 0 rfl) ?_
          refine z_get (T := TX12) (N := 96) (ci := 12) (i := 0) (v := .int (I 0 55)) hx hb hts zj_X12_pour_X12 hown hK hW rfl rfl 55 (by decide) (hts (.fieldLink RX12 468 "PetrolBoardModel" "pours" "I") (me_s (me_l (me_l (List.mem_of_getElem? (i := 1) rfl))))) (fun _ h => h) (congrArg Value.int (by rw [eI23, z_up_n (by decide), eI18, z_up_n (by decide), eI13, z_up_n (by decide)])) dX12_pour_74 ?_
          refine lv_aload_n hx hb dX12_pour_77 rfl (lv_at hl 0 rfl) ?_
          have r28 : 0 ≤ (I 0 0).toInt ∧ (I 0 0).toInt ≤ 719 := hma.1
          refine z_get (T := TX12) (N := 96) (ci := 12) (i := 0) (v := .int (I 0 0)) hx hb hts zj_X12_pour_X12 hown hK hW rfl rfl 0 (by decide) (hts (.fieldLink RX12 232 "PetrolBoardModel" "today" "I") (me_s (me_l (me_l (List.mem_of_getElem? (i := 6) rfl))))) (fun _ h => h) (congrArg Value.int (by rw [eI23, z_up_n (by decide), eI18, z_up_n (by decide), eI13, z_up_n (by decide)])) dX12_pour_78 ?_
          refine z_iast (i := 37) hx hb hK hW hS rfl (z_ix rfl (by omega) (by omega)) dX12_pour_81 (fun H locs hz1 hW hS => ?_)
          obtain ⟨I29, eI29⟩ : ∃ K : z_I, K = z_up I23 37 (I 0 55).toNatClampNeg (I 0 0) := ⟨_, rfl⟩
          rw [← eI29] at hW
          have f30 := z_fr_a f24 (show z_wa L_X12_pour 37 = true by decide) eI29
          have a31 := z_rg_n a25 (by decide) eI29
          have a32 := z_rg_n a26 (by decide) eI29
          have a33 := z_rg_n a27 (by decide) eI29
          refine lv_aload_n hx hb dX12_pour_82 rfl (lv_at hl 0 rfl) ?_
          refine z_get (T := TX12) (N := 96) (ci := 12) (i := 0) (v := .ref (ad 38)) hx hb hts zj_X12_pour_X12 hown hK hW rfl rfl 61 (by decide) (hts (.fieldLink RX12 130 "PetrolBoardModel" "pourTenths" "[I") (me_s (me_l (me_l (List.mem_of_getElem? (i := 7) rfl))))) (fun _ h => h) rfl dX12_pour_83 ?_
          refine lv_aload_n hx hb dX12_pour_86 rfl (lv_at hl 0 rfl) ?_
          refine z_get (T := TX12) (N := 96) (ci := 12) (i := 0) (v := .int (I 0 55)) hx hb hts zj_X12_pour_X12 hown hK hW rfl rfl 55 (by decide) (hts (.fieldLink RX12 468 "PetrolBoardModel" "pours" "I") (me_s (me_l (me_l (List.mem_of_getElem? (i := 1) rfl))))) (fun _ h => h) (congrArg Value.int (by rw [eI29, z_up_n (by decide), eI23, z_up_n (by decide), eI18, z_up_n (by decide), eI13, z_up_n (by decide)])) dX12_pour_87 ?_
          refine lv_aload_n hx hb dX12_pour_90 rfl (lv_at hl 0 rfl) ?_
          refine lv_aload_n hx hb dX12_pour_91 rfl (lv_at hl 0 rfl) ?_
          refine z_get (T := TX12) (N := 96) (ci := 12) (i := 0) (v := .int (I 0 0)) hx hb hts zj_X12_pour_X12 hown hK hW rfl rfl 0 (by decide) (hts (.fieldLink RX12 232 "PetrolBoardModel" "today" "I") (me_s (me_l (me_l (List.mem_of_getElem? (i := 6) rfl))))) (fun _ h => h) (congrArg Value.int (by rw [eI29, z_up_n (by decide), eI23, z_up_n (by decide), eI18, z_up_n (by decide), eI13, z_up_n (by decide)])) dX12_pour_92 ?_
          refine lv_bipush (v := 30) hx hb dX12_pour_95 (by decide) ?_
          refine lv_idiv hx hb dX12_pour_97 (by decide) ?_
          refine lv_topi (fun x34 ex34 => ?_)
          have tx34 := z_tdiv ex34 rfl z_l30 (by decide)
          refine lv_aload_n hx hb dX12_pour_98 rfl (lv_at hl 0 rfl) ?_
          refine z_get (T := TX12) (N := 96) (ci := 12) (i := 0) (v := .int (I 0 0)) hx hb hts zj_X12_pour_X12 hown hK hW rfl rfl 0 (by decide) (hts (.fieldLink RX12 232 "PetrolBoardModel" "today" "I") (me_s (me_l (me_l (List.mem_of_getElem? (i := 6) rfl))))) (fun _ h => h) (congrArg Value.int (by rw [eI29, z_up_n (by decide), eI23, z_up_n (by decide), eI18, z_up_n (by decide), eI13, z_up_n (by decide)])) dX12_pour_99 ?_
          refine lv_iconst (v := 3) hx hb dX12_pour_102 (by decide) ?_
          refine z_ci hW hS hA (va_runV (As := [.int x34, .int (I 0 0), .int 3]) (rest := [.int (I 0 55), .ref (ad 38)]) ⟨hx, hb, hml, hown, hts⟩ (sx_X12_number l G ad I29 J ⟨(by show 0 ≤ (I29 0 13).toInt ∧ (I29 0 13).toInt ≤ 12; rw [eI29, z_up_n (by decide), eI23, z_up_n (by decide), eI18, z_up_n (by decide), eI13, z_up_n (by decide)]; exact hmb.1), (by show 0 ≤ (I29 0 14).toInt ∧ (I29 0 14).toInt ≤ 288; rw [eI29, z_up_n (by decide), eI23, z_up_n (by decide), eI18, z_up_n (by decide), eI13, z_up_n (by decide)]; exact hmb.2)⟩ a32 a33 x34 (I 0 0) 3 _) (cwV 3 hts gX12_pour_X12_number rfl rfl rfl hy_X12_number ⟨Nat.le_of_ble_eq_true rfl, Nat.le_of_ble_eq_true rfl⟩) (z_preV (i := 0) hK hW rfl rfl) rfl rfl hl.1 rfl (lv_room (Nat.le_of_ble_eq_true rfl)) dX12_pour_103 ⟨Nat.le_of_ble_eq_true rfl, Nat.le_of_ble_eq_true rfl⟩) (fun r u1 H locs hp hW hS => ?_)
          rw [hp] at hW
          refine lv_topi (fun x35 ex35 => ?_)
          refine z_iast (i := 38) hx hb hK hW hS rfl (z_ix rfl (by omega) (by omega)) dX12_pour_106 (fun H locs hz1 hW hS => ?_)
          obtain ⟨I36, eI36⟩ : ∃ K : z_I, K = z_up I29 38 (I 0 55).toNatClampNeg x35 := ⟨_, rfl⟩
          rw [← eI36] at hW
          have f37 := z_fr_a f30 (show z_wa L_X12_pour 38 = true by decide) eI36
          have a38 := z_rg_n a31 (by decide) eI36
          have a39 := z_rg_n a32 (by decide) eI36
          have a40 := z_rg_n a33 (by decide) eI36
          refine lv_aload_n hx hb dX12_pour_107 rfl (lv_at hl 0 rfl) ?_
          refine z_get (T := TX12) (N := 96) (ci := 12) (i := 0) (v := .ref (ad 39)) hx hb hts zj_X12_pour_X12 hown hK hW rfl rfl 62 (by decide) (hts (.fieldLink RX12 133 "PetrolBoardModel" "pourOwner" "[I") (me_s (me_l (me_l (List.mem_of_getElem? (i := 8) rfl))))) (fun _ h => h) rfl dX12_pour_108 ?_
          refine lv_aload_n hx hb dX12_pour_111 rfl (lv_at hl 0 rfl) ?_
          refine z_get (T := TX12) (N := 96) (ci := 12) (i := 0) (v := .int (I 0 55)) hx hb hts zj_X12_pour_X12 hown hK hW rfl rfl 55 (by decide) (hts (.fieldLink RX12 468 "PetrolBoardModel" "pours" "I") (me_s (me_l (me_l (List.mem_of_getElem? (i := 1) rfl))))) (fun _ h => h) (congrArg Value.int (by rw [eI36, z_up_n (by decide), eI29, z_up_n (by decide), eI23, z_up_n (by decide), eI18, z_up_n (by decide), eI13, z_up_n (by decide)])) dX12_pour_112 ?_
          refine lv_aload_n hx hb dX12_pour_115 rfl (lv_at hl 0 rfl) ?_
          refine lv_iload_n hx hb dX12_pour_116 rfl (lv_at hl 3 rfl) ?_
          refine z_ci hW hS hA (va_runV (As := [.int a3]) (rest := [.int (I 0 55), .ref (ad 39)]) ⟨hx, hb, hml, hown, hts⟩ (sx_X12_isCoupon l G ad I36 J  a3 _) (cwV 1 hts gX12_pour_X12_isCoupon rfl rfl rfl hy_X12_isCoupon ⟨Nat.le_of_ble_eq_true rfl, Nat.le_of_ble_eq_true rfl⟩) (z_preV (i := 0) hK hW rfl rfl) rfl rfl hl.1 rfl (lv_room (Nat.le_of_ble_eq_true rfl)) dX12_pour_117 ⟨Nat.le_of_ble_eq_true rfl, Nat.le_of_ble_eq_true rfl⟩) (fun r u1 H locs hp hW hS => ?_)
          obtain ⟨e9, hp⟩ := hp
          rw [e9] at hW
          rcases hp with ⟨rfl, h41, h42⟩ | rfl
          · refine lv_if_eq (tgt := 131) hx hb dX12_pour_120 (by decide) (fun c43 => absurd c43 (by decide)) (fun c43 => ?_)
            refine lv_aload_n hx hb dX12_pour_123 rfl (lv_at hl 0 rfl) ?_
            refine lv_iload_n hx hb dX12_pour_124 rfl (lv_at hl 3 rfl) ?_
            refine z_ci hW hS hA (va_runV (As := [.int a3]) (rest := [.int (I 0 55), .ref (ad 39)]) ⟨hx, hb, hml, hown, hts⟩ (sx_X12_heldBy l G ad I36 J a3 (by omega) _) (cwV 1 hts gX12_pour_X12_heldBy rfl rfl rfl hy_X12_heldBy ⟨Nat.le_of_ble_eq_true rfl, Nat.le_of_ble_eq_true rfl⟩) (z_preV (i := 0) hK hW rfl rfl) rfl rfl hl.1 rfl (lv_room (Nat.le_of_ble_eq_true rfl)) dX12_pour_125 ⟨Nat.le_of_ble_eq_true rfl, Nat.le_of_ble_eq_true rfl⟩) (fun r u1 H locs hp hW hS => ?_)
            rw [hp] at hW
            refine lv_topi (fun x44 ex44 => ?_)
            refine lv_goto (tgt := 132) hx hb dX12_pour_128 (by decide) ?_
            refine z_iast (i := 39) hx hb hK hW hS rfl (z_ix rfl (by omega) (by omega)) dX12_pour_132 (fun H locs hz1 hW hS => ?_)
            obtain ⟨I45, eI45⟩ : ∃ K : z_I, K = z_up I36 39 (I 0 55).toNatClampNeg x44 := ⟨_, rfl⟩
            rw [← eI45] at hW
            have f46 := z_fr_a f37 (show z_wa L_X12_pour 39 = true by decide) eI45
            have a47 := z_rg_n a38 (by decide) eI45
            have a48 := z_rg_n a39 (by decide) eI45
            have a49 := z_rg_n a40 (by decide) eI45
            refine lv_aload_n hx hb dX12_pour_133 rfl (lv_at hl 0 rfl) ?_
            refine z_get (T := TX12) (N := 96) (ci := 12) (i := 0) (v := .ref (ad 40)) hx hb hts zj_X12_pour_X12 hown hK hW rfl rfl 63 (by decide) (hts (.fieldLink RX12 136 "PetrolBoardModel" "pourJudged" "[I") (me_s (me_l (me_l (List.mem_of_getElem? (i := 9) rfl))))) (fun _ h => h) rfl dX12_pour_134 ?_
            refine lv_aload_n hx hb dX12_pour_137 rfl (lv_at hl 0 rfl) ?_
            refine z_get (T := TX12) (N := 96) (ci := 12) (i := 0) (v := .int (I 0 55)) hx hb hts zj_X12_pour_X12 hown hK hW rfl rfl 55 (by decide) (hts (.fieldLink RX12 468 "PetrolBoardModel" "pours" "I") (me_s (me_l (me_l (List.mem_of_getElem? (i := 1) rfl))))) (fun _ h => h) (congrArg Value.int (by rw [eI45, z_up_n (by decide), eI36, z_up_n (by decide), eI29, z_up_n (by decide), eI23, z_up_n (by decide), eI18, z_up_n (by decide), eI13, z_up_n (by decide)])) dX12_pour_138 ?_
            refine lv_iconst (v := (-1)) hx hb dX12_pour_141 (by decide) ?_
            refine z_iast (i := 40) hx hb hK hW hS rfl (z_ix rfl (by omega) (by omega)) dX12_pour_142 (fun H locs hz1 hW hS => ?_)
            obtain ⟨I50, eI50⟩ : ∃ K : z_I, K = z_up I45 40 (I 0 55).toNatClampNeg (-1) := ⟨_, rfl⟩
            rw [← eI50] at hW
            have f51 := z_fr_a f46 (show z_wa L_X12_pour 40 = true by decide) eI50
            have a52 := z_rg_n a47 (by decide) eI50
            have a53 := z_rg_n a48 (by decide) eI50
            have a54 := z_rg_n a49 (by decide) eI50
            refine lv_aload_n hx hb dX12_pour_143 rfl (lv_at hl 0 rfl) ?_
            refine z_get (T := TX12) (N := 96) (ci := 12) (i := 0) (v := .ref (ad 42)) hx hb hts zj_X12_pour_X12 hown hK hW rfl rfl 65 (by decide) (hts (.fieldLink RX12 142 "PetrolBoardModel" "pourDyed" "[Z") (me_s (me_l (me_l (List.mem_of_getElem? (i := 10) rfl))))) (fun _ h => h) rfl dX12_pour_144 ?_
            refine lv_aload_n hx hb dX12_pour_147 rfl (lv_at hl 0 rfl) ?_
            refine z_get (T := TX12) (N := 96) (ci := 12) (i := 0) (v := .int (I 0 55)) hx hb hts zj_X12_pour_X12 hown hK hW rfl rfl 55 (by decide) (hts (.fieldLink RX12 468 "PetrolBoardModel" "pours" "I") (me_s (me_l (me_l (List.mem_of_getElem? (i := 1) rfl))))) (fun _ h => h) (congrArg Value.int (by rw [eI50, z_up_n (by decide), eI45, z_up_n (by decide), eI36, z_up_n (by decide), eI29, z_up_n (by decide), eI23, z_up_n (by decide), eI18, z_up_n (by decide), eI13, z_up_n (by decide)])) dX12_pour_148 ?_
            refine lv_aload_n hx hb dX12_pour_151 rfl (lv_at hl 0 rfl) ?_
            refine lv_iload_n hx hb dX12_pour_152 rfl (lv_at hl 2 rfl) ?_
            refine lv_aload_n hx hb dX12_pour_153 rfl (lv_at hl 0 rfl) ?_
            refine z_get (T := TX12) (N := 96) (ci := 12) (i := 0) (v := .int (I 0 0)) hx hb hts zj_X12_pour_X12 hown hK hW rfl rfl 0 (by decide) (hts (.fieldLink RX12 232 "PetrolBoardModel" "today" "I") (me_s (me_l (me_l (List.mem_of_getElem? (i := 6) rfl))))) (fun _ h => h) (congrArg Value.int (by rw [eI50, z_up_n (by decide), eI45, z_up_n (by decide), eI36, z_up_n (by decide), eI29, z_up_n (by decide), eI23, z_up_n (by decide), eI18, z_up_n (by decide), eI13, z_up_n (by decide)])) dX12_pour_154 ?_
            refine lv_aload_n hx hb dX12_pour_157 rfl (lv_at hl 0 rfl) ?_
            refine z_get (T := TX12) (N := 96) (ci := 12) (i := 0) (v := .int (I 0 0)) hx hb hts zj_X12_pour_X12 hown hK hW rfl rfl 0 (by decide) (hts (.fieldLink RX12 232 "PetrolBoardModel" "today" "I") (me_s (me_l (me_l (List.mem_of_getElem? (i := 6) rfl))))) (fun _ h => h) (congrArg Value.int (by rw [eI50, z_up_n (by decide), eI45, z_up_n (by decide), eI36, z_up_n (by decide), eI29, z_up_n (by decide), eI23, z_up_n (by decide), eI18, z_up_n (by decide), eI13, z_up_n (by decide)])) dX12_pour_158 ?_
            refine z_ci hW hS hA (va_runV (As := [.int a2, .int (I 0 0), .int (I 0 0)]) (rest := [.int (I 0 55), .ref (ad 42)]) ⟨hx, hb, hml, hown, hts⟩ (sx_X12_kindOn l G ad I50 J ⟨(by show 0 ≤ (I50 0 0).toInt ∧ (I50 0 0).toInt ≤ 719; rw [eI50, z_up_n (by decide), eI45, z_up_n (by decide), eI36, z_up_n (by decide), eI29, z_up_n (by decide), eI23, z_up_n (by decide), eI18, z_up_n (by decide), eI13, z_up_n (by decide)]; exact hma.1), (by show 0 ≤ (I50 0 1).toInt ∧ (I50 0 1).toInt ≤ 30; rw [eI50, z_up_n (by decide), eI45, z_up_n (by decide), eI36, z_up_n (by decide), eI29, z_up_n (by decide), eI23, z_up_n (by decide), eI18, z_up_n (by decide), eI13, z_up_n (by decide)]; exact hma.2.1), (by show 0 ≤ (I50 0 2).toInt ∧ (I50 0 2).toInt ≤ 200; rw [eI50, z_up_n (by decide), eI45, z_up_n (by decide), eI36, z_up_n (by decide), eI29, z_up_n (by decide), eI23, z_up_n (by decide), eI18, z_up_n (by decide), eI13, z_up_n (by decide)]; exact hma.2.2)⟩ a2 (I 0 0) (I 0 0) _) (cwV 3 hts gX12_pour_X12_kindOn rfl rfl rfl hy_X12_kindOn ⟨Nat.le_of_ble_eq_true rfl, Nat.le_of_ble_eq_true rfl⟩) (z_preV (i := 0) hK hW rfl rfl) rfl rfl hl.1 rfl (lv_room (Nat.le_of_ble_eq_true rfl)) dX12_pour_161 ⟨Nat.le_of_ble_eq_true rfl, Nat.le_of_ble_eq_true rfl⟩) (fun r u1 H locs hp hW hS => ?_)
            rw [hp] at hW
            refine lv_topi (fun x55 ex55 => ?_)
            refine lv_iconst (v := 2) hx hb dX12_pour_164 (by decide) ?_
            refine lv_icmp_ne (tgt := 172) hx hb dX12_pour_165 (by decide) (fun c56 => ?_) (fun c56 => ?_)
            · have g57 := z_f_ne rfl z_l2 c56
              have b58 := Int32.toInt_lt x55
              refine lv_iconst (v := 0) hx hb dX12_pour_172 (by decide) ?_
              refine z_zast (i := 42) hx hb hK hW hS rfl (z_ix rfl (by omega) (by omega)) dX12_pour_173 (fun H locs hz1 hW hS => ?_)
              obtain ⟨I59, eI59⟩ : ∃ K : z_I, K = z_up I50 42 (I 0 55).toNatClampNeg (vp_nar .boolean 0) := ⟨_, rfl⟩
              rw [← eI59] at hW
              have f60 := z_fr_a f51 (show z_wa L_X12_pour 42 = true by decide) eI59
              have a61 := z_rg_n a52 (by decide) eI59
              have a62 := z_rg_n a53 (by decide) eI59
              have a63 := z_rg_n a54 (by decide) eI59
              refine lv_aload_n hx hb dX12_pour_174 rfl (lv_at hl 0 rfl) ?_
              refine z_get (T := TX12) (N := 96) (ci := 12) (i := 0) (v := .ref (ad 41)) hx hb hts zj_X12_pour_X12 hown hK hW rfl rfl 64 (by decide) (hts (.fieldLink RX12 139 "PetrolBoardModel" "pourCome" "[I") (me_s (me_l (me_l (List.mem_of_getElem? (i := 11) rfl))))) (fun _ h => h) rfl dX12_pour_175 ?_
              refine lv_aload_n hx hb dX12_pour_178 rfl (lv_at hl 0 rfl) ?_
              refine z_get (T := TX12) (N := 96) (ci := 12) (i := 0) (v := .int (I 0 55)) hx hb hts zj_X12_pour_X12 hown hK hW rfl rfl 55 (by decide) (hts (.fieldLink RX12 468 "PetrolBoardModel" "pours" "I") (me_s (me_l (me_l (List.mem_of_getElem? (i := 1) rfl))))) (fun _ h => h) (congrArg Value.int (by rw [eI59, z_up_n (by decide), eI50, z_up_n (by decide), eI45, z_up_n (by decide), eI36, z_up_n (by decide), eI29, z_up_n (by decide), eI23, z_up_n (by decide), eI18, z_up_n (by decide), eI13, z_up_n (by decide)])) dX12_pour_179 ?_
              refine lv_aload_n hx hb dX12_pour_182 rfl (lv_at hl 0 rfl) ?_
              refine z_get (T := TX12) (N := 96) (ci := 12) (i := 0) (v := .int (I 0 56)) hx hb hts zj_X12_pour_X12 hown hK hW rfl rfl 56 (by decide) (hts (.fieldLink RX12 471 "PetrolBoardModel" "comes" "I") (me_s (me_l (me_l (List.mem_of_getElem? (i := 12) rfl))))) (fun _ h => h) (congrArg Value.int (by rw [eI59, z_up_n (by decide), eI50, z_up_n (by decide), eI45, z_up_n (by decide), eI36, z_up_n (by decide), eI29, z_up_n (by decide), eI23, z_up_n (by decide), eI18, z_up_n (by decide), eI13, z_up_n (by decide)])) dX12_pour_183 ?_
              refine z_iast (i := 41) hx hb hK hW hS rfl (z_ix rfl (by omega) (by omega)) dX12_pour_186 (fun H locs hz1 hW hS => ?_)
              obtain ⟨I64, eI64⟩ : ∃ K : z_I, K = z_up I59 41 (I 0 55).toNatClampNeg (I 0 56) := ⟨_, rfl⟩
              rw [← eI64] at hW
              have f65 := z_fr_a f60 (show z_wa L_X12_pour 41 = true by decide) eI64
              have a66 := z_rg_n a61 (by decide) eI64
              have a67 := z_rg_n a62 (by decide) eI64
              have a68 := z_rg_n a63 (by decide) eI64
              refine lv_aload_n hx hb dX12_pour_187 rfl (lv_at hl 0 rfl) ?_
              refine lv_dup hx hb dX12_pour_188 rfl ?_
              refine z_get (T := TX12) (N := 96) (ci := 12) (i := 0) (v := .int (I 0 56)) hx hb hts zj_X12_pour_X12 hown hK hW rfl rfl 56 (by decide) (hts (.fieldLink RX12 471 "PetrolBoardModel" "comes" "I") (me_s (me_l (me_l (List.mem_of_getElem? (i := 12) rfl))))) (fun _ h => h) (congrArg Value.int (by rw [eI64, z_up_n (by decide), eI59, z_up_n (by decide), eI50, z_up_n (by decide), eI45, z_up_n (by decide), eI36, z_up_n (by decide), eI29, z_up_n (by decide), eI23, z_up_n (by decide), eI18, z_up_n (by decide), eI13, z_up_n (by decide)])) dX12_pour_189 ?_
              refine lv_iconst (v := 1) hx hb dX12_pour_192 (by decide) ?_
              refine lv_iadd hx hb dX12_pour_193 ?_
              refine lv_topi (fun x69 ex69 => ?_)
              refine z_put (T := TX12) (N := 96) (ci := 12) (i := 0) (v := .int x69) (I1 := z_up I64 0 56 x69) (J1 := J) (P1 := PM ad) hx hb hts zj_X12_pour_X12 tyX12 tyX12_ok nmX12 hown hK hW hS rfl rfl 56 (by decide) (hts (.fieldLink RX12 471 "PetrolBoardModel" "comes" "I") (me_s (me_l (me_l (List.mem_of_getElem? (i := 12) rfl))))) (fun _ h => h) rfl rfl rfl (by first | rfl | exact congrArg _ z_up_s) (fun a b h ty => z_vI h ty) dX12_pour_194 (fun H locs hz1 hW hS => ?_)
              obtain ⟨I70, eI70⟩ : ∃ K : z_I, K = z_up I64 0 56 x69 := ⟨_, rfl⟩
              rw [← eI70] at hW
              have f71 := z_fr_k f65 (show z_wr L_X12_pour 0 56 = true by decide) eI70
              have a72 := z_rg_n a66 (by decide) eI70
              have a73 := z_rg_n a67 (by decide) eI70
              have a74 := z_rg_n a68 (by decide) eI70
              refine lv_aload_n hx hb dX12_pour_197 rfl (lv_at hl 0 rfl) ?_
              refine lv_dup hx hb dX12_pour_198 rfl ?_
              refine z_get (T := TX12) (N := 96) (ci := 12) (i := 0) (v := .int (I 0 55)) hx hb hts zj_X12_pour_X12 hown hK hW rfl rfl 55 (by decide) (hts (.fieldLink RX12 468 "PetrolBoardModel" "pours" "I") (me_s (me_l (me_l (List.mem_of_getElem? (i := 1) rfl))))) (fun _ h => h) (congrArg Value.int (by rw [eI70, z_up_k (by decide), eI64, z_up_n (by decide), eI59, z_up_n (by decide), eI50, z_up_n (by decide), eI45, z_up_n (by decide), eI36, z_up_n (by decide), eI29, z_up_n (by decide), eI23, z_up_n (by decide), eI18, z_up_n (by decide), eI13, z_up_n (by decide)])) dX12_pour_199 ?_
              refine lv_iconst (v := 1) hx hb dX12_pour_202 (by decide) ?_
              refine lv_iadd hx hb dX12_pour_203 ?_
              refine lv_topi (fun x75 ex75 => ?_)
              have tx75 : x75.toInt = (I 0 55).toInt + 1 := z_tadd ex75 rfl z_l1 (by omega) (by omega)
              refine z_put (T := TX12) (N := 96) (ci := 12) (i := 0) (v := .int x75) (I1 := z_up I70 0 55 x75) (J1 := J) (P1 := PM ad) hx hb hts zj_X12_pour_X12 tyX12 tyX12_ok nmX12 hown hK hW hS rfl rfl 55 (by decide) (hts (.fieldLink RX12 468 "PetrolBoardModel" "pours" "I") (me_s (me_l (me_l (List.mem_of_getElem? (i := 1) rfl))))) (fun _ h => h) rfl rfl rfl (by first | rfl | exact congrArg _ z_up_s) (fun a b h ty => z_vI h ty) dX12_pour_204 (fun H locs hz1 hW hS => ?_)
              obtain ⟨I76, eI76⟩ : ∃ K : z_I, K = z_up I70 0 55 x75 := ⟨_, rfl⟩
              rw [← eI76] at hW
              have f77 := z_fr_k f71 (show z_wr L_X12_pour 0 55 = true by decide) eI76
              have a78 := z_rg_n a72 (by decide) eI76
              have a79 := z_rg_n a73 (by decide) eI76
              have a80 := z_rg_n a74 (by decide) eI76
              refine lv_aload_n hx hb dX12_pour_207 rfl (lv_at hl 0 rfl) ?_
              refine z_get (T := TX12) (N := 96) (ci := 12) (i := 0) (v := .int x75) hx hb hts zj_X12_pour_X12 hown hK hW rfl rfl 55 (by decide) (hts (.fieldLink RX12 468 "PetrolBoardModel" "pours" "I") (me_s (me_l (me_l (List.mem_of_getElem? (i := 1) rfl))))) (fun _ h => h) (congrArg Value.int (by rw [eI76, z_up_s])) dX12_pour_208 ?_
              refine lv_iconst (v := 1) hx hb dX12_pour_211 (by decide) ?_
              refine lv_isub hx hb dX12_pour_212 ?_
              refine lv_topi (fun x81 ex81 => ?_)
              have tx81 : x81.toInt = x75.toInt - 1 := z_tsub ex81 rfl z_l1 (by omega) (by omega)
              exact z_iret hx hb hr hK hS (Nat.le_of_ble_eq_true rfl) (Nat.le_of_ble_eq_true rfl) hlocks dX12_pour_213 (shM, ad, I76, J, PM ad) hW ⟨I76, J, rfl, ⟨(by show 0 ≤ (I76 0 0).toInt ∧ (I76 0 0).toInt ≤ 719; rw [eI76, z_up_k (by decide), eI70, z_up_k (by decide), eI64, z_up_n (by decide), eI59, z_up_n (by decide), eI50, z_up_n (by decide), eI45, z_up_n (by decide), eI36, z_up_n (by decide), eI29, z_up_n (by decide), eI23, z_up_n (by decide), eI18, z_up_n (by decide), eI13, z_up_n (by decide)]; exact hma.1), (by show 0 ≤ (I76 0 1).toInt ∧ (I76 0 1).toInt ≤ 30; rw [eI76, z_up_k (by decide), eI70, z_up_k (by decide), eI64, z_up_n (by decide), eI59, z_up_n (by decide), eI50, z_up_n (by decide), eI45, z_up_n (by decide), eI36, z_up_n (by decide), eI29, z_up_n (by decide), eI23, z_up_n (by decide), eI18, z_up_n (by decide), eI13, z_up_n (by decide)]; exact hma.2.1), (by show 0 ≤ (I76 0 2).toInt ∧ (I76 0 2).toInt ≤ 200; rw [eI76, z_up_k (by decide), eI70, z_up_k (by decide), eI64, z_up_n (by decide), eI59, z_up_n (by decide), eI50, z_up_n (by decide), eI45, z_up_n (by decide), eI36, z_up_n (by decide), eI29, z_up_n (by decide), eI23, z_up_n (by decide), eI18, z_up_n (by decide), eI13, z_up_n (by decide)]; exact hma.2.2)⟩, ⟨(by show 0 ≤ (I76 0 54).toInt ∧ (I76 0 54).toInt ≤ 10; rw [eI76, z_up_k (by decide), eI70, z_up_k (by decide), eI64, z_up_n (by decide), eI59, z_up_n (by decide), eI50, z_up_n (by decide), eI45, z_up_n (by decide), eI36, z_up_n (by decide), eI29, z_up_n (by decide), eI23, z_up_n (by decide), eI18, z_up_n (by decide), eI13, z_up_n (by decide)]; exact hms.1), (by show 0 ≤ (I76 0 55).toInt ∧ (I76 0 55).toInt ≤ 300; rw [eI76, z_up_s]; omega)⟩, a78, ⟨(by show 0 ≤ (I76 0 13).toInt ∧ (I76 0 13).toInt ≤ 12; rw [eI76, z_up_k (by decide), eI70, z_up_k (by decide), eI64, z_up_n (by decide), eI59, z_up_n (by decide), eI50, z_up_n (by decide), eI45, z_up_n (by decide), eI36, z_up_n (by decide), eI29, z_up_n (by decide), eI23, z_up_n (by decide), eI18, z_up_n (by decide), eI13, z_up_n (by decide)]; exact hmb.1), (by show 0 ≤ (I76 0 14).toInt ∧ (I76 0 14).toInt ≤ 288; rw [eI76, z_up_k (by decide), eI70, z_up_k (by decide), eI64, z_up_n (by decide), eI59, z_up_n (by decide), eI50, z_up_n (by decide), eI45, z_up_n (by decide), eI36, z_up_n (by decide), eI29, z_up_n (by decide), eI23, z_up_n (by decide), eI18, z_up_n (by decide), eI13, z_up_n (by decide)]; exact hmb.2)⟩, a79, a80, f77⟩
            · have g82 := z_f_eq rfl z_l2 c56
              have b83 := Int32.toInt_lt x55
              refine lv_iconst (v := 1) hx hb dX12_pour_168 (by decide) ?_
              refine lv_goto (tgt := 173) hx hb dX12_pour_169 (by decide) ?_
              refine z_zast (i := 42) hx hb hK hW hS rfl (z_ix rfl (by omega) (by omega)) dX12_pour_173 (fun H locs hz1 hW hS => ?_)
              obtain ⟨I84, eI84⟩ : ∃ K : z_I, K = z_up I50 42 (I 0 55).toNatClampNeg (vp_nar .boolean 1) := ⟨_, rfl⟩
              rw [← eI84] at hW
              have f85 := z_fr_a f51 (show z_wa L_X12_pour 42 = true by decide) eI84
              have a86 := z_rg_n a52 (by decide) eI84
              have a87 := z_rg_n a53 (by decide) eI84
              have a88 := z_rg_n a54 (by decide) eI84
              refine lv_aload_n hx hb dX12_pour_174 rfl (lv_at hl 0 rfl) ?_
              refine z_get (T := TX12) (N := 96) (ci := 12) (i := 0) (v := .ref (ad 41)) hx hb hts zj_X12_pour_X12 hown hK hW rfl rfl 64 (by decide) (hts (.fieldLink RX12 139 "PetrolBoardModel" "pourCome" "[I") (me_s (me_l (me_l (List.mem_of_getElem? (i := 11) rfl))))) (fun _ h => h) rfl dX12_pour_175 ?_
              refine lv_aload_n hx hb dX12_pour_178 rfl (lv_at hl 0 rfl) ?_
              refine z_get (T := TX12) (N := 96) (ci := 12) (i := 0) (v := .int (I 0 55)) hx hb hts zj_X12_pour_X12 hown hK hW rfl rfl 55 (by decide) (hts (.fieldLink RX12 468 "PetrolBoardModel" "pours" "I") (me_s (me_l (me_l (List.mem_of_getElem? (i := 1) rfl))))) (fun _ h => h) (congrArg Value.int (by rw [eI84, z_up_n (by decide), eI50, z_up_n (by decide), eI45, z_up_n (by decide), eI36, z_up_n (by decide), eI29, z_up_n (by decide), eI23, z_up_n (by decide), eI18, z_up_n (by decide), eI13, z_up_n (by decide)])) dX12_pour_179 ?_
              refine lv_aload_n hx hb dX12_pour_182 rfl (lv_at hl 0 rfl) ?_
              refine z_get (T := TX12) (N := 96) (ci := 12) (i := 0) (v := .int (I 0 56)) hx hb hts zj_X12_pour_X12 hown hK hW rfl rfl 56 (by decide) (hts (.fieldLink RX12 471 "PetrolBoardModel" "comes" "I") (me_s (me_l (me_l (List.mem_of_getElem? (i := 12) rfl))))) (fun _ h => h) (congrArg Value.int (by rw [eI84, z_up_n (by decide), eI50, z_up_n (by decide), eI45, z_up_n (by decide), eI36, z_up_n (by decide), eI29, z_up_n (by decide), eI23, z_up_n (by decide), eI18, z_up_n (by decide), eI13, z_up_n (by decide)])) dX12_pour_183 ?_
              refine z_iast (i := 41) hx hb hK hW hS rfl (z_ix rfl (by omega) (by omega)) dX12_pour_186 (fun H locs hz1 hW hS => ?_)
              obtain ⟨I89, eI89⟩ : ∃ K : z_I, K = z_up I84 41 (I 0 55).toNatClampNeg (I 0 56) := ⟨_, rfl⟩
              rw [← eI89] at hW
              have f90 := z_fr_a f85 (show z_wa L_X12_pour 41 = true by decide) eI89
              have a91 := z_rg_n a86 (by decide) eI89
              have a92 := z_rg_n a87 (by decide) eI89
              have a93 := z_rg_n a88 (by decide) eI89
              refine lv_aload_n hx hb dX12_pour_187 rfl (lv_at hl 0 rfl) ?_
              refine lv_dup hx hb dX12_pour_188 rfl ?_
              refine z_get (T := TX12) (N := 96) (ci := 12) (i := 0) (v := .int (I 0 56)) hx hb hts zj_X12_pour_X12 hown hK hW rfl rfl 56 (by decide) (hts (.fieldLink RX12 471 "PetrolBoardModel" "comes" "I") (me_s (me_l (me_l (List.mem_of_getElem? (i := 12) rfl))))) (fun _ h => h) (congrArg Value.int (by rw [eI89, z_up_n (by decide), eI84, z_up_n (by decide), eI50, z_up_n (by decide), eI45, z_up_n (by decide), eI36, z_up_n (by decide), eI29, z_up_n (by decide), eI23, z_up_n (by decide), eI18, z_up_n (by decide), eI13, z_up_n (by decide)])) dX12_pour_189 ?_
              refine lv_iconst (v := 1) hx hb dX12_pour_192 (by decide) ?_
              refine lv_iadd hx hb dX12_pour_193 ?_
              refine lv_topi (fun x94 ex94 => ?_)
              refine z_put (T := TX12) (N := 96) (ci := 12) (i := 0) (v := .int x94) (I1 := z_up I89 0 56 x94) (J1 := J) (P1 := PM ad) hx hb hts zj_X12_pour_X12 tyX12 tyX12_ok nmX12 hown hK hW hS rfl rfl 56 (by decide) (hts (.fieldLink RX12 471 "PetrolBoardModel" "comes" "I") (me_s (me_l (me_l (List.mem_of_getElem? (i := 12) rfl))))) (fun _ h => h) rfl rfl rfl (by first | rfl | exact congrArg _ z_up_s) (fun a b h ty => z_vI h ty) dX12_pour_194 (fun H locs hz1 hW hS => ?_)
              obtain ⟨I95, eI95⟩ : ∃ K : z_I, K = z_up I89 0 56 x94 := ⟨_, rfl⟩
              rw [← eI95] at hW
              have f96 := z_fr_k f90 (show z_wr L_X12_pour 0 56 = true by decide) eI95
              have a97 := z_rg_n a91 (by decide) eI95
              have a98 := z_rg_n a92 (by decide) eI95
              have a99 := z_rg_n a93 (by decide) eI95
              refine lv_aload_n hx hb dX12_pour_197 rfl (lv_at hl 0 rfl) ?_
              refine lv_dup hx hb dX12_pour_198 rfl ?_
              refine z_get (T := TX12) (N := 96) (ci := 12) (i := 0) (v := .int (I 0 55)) hx hb hts zj_X12_pour_X12 hown hK hW rfl rfl 55 (by decide) (hts (.fieldLink RX12 468 "PetrolBoardModel" "pours" "I") (me_s (me_l (me_l (List.mem_of_getElem? (i := 1) rfl))))) (fun _ h => h) (congrArg Value.int (by rw [eI95, z_up_k (by decide), eI89, z_up_n (by decide), eI84, z_up_n (by decide), eI50, z_up_n (by decide), eI45, z_up_n (by decide), eI36, z_up_n (by decide), eI29, z_up_n (by decide), eI23, z_up_n (by decide), eI18, z_up_n (by decide), eI13, z_up_n (by decide)])) dX12_pour_199 ?_
              refine lv_iconst (v := 1) hx hb dX12_pour_202 (by decide) ?_
              refine lv_iadd hx hb dX12_pour_203 ?_
              refine lv_topi (fun x100 ex100 => ?_)
              have tx100 : x100.toInt = (I 0 55).toInt + 1 := z_tadd ex100 rfl z_l1 (by omega) (by omega)
              refine z_put (T := TX12) (N := 96) (ci := 12) (i := 0) (v := .int x100) (I1 := z_up I95 0 55 x100) (J1 := J) (P1 := PM ad) hx hb hts zj_X12_pour_X12 tyX12 tyX12_ok nmX12 hown hK hW hS rfl rfl 55 (by decide) (hts (.fieldLink RX12 468 "PetrolBoardModel" "pours" "I") (me_s (me_l (me_l (List.mem_of_getElem? (i := 1) rfl))))) (fun _ h => h) rfl rfl rfl (by first | rfl | exact congrArg _ z_up_s) (fun a b h ty => z_vI h ty) dX12_pour_204 (fun H locs hz1 hW hS => ?_)
              obtain ⟨I101, eI101⟩ : ∃ K : z_I, K = z_up I95 0 55 x100 := ⟨_, rfl⟩
              rw [← eI101] at hW
              have f102 := z_fr_k f96 (show z_wr L_X12_pour 0 55 = true by decide) eI101
              have a103 := z_rg_n a97 (by decide) eI101
              have a104 := z_rg_n a98 (by decide) eI101
              have a105 := z_rg_n a99 (by decide) eI101
              refine lv_aload_n hx hb dX12_pour_207 rfl (lv_at hl 0 rfl) ?_
              refine z_get (T := TX12) (N := 96) (ci := 12) (i := 0) (v := .int x100) hx hb hts zj_X12_pour_X12 hown hK hW rfl rfl 55 (by decide) (hts (.fieldLink RX12 468 "PetrolBoardModel" "pours" "I") (me_s (me_l (me_l (List.mem_of_getElem? (i := 1) rfl))))) (fun _ h => h) (congrArg Value.int (by rw [eI101, z_up_s])) dX12_pour_208 ?_
              refine lv_iconst (v := 1) hx hb dX12_pour_211 (by decide) ?_
              refine lv_isub hx hb dX12_pour_212 ?_
              refine lv_topi (fun x106 ex106 => ?_)
              have tx106 : x106.toInt = x100.toInt - 1 := z_tsub ex106 rfl z_l1 (by omega) (by omega)
              exact z_iret hx hb hr hK hS (Nat.le_of_ble_eq_true rfl) (Nat.le_of_ble_eq_true rfl) hlocks dX12_pour_213 (shM, ad, I101, J, PM ad) hW ⟨I101, J, rfl, ⟨(by show 0 ≤ (I101 0 0).toInt ∧ (I101 0 0).toInt ≤ 719; rw [eI101, z_up_k (by decide), eI95, z_up_k (by decide), eI89, z_up_n (by decide), eI84, z_up_n (by decide), eI50, z_up_n (by decide), eI45, z_up_n (by decide), eI36, z_up_n (by decide), eI29, z_up_n (by decide), eI23, z_up_n (by decide), eI18, z_up_n (by decide), eI13, z_up_n (by decide)]; exact hma.1), (by show 0 ≤ (I101 0 1).toInt ∧ (I101 0 1).toInt ≤ 30; rw [eI101, z_up_k (by decide), eI95, z_up_k (by decide), eI89, z_up_n (by decide), eI84, z_up_n (by decide), eI50, z_up_n (by decide), eI45, z_up_n (by decide), eI36, z_up_n (by decide), eI29, z_up_n (by decide), eI23, z_up_n (by decide), eI18, z_up_n (by decide), eI13, z_up_n (by decide)]; exact hma.2.1), (by show 0 ≤ (I101 0 2).toInt ∧ (I101 0 2).toInt ≤ 200; rw [eI101, z_up_k (by decide), eI95, z_up_k (by decide), eI89, z_up_n (by decide), eI84, z_up_n (by decide), eI50, z_up_n (by decide), eI45, z_up_n (by decide), eI36, z_up_n (by decide), eI29, z_up_n (by decide), eI23, z_up_n (by decide), eI18, z_up_n (by decide), eI13, z_up_n (by decide)]; exact hma.2.2)⟩, ⟨(by show 0 ≤ (I101 0 54).toInt ∧ (I101 0 54).toInt ≤ 10; rw [eI101, z_up_k (by decide), eI95, z_up_k (by decide), eI89, z_up_n (by decide), eI84, z_up_n (by decide), eI50, z_up_n (by decide), eI45, z_up_n (by decide), eI36, z_up_n (by decide), eI29, z_up_n (by decide), eI23, z_up_n (by decide), eI18, z_up_n (by decide), eI13, z_up_n (by decide)]; exact hms.1), (by show 0 ≤ (I101 0 55).toInt ∧ (I101 0 55).toInt ≤ 300; rw [eI101, z_up_s]; omega)⟩, a103, ⟨(by show 0 ≤ (I101 0 13).toInt ∧ (I101 0 13).toInt ≤ 12; rw [eI101, z_up_k (by decide), eI95, z_up_k (by decide), eI89, z_up_n (by decide), eI84, z_up_n (by decide), eI50, z_up_n (by decide), eI45, z_up_n (by decide), eI36, z_up_n (by decide), eI29, z_up_n (by decide), eI23, z_up_n (by decide), eI18, z_up_n (by decide), eI13, z_up_n (by decide)]; exact hmb.1), (by show 0 ≤ (I101 0 14).toInt ∧ (I101 0 14).toInt ≤ 288; rw [eI101, z_up_k (by decide), eI95, z_up_k (by decide), eI89, z_up_n (by decide), eI84, z_up_n (by decide), eI50, z_up_n (by decide), eI45, z_up_n (by decide), eI36, z_up_n (by decide), eI29, z_up_n (by decide), eI23, z_up_n (by decide), eI18, z_up_n (by decide), eI13, z_up_n (by decide)]; exact hmb.2)⟩, a104, a105, f102⟩
          · refine lv_if_eq (tgt := 131) hx hb dX12_pour_120 (by decide) (fun c107 => ?_) (fun c107 => absurd (by decide) c107)
            refine lv_iconst (v := (-1)) hx hb dX12_pour_131 (by decide) ?_
            refine z_iast (i := 39) hx hb hK hW hS rfl (z_ix rfl (by omega) (by omega)) dX12_pour_132 (fun H locs hz1 hW hS => ?_)
            obtain ⟨I108, eI108⟩ : ∃ K : z_I, K = z_up I36 39 (I 0 55).toNatClampNeg (-1) := ⟨_, rfl⟩
            rw [← eI108] at hW
            have f109 := z_fr_a f37 (show z_wa L_X12_pour 39 = true by decide) eI108
            have a110 := z_rg_n a38 (by decide) eI108
            have a111 := z_rg_n a39 (by decide) eI108
            have a112 := z_rg_n a40 (by decide) eI108
            refine lv_aload_n hx hb dX12_pour_133 rfl (lv_at hl 0 rfl) ?_
            refine z_get (T := TX12) (N := 96) (ci := 12) (i := 0) (v := .ref (ad 40)) hx hb hts zj_X12_pour_X12 hown hK hW rfl rfl 63 (by decide) (hts (.fieldLink RX12 136 "PetrolBoardModel" "pourJudged" "[I") (me_s (me_l (me_l (List.mem_of_getElem? (i := 9) rfl))))) (fun _ h => h) rfl dX12_pour_134 ?_
            refine lv_aload_n hx hb dX12_pour_137 rfl (lv_at hl 0 rfl) ?_
            refine z_get (T := TX12) (N := 96) (ci := 12) (i := 0) (v := .int (I 0 55)) hx hb hts zj_X12_pour_X12 hown hK hW rfl rfl 55 (by decide) (hts (.fieldLink RX12 468 "PetrolBoardModel" "pours" "I") (me_s (me_l (me_l (List.mem_of_getElem? (i := 1) rfl))))) (fun _ h => h) (congrArg Value.int (by rw [eI108, z_up_n (by decide), eI36, z_up_n (by decide), eI29, z_up_n (by decide), eI23, z_up_n (by decide), eI18, z_up_n (by decide), eI13, z_up_n (by decide)])) dX12_pour_138 ?_
            refine lv_iconst (v := (-1)) hx hb dX12_pour_141 (by decide) ?_
            refine z_iast (i := 40) hx hb hK hW hS rfl (z_ix rfl (by omega) (by omega)) dX12_pour_142 (fun H locs hz1 hW hS => ?_)
            obtain ⟨I113, eI113⟩ : ∃ K : z_I, K = z_up I108 40 (I 0 55).toNatClampNeg (-1) := ⟨_, rfl⟩
            rw [← eI113] at hW
            have f114 := z_fr_a f109 (show z_wa L_X12_pour 40 = true by decide) eI113
            have a115 := z_rg_n a110 (by decide) eI113
            have a116 := z_rg_n a111 (by decide) eI113
            have a117 := z_rg_n a112 (by decide) eI113
            refine lv_aload_n hx hb dX12_pour_143 rfl (lv_at hl 0 rfl) ?_
            refine z_get (T := TX12) (N := 96) (ci := 12) (i := 0) (v := .ref (ad 42)) hx hb hts zj_X12_pour_X12 hown hK hW rfl rfl 65 (by decide) (hts (.fieldLink RX12 142 "PetrolBoardModel" "pourDyed" "[Z") (me_s (me_l (me_l (List.mem_of_getElem? (i := 10) rfl))))) (fun _ h => h) rfl dX12_pour_144 ?_
            refine lv_aload_n hx hb dX12_pour_147 rfl (lv_at hl 0 rfl) ?_
            refine z_get (T := TX12) (N := 96) (ci := 12) (i := 0) (v := .int (I 0 55)) hx hb hts zj_X12_pour_X12 hown hK hW rfl rfl 55 (by decide) (hts (.fieldLink RX12 468 "PetrolBoardModel" "pours" "I") (me_s (me_l (me_l (List.mem_of_getElem? (i := 1) rfl))))) (fun _ h => h) (congrArg Value.int (by rw [eI113, z_up_n (by decide), eI108, z_up_n (by decide), eI36, z_up_n (by decide), eI29, z_up_n (by decide), eI23, z_up_n (by decide), eI18, z_up_n (by decide), eI13, z_up_n (by decide)])) dX12_pour_148 ?_
            refine lv_aload_n hx hb dX12_pour_151 rfl (lv_at hl 0 rfl) ?_
            refine lv_iload_n hx hb dX12_pour_152 rfl (lv_at hl 2 rfl) ?_
            refine lv_aload_n hx hb dX12_pour_153 rfl (lv_at hl 0 rfl) ?_
            refine z_get (T := TX12) (N := 96) (ci := 12) (i := 0) (v := .int (I 0 0)) hx hb hts zj_X12_pour_X12 hown hK hW rfl rfl 0 (by decide) (hts (.fieldLink RX12 232 "PetrolBoardModel" "today" "I") (me_s (me_l (me_l (List.mem_of_getElem? (i := 6) rfl))))) (fun _ h => h) (congrArg Value.int (by rw [eI113, z_up_n (by decide), eI108, z_up_n (by decide), eI36, z_up_n (by decide), eI29, z_up_n (by decide), eI23, z_up_n (by decide), eI18, z_up_n (by decide), eI13, z_up_n (by decide)])) dX12_pour_154 ?_
            refine lv_aload_n hx hb dX12_pour_157 rfl (lv_at hl 0 rfl) ?_
            refine z_get (T := TX12) (N := 96) (ci := 12) (i := 0) (v := .int (I 0 0)) hx hb hts zj_X12_pour_X12 hown hK hW rfl rfl 0 (by decide) (hts (.fieldLink RX12 232 "PetrolBoardModel" "today" "I") (me_s (me_l (me_l (List.mem_of_getElem? (i := 6) rfl))))) (fun _ h => h) (congrArg Value.int (by rw [eI113, z_up_n (by decide), eI108, z_up_n (by decide), eI36, z_up_n (by decide), eI29, z_up_n (by decide), eI23, z_up_n (by decide), eI18, z_up_n (by decide), eI13, z_up_n (by decide)])) dX12_pour_158 ?_
            refine z_ci hW hS hA (va_runV (As := [.int a2, .int (I 0 0), .int (I 0 0)]) (rest := [.int (I 0 55), .ref (ad 42)]) ⟨hx, hb, hml, hown, hts⟩ (sx_X12_kindOn l G ad I113 J ⟨(by show 0 ≤ (I113 0 0).toInt ∧ (I113 0 0).toInt ≤ 719; rw [eI113, z_up_n (by decide), eI108, z_up_n (by decide), eI36, z_up_n (by decide), eI29, z_up_n (by decide), eI23, z_up_n (by decide), eI18, z_up_n (by decide), eI13, z_up_n (by decide)]; exact hma.1), (by show 0 ≤ (I113 0 1).toInt ∧ (I113 0 1).toInt ≤ 30; rw [eI113, z_up_n (by decide), eI108, z_up_n (by decide), eI36, z_up_n (by decide), eI29, z_up_n (by decide), eI23, z_up_n (by decide), eI18, z_up_n (by decide), eI13, z_up_n (by decide)]; exact hma.2.1), (by show 0 ≤ (I113 0 2).toInt ∧ (I113 0 2).toInt ≤ 200; rw [eI113, z_up_n (by decide), eI108, z_up_n (by decide), eI36, z_up_n (by decide), eI29, z_up_n (by decide), eI23, z_up_n (by decide), eI18, z_up_n (by decide), eI13, z_up_n (by decide)]; exact hma.2.2)⟩ a2 (I 0 0) (I 0 0) _) (cwV 3 hts gX12_pour_X12_kindOn rfl rfl rfl hy_X12_kindOn ⟨Nat.le_of_ble_eq_true rfl, Nat.le_of_ble_eq_true rfl⟩) (z_preV (i := 0) hK hW rfl rfl) rfl rfl hl.1 rfl (lv_room (Nat.le_of_ble_eq_true rfl)) dX12_pour_161 ⟨Nat.le_of_ble_eq_true rfl, Nat.le_of_ble_eq_true rfl⟩) (fun r u1 H locs hp hW hS => ?_)
            rw [hp] at hW
            refine lv_topi (fun x118 ex118 => ?_)
            refine lv_iconst (v := 2) hx hb dX12_pour_164 (by decide) ?_
            refine lv_icmp_ne (tgt := 172) hx hb dX12_pour_165 (by decide) (fun c119 => ?_) (fun c119 => ?_)
            · have g120 := z_f_ne rfl z_l2 c119
              have b121 := Int32.toInt_lt x118
              refine lv_iconst (v := 0) hx hb dX12_pour_172 (by decide) ?_
              refine z_zast (i := 42) hx hb hK hW hS rfl (z_ix rfl (by omega) (by omega)) dX12_pour_173 (fun H locs hz1 hW hS => ?_)
              obtain ⟨I122, eI122⟩ : ∃ K : z_I, K = z_up I113 42 (I 0 55).toNatClampNeg (vp_nar .boolean 0) := ⟨_, rfl⟩
              rw [← eI122] at hW
              have f123 := z_fr_a f114 (show z_wa L_X12_pour 42 = true by decide) eI122
              have a124 := z_rg_n a115 (by decide) eI122
              have a125 := z_rg_n a116 (by decide) eI122
              have a126 := z_rg_n a117 (by decide) eI122
              refine lv_aload_n hx hb dX12_pour_174 rfl (lv_at hl 0 rfl) ?_
              refine z_get (T := TX12) (N := 96) (ci := 12) (i := 0) (v := .ref (ad 41)) hx hb hts zj_X12_pour_X12 hown hK hW rfl rfl 64 (by decide) (hts (.fieldLink RX12 139 "PetrolBoardModel" "pourCome" "[I") (me_s (me_l (me_l (List.mem_of_getElem? (i := 11) rfl))))) (fun _ h => h) rfl dX12_pour_175 ?_
              refine lv_aload_n hx hb dX12_pour_178 rfl (lv_at hl 0 rfl) ?_
              refine z_get (T := TX12) (N := 96) (ci := 12) (i := 0) (v := .int (I 0 55)) hx hb hts zj_X12_pour_X12 hown hK hW rfl rfl 55 (by decide) (hts (.fieldLink RX12 468 "PetrolBoardModel" "pours" "I") (me_s (me_l (me_l (List.mem_of_getElem? (i := 1) rfl))))) (fun _ h => h) (congrArg Value.int (by rw [eI122, z_up_n (by decide), eI113, z_up_n (by decide), eI108, z_up_n (by decide), eI36, z_up_n (by decide), eI29, z_up_n (by decide), eI23, z_up_n (by decide), eI18, z_up_n (by decide), eI13, z_up_n (by decide)])) dX12_pour_179 ?_
              refine lv_aload_n hx hb dX12_pour_182 rfl (lv_at hl 0 rfl) ?_
              refine z_get (T := TX12) (N := 96) (ci := 12) (i := 0) (v := .int (I 0 56)) hx hb hts zj_X12_pour_X12 hown hK hW rfl rfl 56 (by decide) (hts (.fieldLink RX12 471 "PetrolBoardModel" "comes" "I") (me_s (me_l (me_l (List.mem_of_getElem? (i := 12) rfl))))) (fun _ h => h) (congrArg Value.int (by rw [eI122, z_up_n (by decide), eI113, z_up_n (by decide), eI108, z_up_n (by decide), eI36, z_up_n (by decide), eI29, z_up_n (by decide), eI23, z_up_n (by decide), eI18, z_up_n (by decide), eI13, z_up_n (by decide)])) dX12_pour_183 ?_
              refine z_iast (i := 41) hx hb hK hW hS rfl (z_ix rfl (by omega) (by omega)) dX12_pour_186 (fun H locs hz1 hW hS => ?_)
              obtain ⟨I127, eI127⟩ : ∃ K : z_I, K = z_up I122 41 (I 0 55).toNatClampNeg (I 0 56) := ⟨_, rfl⟩
              rw [← eI127] at hW
              have f128 := z_fr_a f123 (show z_wa L_X12_pour 41 = true by decide) eI127
              have a129 := z_rg_n a124 (by decide) eI127
              have a130 := z_rg_n a125 (by decide) eI127
              have a131 := z_rg_n a126 (by decide) eI127
              refine lv_aload_n hx hb dX12_pour_187 rfl (lv_at hl 0 rfl) ?_
              refine lv_dup hx hb dX12_pour_188 rfl ?_
              refine z_get (T := TX12) (N := 96) (ci := 12) (i := 0) (v := .int (I 0 56)) hx hb hts zj_X12_pour_X12 hown hK hW rfl rfl 56 (by decide) (hts (.fieldLink RX12 471 "PetrolBoardModel" "comes" "I") (me_s (me_l (me_l (List.mem_of_getElem? (i := 12) rfl))))) (fun _ h => h) (congrArg Value.int (by rw [eI127, z_up_n (by decide), eI122, z_up_n (by decide), eI113, z_up_n (by decide), eI108, z_up_n (by decide), eI36, z_up_n (by decide), eI29, z_up_n (by decide), eI23, z_up_n (by decide), eI18, z_up_n (by decide), eI13, z_up_n (by decide)])) dX12_pour_189 ?_
              refine lv_iconst (v := 1) hx hb dX12_pour_192 (by decide) ?_
              refine lv_iadd hx hb dX12_pour_193 ?_
              refine lv_topi (fun x132 ex132 => ?_)
              refine z_put (T := TX12) (N := 96) (ci := 12) (i := 0) (v := .int x132) (I1 := z_up I127 0 56 x132) (J1 := J) (P1 := PM ad) hx hb hts zj_X12_pour_X12 tyX12 tyX12_ok nmX12 hown hK hW hS rfl rfl 56 (by decide) (hts (.fieldLink RX12 471 "PetrolBoardModel" "comes" "I") (me_s (me_l (me_l (List.mem_of_getElem? (i := 12) rfl))))) (fun _ h => h) rfl rfl rfl (by first | rfl | exact congrArg _ z_up_s) (fun a b h ty => z_vI h ty) dX12_pour_194 (fun H locs hz1 hW hS => ?_)
              obtain ⟨I133, eI133⟩ : ∃ K : z_I, K = z_up I127 0 56 x132 := ⟨_, rfl⟩
              rw [← eI133] at hW
              have f134 := z_fr_k f128 (show z_wr L_X12_pour 0 56 = true by decide) eI133
              have a135 := z_rg_n a129 (by decide) eI133
              have a136 := z_rg_n a130 (by decide) eI133
              have a137 := z_rg_n a131 (by decide) eI133
              refine lv_aload_n hx hb dX12_pour_197 rfl (lv_at hl 0 rfl) ?_
              refine lv_dup hx hb dX12_pour_198 rfl ?_
              refine z_get (T := TX12) (N := 96) (ci := 12) (i := 0) (v := .int (I 0 55)) hx hb hts zj_X12_pour_X12 hown hK hW rfl rfl 55 (by decide) (hts (.fieldLink RX12 468 "PetrolBoardModel" "pours" "I") (me_s (me_l (me_l (List.mem_of_getElem? (i := 1) rfl))))) (fun _ h => h) (congrArg Value.int (by rw [eI133, z_up_k (by decide), eI127, z_up_n (by decide), eI122, z_up_n (by decide), eI113, z_up_n (by decide), eI108, z_up_n (by decide), eI36, z_up_n (by decide), eI29, z_up_n (by decide), eI23, z_up_n (by decide), eI18, z_up_n (by decide), eI13, z_up_n (by decide)])) dX12_pour_199 ?_
              refine lv_iconst (v := 1) hx hb dX12_pour_202 (by decide) ?_
              refine lv_iadd hx hb dX12_pour_203 ?_
              refine lv_topi (fun x138 ex138 => ?_)
              have tx138 : x138.toInt = (I 0 55).toInt + 1 := z_tadd ex138 rfl z_l1 (by omega) (by omega)
              refine z_put (T := TX12) (N := 96) (ci := 12) (i := 0) (v := .int x138) (I1 := z_up I133 0 55 x138) (J1 := J) (P1 := PM ad) hx hb hts zj_X12_pour_X12 tyX12 tyX12_ok nmX12 hown hK hW hS rfl rfl 55 (by decide) (hts (.fieldLink RX12 468 "PetrolBoardModel" "pours" "I") (me_s (me_l (me_l (List.mem_of_getElem? (i := 1) rfl))))) (fun _ h => h) rfl rfl rfl (by first | rfl | exact congrArg _ z_up_s) (fun a b h ty => z_vI h ty) dX12_pour_204 (fun H locs hz1 hW hS => ?_)
              obtain ⟨I139, eI139⟩ : ∃ K : z_I, K = z_up I133 0 55 x138 := ⟨_, rfl⟩
              rw [← eI139] at hW
              have f140 := z_fr_k f134 (show z_wr L_X12_pour 0 55 = true by decide) eI139
              have a141 := z_rg_n a135 (by decide) eI139
              have a142 := z_rg_n a136 (by decide) eI139
              have a143 := z_rg_n a137 (by decide) eI139
              refine lv_aload_n hx hb dX12_pour_207 rfl (lv_at hl 0 rfl) ?_
              refine z_get (T := TX12) (N := 96) (ci := 12) (i := 0) (v := .int x138) hx hb hts zj_X12_pour_X12 hown hK hW rfl rfl 55 (by decide) (hts (.fieldLink RX12 468 "PetrolBoardModel" "pours" "I") (me_s (me_l (me_l (List.mem_of_getElem? (i := 1) rfl))))) (fun _ h => h) (congrArg Value.int (by rw [eI139, z_up_s])) dX12_pour_208 ?_
              refine lv_iconst (v := 1) hx hb dX12_pour_211 (by decide) ?_
              refine lv_isub hx hb dX12_pour_212 ?_
              refine lv_topi (fun x144 ex144 => ?_)
              have tx144 : x144.toInt = x138.toInt - 1 := z_tsub ex144 rfl z_l1 (by omega) (by omega)
              exact z_iret hx hb hr hK hS (Nat.le_of_ble_eq_true rfl) (Nat.le_of_ble_eq_true rfl) hlocks dX12_pour_213 (shM, ad, I139, J, PM ad) hW ⟨I139, J, rfl, ⟨(by show 0 ≤ (I139 0 0).toInt ∧ (I139 0 0).toInt ≤ 719; rw [eI139, z_up_k (by decide), eI133, z_up_k (by decide), eI127, z_up_n (by decide), eI122, z_up_n (by decide), eI113, z_up_n (by decide), eI108, z_up_n (by decide), eI36, z_up_n (by decide), eI29, z_up_n (by decide), eI23, z_up_n (by decide), eI18, z_up_n (by decide), eI13, z_up_n (by decide)]; exact hma.1), (by show 0 ≤ (I139 0 1).toInt ∧ (I139 0 1).toInt ≤ 30; rw [eI139, z_up_k (by decide), eI133, z_up_k (by decide), eI127, z_up_n (by decide), eI122, z_up_n (by decide), eI113, z_up_n (by decide), eI108, z_up_n (by decide), eI36, z_up_n (by decide), eI29, z_up_n (by decide), eI23, z_up_n (by decide), eI18, z_up_n (by decide), eI13, z_up_n (by decide)]; exact hma.2.1), (by show 0 ≤ (I139 0 2).toInt ∧ (I139 0 2).toInt ≤ 200; rw [eI139, z_up_k (by decide), eI133, z_up_k (by decide), eI127, z_up_n (by decide), eI122, z_up_n (by decide), eI113, z_up_n (by decide), eI108, z_up_n (by decide), eI36, z_up_n (by decide), eI29, z_up_n (by decide), eI23, z_up_n (by decide), eI18, z_up_n (by decide), eI13, z_up_n (by decide)]; exact hma.2.2)⟩, ⟨(by show 0 ≤ (I139 0 54).toInt ∧ (I139 0 54).toInt ≤ 10; rw [eI139, z_up_k (by decide), eI133, z_up_k (by decide), eI127, z_up_n (by decide), eI122, z_up_n (by decide), eI113, z_up_n (by decide), eI108, z_up_n (by decide), eI36, z_up_n (by decide), eI29, z_up_n (by decide), eI23, z_up_n (by decide), eI18, z_up_n (by decide), eI13, z_up_n (by decide)]; exact hms.1), (by show 0 ≤ (I139 0 55).toInt ∧ (I139 0 55).toInt ≤ 300; rw [eI139, z_up_s]; omega)⟩, a141, ⟨(by show 0 ≤ (I139 0 13).toInt ∧ (I139 0 13).toInt ≤ 12; rw [eI139, z_up_k (by decide), eI133, z_up_k (by decide), eI127, z_up_n (by decide), eI122, z_up_n (by decide), eI113, z_up_n (by decide), eI108, z_up_n (by decide), eI36, z_up_n (by decide), eI29, z_up_n (by decide), eI23, z_up_n (by decide), eI18, z_up_n (by decide), eI13, z_up_n (by decide)]; exact hmb.1), (by show 0 ≤ (I139 0 14).toInt ∧ (I139 0 14).toInt ≤ 288; rw [eI139, z_up_k (by decide), eI133, z_up_k (by decide), eI127, z_up_n (by decide), eI122, z_up_n (by decide), eI113, z_up_n (by decide), eI108, z_up_n (by decide), eI36, z_up_n (by decide), eI29, z_up_n (by decide), eI23, z_up_n (by decide), eI18, z_up_n (by decide), eI13, z_up_n (by decide)]; exact hmb.2)⟩, a142, a143, f140⟩
            · have g145 := z_f_eq rfl z_l2 c119
              have b146 := Int32.toInt_lt x118
              refine lv_iconst (v := 1) hx hb dX12_pour_168 (by decide) ?_
              refine lv_goto (tgt := 173) hx hb dX12_pour_169 (by decide) ?_
              refine z_zast (i := 42) hx hb hK hW hS rfl (z_ix rfl (by omega) (by omega)) dX12_pour_173 (fun H locs hz1 hW hS => ?_)
              obtain ⟨I147, eI147⟩ : ∃ K : z_I, K = z_up I113 42 (I 0 55).toNatClampNeg (vp_nar .boolean 1) := ⟨_, rfl⟩
              rw [← eI147] at hW
              have f148 := z_fr_a f114 (show z_wa L_X12_pour 42 = true by decide) eI147
              have a149 := z_rg_n a115 (by decide) eI147
              have a150 := z_rg_n a116 (by decide) eI147
              have a151 := z_rg_n a117 (by decide) eI147
              refine lv_aload_n hx hb dX12_pour_174 rfl (lv_at hl 0 rfl) ?_
              refine z_get (T := TX12) (N := 96) (ci := 12) (i := 0) (v := .ref (ad 41)) hx hb hts zj_X12_pour_X12 hown hK hW rfl rfl 64 (by decide) (hts (.fieldLink RX12 139 "PetrolBoardModel" "pourCome" "[I") (me_s (me_l (me_l (List.mem_of_getElem? (i := 11) rfl))))) (fun _ h => h) rfl dX12_pour_175 ?_
              refine lv_aload_n hx hb dX12_pour_178 rfl (lv_at hl 0 rfl) ?_
              refine z_get (T := TX12) (N := 96) (ci := 12) (i := 0) (v := .int (I 0 55)) hx hb hts zj_X12_pour_X12 hown hK hW rfl rfl 55 (by decide) (hts (.fieldLink RX12 468 "PetrolBoardModel" "pours" "I") (me_s (me_l (me_l (List.mem_of_getElem? (i := 1) rfl))))) (fun _ h => h) (congrArg Value.int (by rw [eI147, z_up_n (by decide), eI113, z_up_n (by decide), eI108, z_up_n (by decide), eI36, z_up_n (by decide), eI29, z_up_n (by decide), eI23, z_up_n (by decide), eI18, z_up_n (by decide), eI13, z_up_n (by decide)])) dX12_pour_179 ?_
              refine lv_aload_n hx hb dX12_pour_182 rfl (lv_at hl 0 rfl) ?_
              refine z_get (T := TX12) (N := 96) (ci := 12) (i := 0) (v := .int (I 0 56)) hx hb hts zj_X12_pour_X12 hown hK hW rfl rfl 56 (by decide) (hts (.fieldLink RX12 471 "PetrolBoardModel" "comes" "I") (me_s (me_l (me_l (List.mem_of_getElem? (i := 12) rfl))))) (fun _ h => h) (congrArg Value.int (by rw [eI147, z_up_n (by decide), eI113, z_up_n (by decide), eI108, z_up_n (by decide), eI36, z_up_n (by decide), eI29, z_up_n (by decide), eI23, z_up_n (by decide), eI18, z_up_n (by decide), eI13, z_up_n (by decide)])) dX12_pour_183 ?_
              refine z_iast (i := 41) hx hb hK hW hS rfl (z_ix rfl (by omega) (by omega)) dX12_pour_186 (fun H locs hz1 hW hS => ?_)
              obtain ⟨I152, eI152⟩ : ∃ K : z_I, K = z_up I147 41 (I 0 55).toNatClampNeg (I 0 56) := ⟨_, rfl⟩
              rw [← eI152] at hW
              have f153 := z_fr_a f148 (show z_wa L_X12_pour 41 = true by decide) eI152
              have a154 := z_rg_n a149 (by decide) eI152
              have a155 := z_rg_n a150 (by decide) eI152
              have a156 := z_rg_n a151 (by decide) eI152
              refine lv_aload_n hx hb dX12_pour_187 rfl (lv_at hl 0 rfl) ?_
              refine lv_dup hx hb dX12_pour_188 rfl ?_
              refine z_get (T := TX12) (N := 96) (ci := 12) (i := 0) (v := .int (I 0 56)) hx hb hts zj_X12_pour_X12 hown hK hW rfl rfl 56 (by decide) (hts (.fieldLink RX12 471 "PetrolBoardModel" "comes" "I") (me_s (me_l (me_l (List.mem_of_getElem? (i := 12) rfl))))) (fun _ h => h) (congrArg Value.int (by rw [eI152, z_up_n (by decide), eI147, z_up_n (by decide), eI113, z_up_n (by decide), eI108, z_up_n (by decide), eI36, z_up_n (by decide), eI29, z_up_n (by decide), eI23, z_up_n (by decide), eI18, z_up_n (by decide), eI13, z_up_n (by decide)])) dX12_pour_189 ?_
              refine lv_iconst (v := 1) hx hb dX12_pour_192 (by decide) ?_
              refine lv_iadd hx hb dX12_pour_193 ?_
              refine lv_topi (fun x157 ex157 => ?_)
              refine z_put (T := TX12) (N := 96) (ci := 12) (i := 0) (v := .int x157) (I1 := z_up I152 0 56 x157) (J1 := J) (P1 := PM ad) hx hb hts zj_X12_pour_X12 tyX12 tyX12_ok nmX12 hown hK hW hS rfl rfl 56 (by decide) (hts (.fieldLink RX12 471 "PetrolBoardModel" "comes" "I") (me_s (me_l (me_l (List.mem_of_getElem? (i := 12) rfl))))) (fun _ h => h) rfl rfl rfl (by first | rfl | exact congrArg _ z_up_s) (fun a b h ty => z_vI h ty) dX12_pour_194 (fun H locs hz1 hW hS => ?_)
              obtain ⟨I158, eI158⟩ : ∃ K : z_I, K = z_up I152 0 56 x157 := ⟨_, rfl⟩
              rw [← eI158] at hW
              have f159 := z_fr_k f153 (show z_wr L_X12_pour 0 56 = true by decide) eI158
              have a160 := z_rg_n a154 (by decide) eI158
              have a161 := z_rg_n a155 (by decide) eI158
              have a162 := z_rg_n a156 (by decide) eI158
              refine lv_aload_n hx hb dX12_pour_197 rfl (lv_at hl 0 rfl) ?_
              refine lv_dup hx hb dX12_pour_198 rfl ?_
              refine z_get (T := TX12) (N := 96) (ci := 12) (i := 0) (v := .int (I 0 55)) hx hb hts zj_X12_pour_X12 hown hK hW rfl rfl 55 (by decide) (hts (.fieldLink RX12 468 "PetrolBoardModel" "pours" "I") (me_s (me_l (me_l (List.mem_of_getElem? (i := 1) rfl))))) (fun _ h => h) (congrArg Value.int (by rw [eI158, z_up_k (by decide), eI152, z_up_n (by decide), eI147, z_up_n (by decide), eI113, z_up_n (by decide), eI108, z_up_n (by decide), eI36, z_up_n (by decide), eI29, z_up_n (by decide), eI23, z_up_n (by decide), eI18, z_up_n (by decide), eI13, z_up_n (by decide)])) dX12_pour_199 ?_
              refine lv_iconst (v := 1) hx hb dX12_pour_202 (by decide) ?_
              refine lv_iadd hx hb dX12_pour_203 ?_
              refine lv_topi (fun x163 ex163 => ?_)
              have tx163 : x163.toInt = (I 0 55).toInt + 1 := z_tadd ex163 rfl z_l1 (by omega) (by omega)
              refine z_put (T := TX12) (N := 96) (ci := 12) (i := 0) (v := .int x163) (I1 := z_up I158 0 55 x163) (J1 := J) (P1 := PM ad) hx hb hts zj_X12_pour_X12 tyX12 tyX12_ok nmX12 hown hK hW hS rfl rfl 55 (by decide) (hts (.fieldLink RX12 468 "PetrolBoardModel" "pours" "I") (me_s (me_l (me_l (List.mem_of_getElem? (i := 1) rfl))))) (fun _ h => h) rfl rfl rfl (by first | rfl | exact congrArg _ z_up_s) (fun a b h ty => z_vI h ty) dX12_pour_204 (fun H locs hz1 hW hS => ?_)
              obtain ⟨I164, eI164⟩ : ∃ K : z_I, K = z_up I158 0 55 x163 := ⟨_, rfl⟩
              rw [← eI164] at hW
              have f165 := z_fr_k f159 (show z_wr L_X12_pour 0 55 = true by decide) eI164
              have a166 := z_rg_n a160 (by decide) eI164
              have a167 := z_rg_n a161 (by decide) eI164
              have a168 := z_rg_n a162 (by decide) eI164
              refine lv_aload_n hx hb dX12_pour_207 rfl (lv_at hl 0 rfl) ?_
              refine z_get (T := TX12) (N := 96) (ci := 12) (i := 0) (v := .int x163) hx hb hts zj_X12_pour_X12 hown hK hW rfl rfl 55 (by decide) (hts (.fieldLink RX12 468 "PetrolBoardModel" "pours" "I") (me_s (me_l (me_l (List.mem_of_getElem? (i := 1) rfl))))) (fun _ h => h) (congrArg Value.int (by rw [eI164, z_up_s])) dX12_pour_208 ?_
              refine lv_iconst (v := 1) hx hb dX12_pour_211 (by decide) ?_
              refine lv_isub hx hb dX12_pour_212 ?_
              refine lv_topi (fun x169 ex169 => ?_)
              have tx169 : x169.toInt = x163.toInt - 1 := z_tsub ex169 rfl z_l1 (by omega) (by omega)
              exact z_iret hx hb hr hK hS (Nat.le_of_ble_eq_true rfl) (Nat.le_of_ble_eq_true rfl) hlocks dX12_pour_213 (shM, ad, I164, J, PM ad) hW ⟨I164, J, rfl, ⟨(by show 0 ≤ (I164 0 0).toInt ∧ (I164 0 0).toInt ≤ 719; rw [eI164, z_up_k (by decide), eI158, z_up_k (by decide), eI152, z_up_n (by decide), eI147, z_up_n (by decide), eI113, z_up_n (by decide), eI108, z_up_n (by decide), eI36, z_up_n (by decide), eI29, z_up_n (by decide), eI23, z_up_n (by decide), eI18, z_up_n (by decide), eI13, z_up_n (by decide)]; exact hma.1), (by show 0 ≤ (I164 0 1).toInt ∧ (I164 0 1).toInt ≤ 30; rw [eI164, z_up_k (by decide), eI158, z_up_k (by decide), eI152, z_up_n (by decide), eI147, z_up_n (by decide), eI113, z_up_n (by decide), eI108, z_up_n (by decide), eI36, z_up_n (by decide), eI29, z_up_n (by decide), eI23, z_up_n (by decide), eI18, z_up_n (by decide), eI13, z_up_n (by decide)]; exact hma.2.1), (by show 0 ≤ (I164 0 2).toInt ∧ (I164 0 2).toInt ≤ 200; rw [eI164, z_up_k (by decide), eI158, z_up_k (by decide), eI152, z_up_n (by decide), eI147, z_up_n (by decide), eI113, z_up_n (by decide), eI108, z_up_n (by decide), eI36, z_up_n (by decide), eI29, z_up_n (by decide), eI23, z_up_n (by decide), eI18, z_up_n (by decide), eI13, z_up_n (by decide)]; exact hma.2.2)⟩, ⟨(by show 0 ≤ (I164 0 54).toInt ∧ (I164 0 54).toInt ≤ 10; rw [eI164, z_up_k (by decide), eI158, z_up_k (by decide), eI152, z_up_n (by decide), eI147, z_up_n (by decide), eI113, z_up_n (by decide), eI108, z_up_n (by decide), eI36, z_up_n (by decide), eI29, z_up_n (by decide), eI23, z_up_n (by decide), eI18, z_up_n (by decide), eI13, z_up_n (by decide)]; exact hms.1), (by show 0 ≤ (I164 0 55).toInt ∧ (I164 0 55).toInt ≤ 300; rw [eI164, z_up_s]; omega)⟩, a166, ⟨(by show 0 ≤ (I164 0 13).toInt ∧ (I164 0 13).toInt ≤ 12; rw [eI164, z_up_k (by decide), eI158, z_up_k (by decide), eI152, z_up_n (by decide), eI147, z_up_n (by decide), eI113, z_up_n (by decide), eI108, z_up_n (by decide), eI36, z_up_n (by decide), eI29, z_up_n (by decide), eI23, z_up_n (by decide), eI18, z_up_n (by decide), eI13, z_up_n (by decide)]; exact hmb.1), (by show 0 ≤ (I164 0 14).toInt ∧ (I164 0 14).toInt ≤ 288; rw [eI164, z_up_k (by decide), eI158, z_up_k (by decide), eI152, z_up_n (by decide), eI147, z_up_n (by decide), eI113, z_up_n (by decide), eI108, z_up_n (by decide), eI36, z_up_n (by decide), eI29, z_up_n (by decide), eI23, z_up_n (by decide), eI18, z_up_n (by decide), eI13, z_up_n (by decide)]; exact hmb.2)⟩, a167, a168, f165⟩
        · have g170 := z_f_eq rfl z_l300 c11
          refine lv_iconst (v := (-1)) hx hb dX12_pour_37 (by decide) ?_
          exact z_iret hx hb hr hK hS (Nat.le_of_ble_eq_true rfl) (Nat.le_of_ble_eq_true rfl) hlocks dX12_pour_38 (shM, ad, I, J, PM ad) hW ⟨I, J, rfl, ⟨(by show 0 ≤ (I 0 0).toInt ∧ (I 0 0).toInt ≤ 719; exact hma.1), (by show 0 ≤ (I 0 1).toInt ∧ (I 0 1).toInt ≤ 30; exact hma.2.1), (by show 0 ≤ (I 0 2).toInt ∧ (I 0 2).toInt ≤ 200; exact hma.2.2)⟩, ⟨(by show 0 ≤ (I 0 54).toInt ∧ (I 0 54).toInt ≤ 10; exact hms.1), (by show 0 ≤ (I 0 55).toInt ∧ (I 0 55).toInt ≤ 300; exact hms.2)⟩, hApc, ⟨(by show 0 ≤ (I 0 13).toInt ∧ (I 0 13).toInt ≤ 12; exact hmb.1), (by show 0 ≤ (I 0 14).toInt ∧ (I 0 14).toInt ≤ 288; exact hmb.2)⟩, hAtf, hAtm, z_fr_0⟩
      · refine lv_if_eq (tgt := 37) hx hb dX12_pour_24 (by decide) (fun c171 => ?_) (fun c171 => absurd (by decide) c171)
        refine lv_iconst (v := (-1)) hx hb dX12_pour_37 (by decide) ?_
        exact z_iret hx hb hr hK hS (Nat.le_of_ble_eq_true rfl) (Nat.le_of_ble_eq_true rfl) hlocks dX12_pour_38 (shM, ad, I, J, PM ad) hW ⟨I, J, rfl, ⟨(by show 0 ≤ (I 0 0).toInt ∧ (I 0 0).toInt ≤ 719; exact hma.1), (by show 0 ≤ (I 0 1).toInt ∧ (I 0 1).toInt ≤ 30; exact hma.2.1), (by show 0 ≤ (I 0 2).toInt ∧ (I 0 2).toInt ≤ 200; exact hma.2.2)⟩, ⟨(by show 0 ≤ (I 0 54).toInt ∧ (I 0 54).toInt ≤ 10; exact hms.1), (by show 0 ≤ (I 0 55).toInt ∧ (I 0 55).toInt ≤ 300; exact hms.2)⟩, hApc, ⟨(by show 0 ≤ (I 0 13).toInt ∧ (I 0 13).toInt ≤ 12; exact hmb.1), (by show 0 ≤ (I 0 14).toInt ∧ (I 0 14).toInt ≤ 288; exact hmb.2)⟩, hAtf, hAtm, z_fr_0⟩
    · refine lv_if_eq (tgt := 37) hx hb dX12_pour_13 (by decide) (fun c172 => ?_) (fun c172 => absurd (by decide) c172)
      refine lv_iconst (v := (-1)) hx hb dX12_pour_37 (by decide) ?_
      exact z_iret hx hb hr hK hS (Nat.le_of_ble_eq_true rfl) (Nat.le_of_ble_eq_true rfl) hlocks dX12_pour_38 (shM, ad, I, J, PM ad) hW ⟨I, J, rfl, ⟨(by show 0 ≤ (I 0 0).toInt ∧ (I 0 0).toInt ≤ 719; exact hma.1), (by show 0 ≤ (I 0 1).toInt ∧ (I 0 1).toInt ≤ 30; exact hma.2.1), (by show 0 ≤ (I 0 2).toInt ∧ (I 0 2).toInt ≤ 200; exact hma.2.2)⟩, ⟨(by show 0 ≤ (I 0 54).toInt ∧ (I 0 54).toInt ≤ 10; exact hms.1), (by show 0 ≤ (I 0 55).toInt ∧ (I 0 55).toInt ≤ 300; exact hms.2)⟩, hApc, ⟨(by show 0 ≤ (I 0 13).toInt ∧ (I 0 13).toInt ≤ 12; exact hmb.1), (by show 0 ≤ (I 0 14).toInt ∧ (I 0 14).toInt ≤ 288; exact hmb.2)⟩, hAtf, hAtm, z_fr_0⟩
  · refine lv_if_eq (tgt := 37) hx hb dX12_pour_5 (by decide) (fun c173 => ?_) (fun c173 => absurd (by decide) c173)
    refine lv_iconst (v := (-1)) hx hb dX12_pour_37 (by decide) ?_
    exact z_iret hx hb hr hK hS (Nat.le_of_ble_eq_true rfl) (Nat.le_of_ble_eq_true rfl) hlocks dX12_pour_38 (shM, ad, I, J, PM ad) hW ⟨I, J, rfl, ⟨(by show 0 ≤ (I 0 0).toInt ∧ (I 0 0).toInt ≤ 719; exact hma.1), (by show 0 ≤ (I 0 1).toInt ∧ (I 0 1).toInt ≤ 30; exact hma.2.1), (by show 0 ≤ (I 0 2).toInt ∧ (I 0 2).toInt ≤ 200; exact hma.2.2)⟩, ⟨(by show 0 ≤ (I 0 54).toInt ∧ (I 0 54).toInt ≤ 10; exact hms.1), (by show 0 ≤ (I 0 55).toInt ∧ (I 0 55).toInt ≤ 300; exact hms.2)⟩, hApc, ⟨(by show 0 ≤ (I 0 13).toInt ∧ (I 0 13).toInt ≤ 12; exact hmb.1), (by show 0 ≤ (I 0 14).toInt ∧ (I 0 14).toInt ≤ 288; exact hmb.2)⟩, hAtf, hAtm, z_fr_0⟩
theorem zj_X12_judges_X12 : ∀ w ∈ wsX120, w ∈ wsX12_judges := fun w h => (List.mem_cons_of_mem _ (List.mem_append_right _ h))
set_option maxHeartbeats 8000000 in
set_option maxRecDepth 100000 in
theorem sx_X12_judges (l : Launch) (G : z_G) (ad : Nat → Nat) (I : z_I) (J : z_J) (hms : z_ims I) (hApc : z_rg 36 0 99999 I) (hmb : z_imb I) (hAtf : z_rg 11 0 288 I) (hAtm : z_rg 12 0 24 I) (a1 : Int32) (q1 : 0 ≤ a1.toInt ∧ a1.toInt ≤ 299) : z_M l yX12_judges wsX12_judges { frames := 3, cells := 0, slots := 0, locals := 62 } [.ref (ad 0), .int a1] G (shM, ad, I, J, PM ad) (fun r u1 => u1 = (shM, ad, I, J, PM ad)) 0 0 := by
  intro sz
  refine z_headQ (cc := cX12_judges) (maxL := 5) (ret := (some .int)) (by decide) rfl (Nat.le_of_ble_eq_true rfl) ?_
  intro p e s m below meth c0 ls hIn hK hsz hW hl
  obtain ⟨hx, hb, hr, hml, hown, hts, hlocks, hname⟩ := hIn
  subst hsz
  have hown : s.vm.findClass RX12 = some m.cls := hown
  have hA : ∀ q : Nat, s.heap.size ≤ q → z_A (shM, ad, I, J, PM ad) s.heap.size q := fun q h => Or.inr h
  generalize hAe : z_A (shM, ad, I, J, PM ad) s.heap.size = A at *
  have hS : va_S A s.heap s.heap [] := va_S.rf
  have hl : lv_has ls 5 [(0, .ref (ad 0)), (1, .int a1)] := hl
  refine lv_aload_n hx hb dX12_judges_0 rfl (lv_at hl 0 rfl) ?_
  refine z_get (T := TX12) (N := 96) (ci := 12) (i := 0) (v := .ref (ad 36)) hx hb hts zj_X12_judges_X12 hown hK hW rfl rfl 59 (by decide) (hts (.fieldLink RX12 124 "PetrolBoardModel" "pourCoupon" "[I") (me_s (me_l (me_l (List.mem_of_getElem? (i := 0) rfl))))) (fun _ h => h) rfl dX12_judges_1 ?_
  refine lv_iload_n hx hb dX12_judges_4 rfl (lv_at hl 1 rfl) ?_
  refine z_iald (i := 36) hx hb hK hW rfl (z_ix rfl (by omega) (by omega)) dX12_judges_5 ?_
  refine lv_topi (fun x1 ex1 => ?_)
  have h2 : 0 ≤ x1.toInt ∧ x1.toInt ≤ 99999 := by rw [ex1]; exact hApc _
  refine lv_istore_n (lv' := [(2, .int x1), (0, .ref (ad 0)), (1, .int a1)]) hx hb dX12_judges_6 rfl hl (by decide) rfl (fun ls hl => ?_)
  refine lv_aload_n hx hb dX12_judges_7 rfl (lv_at hl 1 rfl) ?_
  refine lv_iload_n hx hb dX12_judges_8 rfl (lv_at hl 0 rfl) ?_
  refine z_ci hW hS hA (va_runV (As := [.int x1]) (rest := []) ⟨hx, hb, hml, hown, hts⟩ (sx_X12_isCoupon l G ad I J  x1 _) (cwV 1 hts gX12_judges_X12_isCoupon rfl rfl rfl hy_X12_isCoupon ⟨Nat.le_of_ble_eq_true rfl, Nat.le_of_ble_eq_true rfl⟩) (z_preV (i := 0) hK hW rfl rfl) rfl rfl hl.1 rfl (lv_room (Nat.le_of_ble_eq_true rfl)) dX12_judges_9 ⟨Nat.le_of_ble_eq_true rfl, Nat.le_of_ble_eq_true rfl⟩) (fun r u1 H locs hp hW hS => ?_)
  obtain ⟨e9, hp⟩ := hp
  rw [e9] at hW
  rcases hp with ⟨rfl, h3, h4⟩ | rfl
  · refine lv_if_ne (tgt := 17) hx hb dX12_judges_12 (by decide) (fun c5 => ?_) (fun c5 => absurd c5 (by decide))
    refine lv_aload_n hx hb dX12_judges_17 rfl (lv_at hl 1 rfl) ?_
    refine z_get (T := TX12) (N := 96) (ci := 12) (i := 0) (v := .ref (ad 33)) hx hb hts zj_X12_judges_X12 hown hK hW rfl rfl 53 (by decide) (hts (.fieldLink RX12 114 "PetrolBoardModel" "wasIn" "[Z") (me_s (me_l (me_l (List.mem_of_getElem? (i := 1) rfl))))) (fun _ h => h) rfl dX12_judges_18 ?_
    refine lv_iload_n hx hb dX12_judges_21 rfl (lv_at hl 0 rfl) ?_
    refine z_zald (i := 33) hx hb hK hW rfl (z_ix rfl (by omega) (by omega)) dX12_judges_22 ?_
    refine lv_topi (fun x6 ex6 => ?_)
    refine lv_if_eq (tgt := 28) hx hb dX12_judges_23 (by decide) (fun c7 => ?_) (fun c7 => ?_)
    · have g8 := z_f_eq rfl z_l0 c7
      have b9 := Int32.toInt_lt x6
      refine lv_iload_n hx hb dX12_judges_28 rfl (lv_at hl 0 rfl) ?_
      refine lv_bipush (v := 100) hx hb dX12_judges_29 (by decide) ?_
      refine lv_idiv hx hb dX12_judges_31 (by decide) ?_
      refine lv_topi (fun x10 ex10 => ?_)
      have tx10 := z_tdiv ex10 rfl z_l100 (by decide)
      refine lv_bipush (v := 24) hx hb dX12_judges_32 (by decide) ?_
      refine lv_irem hx hb dX12_judges_34 (by decide) ?_
      refine lv_topi (fun x11 ex11 => ?_)
      have tx11 := z_trem ex11 rfl z_l24 (by decide)
      refine lv_istore_n (lv' := [(3, .int x11), (2, .int x1), (0, .ref (ad 0)), (1, .int a1)]) hx hb dX12_judges_35 rfl hl (by decide) rfl (fun ls hl => ?_)
      refine lv_aload_n hx hb dX12_judges_36 rfl (lv_at hl 2 rfl) ?_
      refine z_get (T := TX12) (N := 96) (ci := 12) (i := 0) (v := .ref (ad 37)) hx hb hts zj_X12_judges_X12 hown hK hW rfl rfl 60 (by decide) (hts (.fieldLink RX12 127 "PetrolBoardModel" "pourDay" "[I") (me_s (me_l (me_l (List.mem_of_getElem? (i := 2) rfl))))) (fun _ h => h) rfl dX12_judges_37 ?_
      refine lv_iload_n hx hb dX12_judges_40 rfl (lv_at hl 3 rfl) ?_
      refine z_iald (i := 37) hx hb hK hW rfl (z_ix rfl (by omega) (by omega)) dX12_judges_41 ?_
      refine lv_topi (fun x12 ex12 => ?_)
      refine lv_bipush (v := 30) hx hb dX12_judges_42 (by decide) ?_
      refine lv_idiv hx hb dX12_judges_44 (by decide) ?_
      refine lv_topi (fun x13 ex13 => ?_)
      have tx13 := z_tdiv ex13 rfl z_l30 (by decide)
      refine lv_istore (lv' := [(4, .int x13), (3, .int x11), (2, .int x1), (0, .ref (ad 0)), (1, .int a1)]) hx hb dX12_judges_45 hl (by decide) rfl (fun ls hl => ?_)
      refine lv_iload hx hb dX12_judges_47 (lv_at hl 0 rfl) ?_
      refine lv_iload_n hx hb dX12_judges_49 rfl (lv_at hl 1 rfl) ?_
      refine lv_icmp_lt (tgt := 72) hx hb dX12_judges_50 (by decide) (fun c14 => ?_) (fun c14 => ?_)
      · have g15 := z_f_lt rfl rfl c14
        have b16 := Int32.toInt_lt x13
        refine lv_iconst (v := 3) hx hb dX12_judges_72 (by decide) ?_
        exact z_iret hx hb hr hK hS (Nat.le_of_ble_eq_true rfl) (Nat.le_of_ble_eq_true rfl) hlocks dX12_judges_73 (shM, ad, I, J, PM ad) hW rfl
      · have g17 := z_f_nlt rfl rfl c14
        have b18 := Int32.toInt_lt x13
        refine lv_iload hx hb dX12_judges_53 (lv_at hl 0 rfl) ?_
        refine lv_iload_n hx hb dX12_judges_55 rfl (lv_at hl 1 rfl) ?_
        refine lv_aload_n hx hb dX12_judges_56 rfl (lv_at hl 3 rfl) ?_
        refine lv_iload_n hx hb dX12_judges_57 rfl (lv_at hl 1 rfl) ?_
        refine lv_aload_n hx hb dX12_judges_58 rfl (lv_at hl 3 rfl) ?_
        refine z_get (T := TX12) (N := 96) (ci := 12) (i := 0) (v := .ref (ad 37)) hx hb hts zj_X12_judges_X12 hown hK hW rfl rfl 60 (by decide) (hts (.fieldLink RX12 127 "PetrolBoardModel" "pourDay" "[I") (me_s (me_l (me_l (List.mem_of_getElem? (i := 2) rfl))))) (fun _ h => h) rfl dX12_judges_59 ?_
        refine lv_iload_n hx hb dX12_judges_62 rfl (lv_at hl 4 rfl) ?_
        refine z_iald (i := 37) hx hb hK hW rfl (z_ix rfl (by omega) (by omega)) dX12_judges_63 ?_
        refine z_topi (v := x12) ex12.symm ?_
        refine lv_iconst (v := 4) hx hb dX12_judges_64 (by decide) ?_
        refine z_ci hW hS hA (va_runV (As := [.int x11, .int x12, .int 4]) (rest := [.int x11, .int x13]) ⟨hx, hb, hml, hown, hts⟩ (sx_X12_number l G ad I J ⟨(by show 0 ≤ (I 0 13).toInt ∧ (I 0 13).toInt ≤ 12; exact hmb.1), (by show 0 ≤ (I 0 14).toInt ∧ (I 0 14).toInt ≤ 288; exact hmb.2)⟩ hAtf hAtm x11 x12 4 _) (cwV 3 hts gX12_judges_X12_number rfl rfl rfl hy_X12_number ⟨Nat.le_of_ble_eq_true rfl, Nat.le_of_ble_eq_true rfl⟩) (z_preV (i := 0) hK hW rfl rfl) rfl rfl hl.1 rfl (lv_room (Nat.le_of_ble_eq_true rfl)) dX12_judges_65 ⟨Nat.le_of_ble_eq_true rfl, Nat.le_of_ble_eq_true rfl⟩) (fun r u1 H locs hp hW hS => ?_)
        rw [hp] at hW
        refine lv_topi (fun x19 ex19 => ?_)
        refine lv_iadd hx hb dX12_judges_68 ?_
        refine lv_topi (fun x20 ex20 => ?_)
        refine lv_icmp_le (tgt := 74) hx hb dX12_judges_69 (by decide) (fun c21 => ?_) (fun c21 => ?_)
        · have g22 := z_f_le rfl rfl c21
          have b23 := Int32.toInt_lt x20
          refine lv_aload_n hx hb dX12_judges_74 rfl (lv_at hl 3 rfl) ?_
          refine z_get (T := TX12) (N := 96) (ci := 12) (i := 0) (v := .ref (ad 39)) hx hb hts zj_X12_judges_X12 hown hK hW rfl rfl 62 (by decide) (hts (.fieldLink RX12 133 "PetrolBoardModel" "pourOwner" "[I") (me_s (me_l (me_l (List.mem_of_getElem? (i := 3) rfl))))) (fun _ h => h) rfl dX12_judges_75 ?_
          refine lv_iload_n hx hb dX12_judges_78 rfl (lv_at hl 4 rfl) ?_
          refine z_iald (i := 39) hx hb hK hW rfl (z_ix rfl (by omega) (by omega)) dX12_judges_79 ?_
          refine lv_topi (fun x24 ex24 => ?_)
          refine lv_aload_n hx hb dX12_judges_80 rfl (lv_at hl 3 rfl) ?_
          refine z_get (T := TX12) (N := 96) (ci := 12) (i := 0) (v := .ref (ad 35)) hx hb hts zj_X12_judges_X12 hown hK hW rfl rfl 58 (by decide) (hts (.fieldLink RX12 121 "PetrolBoardModel" "pourWho" "[I") (me_s (me_l (me_l (List.mem_of_getElem? (i := 4) rfl))))) (fun _ h => h) rfl dX12_judges_81 ?_
          refine lv_iload_n hx hb dX12_judges_84 rfl (lv_at hl 4 rfl) ?_
          refine z_iald (i := 35) hx hb hK hW rfl (z_ix rfl (by omega) (by omega)) dX12_judges_85 ?_
          refine lv_topi (fun x25 ex25 => ?_)
          refine lv_icmp_ne (tgt := 93) hx hb dX12_judges_86 (by decide) (fun c26 => ?_) (fun c26 => ?_)
          · have g27 := z_f_ne rfl rfl c26
            have b28 := Int32.toInt_lt x24
            have b29 := Int32.toInt_lt x25
            refine lv_iconst (v := 4) hx hb dX12_judges_93 (by decide) ?_
            exact z_iret hx hb hr hK hS (Nat.le_of_ble_eq_true rfl) (Nat.le_of_ble_eq_true rfl) hlocks dX12_judges_94 (shM, ad, I, J, PM ad) hW rfl
          · have g30 := z_f_eq rfl rfl c26
            have b31 := Int32.toInt_lt x24
            have b32 := Int32.toInt_lt x25
            refine lv_iconst (v := 0) hx hb dX12_judges_89 (by decide) ?_
            refine lv_goto (tgt := 94) hx hb dX12_judges_90 (by decide) ?_
            exact z_iret hx hb hr hK hS (Nat.le_of_ble_eq_true rfl) (Nat.le_of_ble_eq_true rfl) hlocks dX12_judges_94 (shM, ad, I, J, PM ad) hW rfl
        · have g33 := z_f_nle rfl rfl c21
          have b34 := Int32.toInt_lt x20
          refine lv_iconst (v := 3) hx hb dX12_judges_72 (by decide) ?_
          exact z_iret hx hb hr hK hS (Nat.le_of_ble_eq_true rfl) (Nat.le_of_ble_eq_true rfl) hlocks dX12_judges_73 (shM, ad, I, J, PM ad) hW rfl
    · have g35 := z_f_ne rfl z_l0 c7
      have b36 := Int32.toInt_lt x6
      refine lv_iconst (v := 2) hx hb dX12_judges_26 (by decide) ?_
      exact z_iret hx hb hr hK hS (Nat.le_of_ble_eq_true rfl) (Nat.le_of_ble_eq_true rfl) hlocks dX12_judges_27 (shM, ad, I, J, PM ad) hW rfl
  · refine lv_if_ne (tgt := 17) hx hb dX12_judges_12 (by decide) (fun c37 => absurd (by decide) c37) (fun c37 => ?_)
    refine lv_iconst (v := 1) hx hb dX12_judges_15 (by decide) ?_
    exact z_iret hx hb hr hK hS (Nat.le_of_ble_eq_true rfl) (Nat.le_of_ble_eq_true rfl) hlocks dX12_judges_16 (shM, ad, I, J, PM ad) hW rfl
noncomputable def L_X12_handIn : z_L := [(40, 999), (33, 999)]
theorem zj_X12_handIn_X12 : ∀ w ∈ wsX120, w ∈ wsX12_handIn := fun w h => (List.mem_cons_of_mem _ (List.mem_append_right _ h))
set_option maxHeartbeats 8000000 in
set_option maxRecDepth 100000 in
theorem sx_X12_handIn (l : Launch) (G : z_G) (ad : Nat → Nat) (I : z_I) (J : z_J) (hms : z_ims I) (hApc : z_rg 36 0 99999 I) (hmb : z_imb I) (hAtf : z_rg 11 0 288 I) (hAtm : z_rg 12 0 24 I) (a1 : Int32) : z_M l yX12_handIn wsX12_handIn { frames := 4, cells := 0, slots := 0, locals := 86 } [.ref (ad 0), .int a1] G (shM, ad, I, J, PM ad) (fun r u1 => ∃ (I1 : z_I) (J1 : z_J), u1 = (shM, ad, I1, J1, PM ad) ∧ z_ims I1 ∧ z_rg 36 0 99999 I1 ∧ z_imb I1 ∧ z_rg 11 0 288 I1 ∧ z_rg 12 0 24 I1 ∧ z_fr L_X12_handIn I1 I) 0 0 := by
  intro sz
  refine z_headQ (cc := cX12_handIn) (maxL := 4) (ret := (some .int)) (by decide) rfl (Nat.le_of_ble_eq_true rfl) ?_
  intro p e s m below meth c0 ls hIn hK hsz hW hl
  obtain ⟨hx, hb, hr, hml, hown, hts, hlocks, hname⟩ := hIn
  subst hsz
  have hown : s.vm.findClass RX12 = some m.cls := hown
  have hA : ∀ q : Nat, s.heap.size ≤ q → z_A (shM, ad, I, J, PM ad) s.heap.size q := fun q h => Or.inr h
  generalize hAe : z_A (shM, ad, I, J, PM ad) s.heap.size = A at *
  have hS : va_S A s.heap s.heap [] := va_S.rf
  have hl : lv_has ls 4 [(0, .ref (ad 0)), (1, .int a1)] := hl
  refine lv_aload_n hx hb dX12_handIn_0 rfl (lv_at hl 0 rfl) ?_
  refine lv_iload_n hx hb dX12_handIn_1 rfl (lv_at hl 1 rfl) ?_
  refine z_ci hW hS hA (va_runV (As := [.int a1]) (rest := []) ⟨hx, hb, hml, hown, hts⟩ (sx_X12_isStation l G ad I J ⟨(by show 0 ≤ (I 0 54).toInt ∧ (I 0 54).toInt ≤ 10; exact hms.1), (by show 0 ≤ (I 0 55).toInt ∧ (I 0 55).toInt ≤ 300; exact hms.2)⟩ a1 _) (cwV 1 hts gX12_handIn_X12_isStation rfl rfl rfl hy_X12_isStation ⟨Nat.le_of_ble_eq_true rfl, Nat.le_of_ble_eq_true rfl⟩) (z_preV (i := 0) hK hW rfl rfl) rfl rfl hl.1 rfl (lv_room (Nat.le_of_ble_eq_true rfl)) dX12_handIn_2 ⟨Nat.le_of_ble_eq_true rfl, Nat.le_of_ble_eq_true rfl⟩) (fun r u1 H locs hp hW hS => ?_)
  obtain ⟨e9, hp⟩ := hp
  rw [e9] at hW
  rcases hp with ⟨rfl, h1, h2⟩ | rfl
  · refine lv_if_ne (tgt := 10) hx hb dX12_handIn_5 (by decide) (fun c3 => ?_) (fun c3 => absurd c3 (by decide))
    refine lv_iconst (v := 0) hx hb dX12_handIn_10 (by decide) ?_
    refine lv_istore_n (lv' := [(2, .int 0), (0, .ref (ad 0)), (1, .int a1)]) hx hb dX12_handIn_11 rfl hl (by decide) rfl (fun ls hl => ?_)
    refine lv_iconst (v := 0) hx hb dX12_handIn_12 (by decide) ?_
    refine lv_istore_n (lv' := [(3, .int 0), (2, .int 0), (0, .ref (ad 0)), (1, .int a1)]) hx hb dX12_handIn_13 rfl hl (by decide) rfl (fun ls hl => ?_)
    have lp4 : ∀ (f : Nat) (y5 : Int32) (y6 : Int32) (I7 : z_I) (J8 : z_J) (H : Heap) (locs : List Loc) (ls : Array Slot), (2147483647 < y5.toInt + (f : Int)) → (0 ≤ y5.toInt) → (z_ims I7) → (z_rg 36 0 99999 I7) → (z_imb I7) → (z_rg 11 0 288 I7) → (z_rg 12 0 24 I7) → (z_fr L_X12_handIn I7 I) → z_W G A (shM, ad, I7, J8, PM ad) H → va_S A s.heap H locs → lv_has ls 4 [(3, .int y5), (2, .int y6), (0, .ref (ad 0)), (1, .int a1)] → W p l e (headSpec wsX12_handIn { frames := 4, cells := 0, slots := 0, locals := 86 }).room s m ([.ref (ad 0), .int a1] : List Value).toArray below meth c0 H locs 0 0 (MQ below (va_Qi (fun (r : Int32) (u1 : z_U) => ∃ (I1 : z_I) (J1 : z_J), u1 = (shM, ad, I1, J1, PM ad) ∧ z_ims I1 ∧ z_rg 36 0 99999 I1 ∧ z_imb I1 ∧ z_rg 11 0 288 I1 ∧ z_rg 12 0 24 I1 ∧ z_fr L_X12_handIn I1 I) (z_B G A) A) ([.ref (ad 0), .int a1] : List Value).toArray s 0 0 A) (F0 m 14 ls []) := by
      intro f
      induction f with
      | zero => intro y5 y6 I7 J8 H locs ls lp4m lp4l3 lp4ms lp4Apc lp4mb lp4Atf lp4Atm lp4fr hW hS hl; exact absurd lp4m (by have := Int32.toInt_lt y5; have := Int32.le_toInt y5; omega)
      | succ f lp4ih =>
        intro y5 y6 I7 J8 H locs ls lp4m lp4l3 lp4ms lp4Apc lp4mb lp4Atf lp4Atm lp4fr hW hS hl
        refine lv_iload_n hx hb dX12_handIn_14 rfl (lv_at hl 0 rfl) ?_
        refine lv_aload_n hx hb dX12_handIn_15 rfl (lv_at hl 2 rfl) ?_
        have r9 : 0 ≤ (I7 0 55).toInt ∧ (I7 0 55).toInt ≤ 300 := lp4ms.2
        refine z_get (T := TX12) (N := 96) (ci := 12) (i := 0) (v := .int (I7 0 55)) hx hb hts zj_X12_handIn_X12 hown hK hW rfl rfl 55 (by decide) (hts (.fieldLink RX12 468 "PetrolBoardModel" "pours" "I") (me_s (me_l (me_l (List.mem_of_getElem? (i := 0) rfl))))) (fun _ h => h) rfl dX12_handIn_16 ?_
        refine lv_icmp_ge (tgt := 85) hx hb dX12_handIn_19 (by decide) (fun c10 => ?_) (fun c10 => ?_)
        · have g11 := z_f_ge rfl rfl c10
          have b12 := Int32.toInt_lt y5
          refine lv_iload_n hx hb dX12_handIn_85 rfl (lv_at hl 1 rfl) ?_
          exact z_iret hx hb hr hK hS (Nat.le_of_ble_eq_true rfl) (Nat.le_of_ble_eq_true rfl) hlocks dX12_handIn_86 (shM, ad, I7, J8, PM ad) hW ⟨I7, J8, rfl, ⟨(by show 0 ≤ (I7 0 54).toInt ∧ (I7 0 54).toInt ≤ 10; exact lp4ms.1), (by show 0 ≤ (I7 0 55).toInt ∧ (I7 0 55).toInt ≤ 300; exact lp4ms.2)⟩, lp4Apc, ⟨(by show 0 ≤ (I7 0 13).toInt ∧ (I7 0 13).toInt ≤ 12; exact lp4mb.1), (by show 0 ≤ (I7 0 14).toInt ∧ (I7 0 14).toInt ≤ 288; exact lp4mb.2)⟩, lp4Atf, lp4Atm, lp4fr⟩
        · have g13 := z_f_nge rfl rfl c10
          have b14 := Int32.toInt_lt y5
          refine lv_aload_n hx hb dX12_handIn_22 rfl (lv_at hl 2 rfl) ?_
          refine z_get (T := TX12) (N := 96) (ci := 12) (i := 0) (v := .ref (ad 34)) hx hb hts zj_X12_handIn_X12 hown hK hW rfl rfl 57 (by decide) (hts (.fieldLink RX12 118 "PetrolBoardModel" "pourAt" "[I") (me_s (me_l (me_l (List.mem_of_getElem? (i := 1) rfl))))) (fun _ h => h) rfl dX12_handIn_23 ?_
          refine lv_iload_n hx hb dX12_handIn_26 rfl (lv_at hl 0 rfl) ?_
          refine z_iald (i := 34) hx hb hK hW rfl (z_ix rfl (by omega) (by omega)) dX12_handIn_27 ?_
          refine lv_topi (fun x15 ex15 => ?_)
          refine lv_iload_n hx hb dX12_handIn_28 rfl (lv_at hl 3 rfl) ?_
          refine lv_icmp_ne (tgt := 79) hx hb dX12_handIn_29 (by decide) (fun c16 => ?_) (fun c16 => ?_)
          · have g17 := z_f_ne rfl rfl c16
            have b18 := Int32.toInt_lt x15
            obtain ⟨x19, ex19⟩ : ∃ y : Int32, y = y5 + 1 := ⟨_, rfl⟩
            have tx19 : x19.toInt = y5.toInt + 1 := z_tadd ex19 rfl z_l1 (by omega) (by omega)
            refine lv_iinc (v := x19) (lv' := [(3, .int x19), (2, .int y6), (0, .ref (ad 0)), (1, .int a1)]) hx hb dX12_handIn_79 hl (k := 0) rfl (by rw [ex19]; rfl) (by decide) rfl (fun ls hl => ?_)
            refine lv_goto (tgt := 14) hx hb dX12_handIn_82 (by decide) ?_
            exact lp4ih x19 y6 I7 J8 _ _ _ (by omega) (by omega) ⟨(by show 0 ≤ (I7 0 54).toInt ∧ (I7 0 54).toInt ≤ 10; exact lp4ms.1), (by show 0 ≤ (I7 0 55).toInt ∧ (I7 0 55).toInt ≤ 300; exact lp4ms.2)⟩ lp4Apc ⟨(by show 0 ≤ (I7 0 13).toInt ∧ (I7 0 13).toInt ≤ 12; exact lp4mb.1), (by show 0 ≤ (I7 0 14).toInt ∧ (I7 0 14).toInt ≤ 288; exact lp4mb.2)⟩ lp4Atf lp4Atm lp4fr hW hS (lv_sub hl [0, 1, 2, 3] rfl)
          · have g20 := z_f_eq rfl rfl c16
            have b21 := Int32.toInt_lt x15
            refine lv_aload_n hx hb dX12_handIn_32 rfl (lv_at hl 2 rfl) ?_
            refine z_get (T := TX12) (N := 96) (ci := 12) (i := 0) (v := .ref (ad 40)) hx hb hts zj_X12_handIn_X12 hown hK hW rfl rfl 63 (by decide) (hts (.fieldLink RX12 136 "PetrolBoardModel" "pourJudged" "[I") (me_s (me_l (me_l (List.mem_of_getElem? (i := 2) rfl))))) (fun _ h => h) rfl dX12_handIn_33 ?_
            refine lv_iload_n hx hb dX12_handIn_36 rfl (lv_at hl 0 rfl) ?_
            refine z_iald (i := 40) hx hb hK hW rfl (z_ix rfl (by omega) (by omega)) dX12_handIn_37 ?_
            refine lv_topi (fun x22 ex22 => ?_)
            refine lv_if_lt (tgt := 44) hx hb dX12_handIn_38 (by decide) (fun c23 => ?_) (fun c23 => ?_)
            · have g24 := z_f_lt rfl z_l0 c23
              have b25 := Int32.toInt_lt x22
              refine lv_aload_n hx hb dX12_handIn_44 rfl (lv_at hl 2 rfl) ?_
              refine z_get (T := TX12) (N := 96) (ci := 12) (i := 0) (v := .ref (ad 40)) hx hb hts zj_X12_handIn_X12 hown hK hW rfl rfl 63 (by decide) (hts (.fieldLink RX12 136 "PetrolBoardModel" "pourJudged" "[I") (me_s (me_l (me_l (List.mem_of_getElem? (i := 2) rfl))))) (fun _ h => h) rfl dX12_handIn_45 ?_
              refine lv_iload_n hx hb dX12_handIn_48 rfl (lv_at hl 0 rfl) ?_
              refine lv_aload_n hx hb dX12_handIn_49 rfl (lv_at hl 2 rfl) ?_
              refine lv_iload_n hx hb dX12_handIn_50 rfl (lv_at hl 0 rfl) ?_
              refine z_ci hW hS hA (va_runV (As := [.int y5]) (rest := [.int y5, .ref (ad 40)]) ⟨hx, hb, hml, hown, hts⟩ (sx_X12_judges l G ad I7 J8 ⟨(by show 0 ≤ (I7 0 54).toInt ∧ (I7 0 54).toInt ≤ 10; exact lp4ms.1), (by show 0 ≤ (I7 0 55).toInt ∧ (I7 0 55).toInt ≤ 300; exact lp4ms.2)⟩ lp4Apc ⟨(by show 0 ≤ (I7 0 13).toInt ∧ (I7 0 13).toInt ≤ 12; exact lp4mb.1), (by show 0 ≤ (I7 0 14).toInt ∧ (I7 0 14).toInt ≤ 288; exact lp4mb.2)⟩ lp4Atf lp4Atm y5 (by omega) _) (cwV 1 hts gX12_handIn_X12_judges rfl rfl rfl hy_X12_judges ⟨Nat.le_of_ble_eq_true rfl, Nat.le_of_ble_eq_true rfl⟩) (z_preV (i := 0) hK hW rfl rfl) rfl rfl hl.1 rfl (lv_room (Nat.le_of_ble_eq_true rfl)) dX12_handIn_51 ⟨Nat.le_of_ble_eq_true rfl, Nat.le_of_ble_eq_true rfl⟩) (fun r u1 H locs hp hW hS => ?_)
              rw [hp] at hW
              refine lv_topi (fun x26 ex26 => ?_)
              refine z_iast (i := 40) hx hb hK hW hS rfl (z_ix rfl (by omega) (by omega)) dX12_handIn_54 (fun H locs hz1 hW hS => ?_)
              obtain ⟨I27, eI27⟩ : ∃ K : z_I, K = z_up I7 40 y5.toNatClampNeg x26 := ⟨_, rfl⟩
              rw [← eI27] at hW
              have f28 := z_fr_a lp4fr (show z_wa L_X12_handIn 40 = true by decide) eI27
              have a29 := z_rg_n lp4Apc (by decide) eI27
              have a30 := z_rg_n lp4Atf (by decide) eI27
              have a31 := z_rg_n lp4Atm (by decide) eI27
              refine lv_aload_n hx hb dX12_handIn_55 rfl (lv_at hl 2 rfl) ?_
              refine z_get (T := TX12) (N := 96) (ci := 12) (i := 0) (v := .ref (ad 33)) hx hb hts zj_X12_handIn_X12 hown hK hW rfl rfl 53 (by decide) (hts (.fieldLink RX12 114 "PetrolBoardModel" "wasIn" "[Z") (me_s (me_l (me_l (List.mem_of_getElem? (i := 3) rfl))))) (fun _ h => h) rfl dX12_handIn_56 ?_
              refine lv_aload_n hx hb dX12_handIn_59 rfl (lv_at hl 2 rfl) ?_
              refine z_get (T := TX12) (N := 96) (ci := 12) (i := 0) (v := .ref (ad 36)) hx hb hts zj_X12_handIn_X12 hown hK hW rfl rfl 59 (by decide) (hts (.fieldLink RX12 124 "PetrolBoardModel" "pourCoupon" "[I") (me_s (me_l (me_l (List.mem_of_getElem? (i := 4) rfl))))) (fun _ h => h) rfl dX12_handIn_60 ?_
              refine lv_iload_n hx hb dX12_handIn_63 rfl (lv_at hl 0 rfl) ?_
              refine z_iald (i := 36) hx hb hK hW rfl (z_ix rfl (by omega) (by omega)) dX12_handIn_64 ?_
              refine lv_topi (fun x32 ex32 => ?_)
              have h33 : 0 ≤ x32.toInt ∧ x32.toInt ≤ 99999 := by rw [ex32]; exact a29 _
              refine lv_iconst (v := 1) hx hb dX12_handIn_65 (by decide) ?_
              refine z_zast (i := 33) hx hb hK hW hS rfl (z_ix rfl (by omega) (by omega)) dX12_handIn_66 (fun H locs hz1 hW hS => ?_)
              obtain ⟨I34, eI34⟩ : ∃ K : z_I, K = z_up I27 33 x32.toNatClampNeg (vp_nar .boolean 1) := ⟨_, rfl⟩
              rw [← eI34] at hW
              have f35 := z_fr_a f28 (show z_wa L_X12_handIn 33 = true by decide) eI34
              have a36 := z_rg_n a29 (by decide) eI34
              have a37 := z_rg_n a30 (by decide) eI34
              have a38 := z_rg_n a31 (by decide) eI34
              refine lv_aload_n hx hb dX12_handIn_67 rfl (lv_at hl 2 rfl) ?_
              refine z_get (T := TX12) (N := 96) (ci := 12) (i := 0) (v := .ref (ad 40)) hx hb hts zj_X12_handIn_X12 hown hK hW rfl rfl 63 (by decide) (hts (.fieldLink RX12 136 "PetrolBoardModel" "pourJudged" "[I") (me_s (me_l (me_l (List.mem_of_getElem? (i := 2) rfl))))) (fun _ h => h) rfl dX12_handIn_68 ?_
              refine lv_iload_n hx hb dX12_handIn_71 rfl (lv_at hl 0 rfl) ?_
              refine z_iald (i := 40) hx hb hK hW rfl (z_ix rfl (by omega) (by omega)) dX12_handIn_72 ?_
              refine lv_topi (fun x39 ex39 => ?_)
              refine lv_if_ne (tgt := 79) hx hb dX12_handIn_73 (by decide) (fun c40 => ?_) (fun c40 => ?_)
              · have g41 := z_f_ne rfl z_l0 c40
                have b42 := Int32.toInt_lt x39
                obtain ⟨x43, ex43⟩ : ∃ y : Int32, y = y5 + 1 := ⟨_, rfl⟩
                have tx43 : x43.toInt = y5.toInt + 1 := z_tadd ex43 rfl z_l1 (by omega) (by omega)
                refine lv_iinc (v := x43) (lv' := [(3, .int x43), (2, .int y6), (0, .ref (ad 0)), (1, .int a1)]) hx hb dX12_handIn_79 hl (k := 0) rfl (by rw [ex43]; rfl) (by decide) rfl (fun ls hl => ?_)
                refine lv_goto (tgt := 14) hx hb dX12_handIn_82 (by decide) ?_
                exact lp4ih x43 y6 I34 J8 _ _ _ (by omega) (by omega) ⟨(by show 0 ≤ (I34 0 54).toInt ∧ (I34 0 54).toInt ≤ 10; rw [eI34, z_up_n (by decide), eI27, z_up_n (by decide)]; exact lp4ms.1), (by show 0 ≤ (I34 0 55).toInt ∧ (I34 0 55).toInt ≤ 300; rw [eI34, z_up_n (by decide), eI27, z_up_n (by decide)]; exact lp4ms.2)⟩ a36 ⟨(by show 0 ≤ (I34 0 13).toInt ∧ (I34 0 13).toInt ≤ 12; rw [eI34, z_up_n (by decide), eI27, z_up_n (by decide)]; exact lp4mb.1), (by show 0 ≤ (I34 0 14).toInt ∧ (I34 0 14).toInt ≤ 288; rw [eI34, z_up_n (by decide), eI27, z_up_n (by decide)]; exact lp4mb.2)⟩ a37 a38 f35 hW hS (lv_sub hl [0, 1, 2, 3] rfl)
              · have g44 := z_f_eq rfl z_l0 c40
                have b45 := Int32.toInt_lt x39
                obtain ⟨x46, ex46⟩ : ∃ y : Int32, y = y6 + 1 := ⟨_, rfl⟩
                refine lv_iinc (v := x46) (lv' := [(2, .int x46), (3, .int y5), (0, .ref (ad 0)), (1, .int a1)]) hx hb dX12_handIn_76 hl (k := 1) rfl (by rw [ex46]; rfl) (by decide) rfl (fun ls hl => ?_)
                obtain ⟨x47, ex47⟩ : ∃ y : Int32, y = y5 + 1 := ⟨_, rfl⟩
                have tx47 : x47.toInt = y5.toInt + 1 := z_tadd ex47 rfl z_l1 (by omega) (by omega)
                refine lv_iinc (v := x47) (lv' := [(3, .int x47), (2, .int x46), (0, .ref (ad 0)), (1, .int a1)]) hx hb dX12_handIn_79 hl (k := 1) rfl (by rw [ex47]; rfl) (by decide) rfl (fun ls hl => ?_)
                refine lv_goto (tgt := 14) hx hb dX12_handIn_82 (by decide) ?_
                exact lp4ih x47 x46 I34 J8 _ _ _ (by omega) (by omega) ⟨(by show 0 ≤ (I34 0 54).toInt ∧ (I34 0 54).toInt ≤ 10; rw [eI34, z_up_n (by decide), eI27, z_up_n (by decide)]; exact lp4ms.1), (by show 0 ≤ (I34 0 55).toInt ∧ (I34 0 55).toInt ≤ 300; rw [eI34, z_up_n (by decide), eI27, z_up_n (by decide)]; exact lp4ms.2)⟩ a36 ⟨(by show 0 ≤ (I34 0 13).toInt ∧ (I34 0 13).toInt ≤ 12; rw [eI34, z_up_n (by decide), eI27, z_up_n (by decide)]; exact lp4mb.1), (by show 0 ≤ (I34 0 14).toInt ∧ (I34 0 14).toInt ≤ 288; rw [eI34, z_up_n (by decide), eI27, z_up_n (by decide)]; exact lp4mb.2)⟩ a37 a38 f35 hW hS (lv_sub hl [0, 1, 2, 3] rfl)
            · have g48 := z_f_nlt rfl z_l0 c23
              have b49 := Int32.toInt_lt x22
              refine lv_goto (tgt := 79) hx hb dX12_handIn_41 (by decide) ?_
              obtain ⟨x50, ex50⟩ : ∃ y : Int32, y = y5 + 1 := ⟨_, rfl⟩
              have tx50 : x50.toInt = y5.toInt + 1 := z_tadd ex50 rfl z_l1 (by omega) (by omega)
              refine lv_iinc (v := x50) (lv' := [(3, .int x50), (2, .int y6), (0, .ref (ad 0)), (1, .int a1)]) hx hb dX12_handIn_79 hl (k := 0) rfl (by rw [ex50]; rfl) (by decide) rfl (fun ls hl => ?_)
              refine lv_goto (tgt := 14) hx hb dX12_handIn_82 (by decide) ?_
              exact lp4ih x50 y6 I7 J8 _ _ _ (by omega) (by omega) ⟨(by show 0 ≤ (I7 0 54).toInt ∧ (I7 0 54).toInt ≤ 10; exact lp4ms.1), (by show 0 ≤ (I7 0 55).toInt ∧ (I7 0 55).toInt ≤ 300; exact lp4ms.2)⟩ lp4Apc ⟨(by show 0 ≤ (I7 0 13).toInt ∧ (I7 0 13).toInt ≤ 12; exact lp4mb.1), (by show 0 ≤ (I7 0 14).toInt ∧ (I7 0 14).toInt ≤ 288; exact lp4mb.2)⟩ lp4Atf lp4Atm lp4fr hW hS (lv_sub hl [0, 1, 2, 3] rfl)
    exact lp4 4294967296 (0) (0) I J _ _ _ (z_m0u _) (by rw [z_l0]; omega) ⟨(by show 0 ≤ (I 0 54).toInt ∧ (I 0 54).toInt ≤ 10; exact hms.1), (by show 0 ≤ (I 0 55).toInt ∧ (I 0 55).toInt ≤ 300; exact hms.2)⟩ hApc ⟨(by show 0 ≤ (I 0 13).toInt ∧ (I 0 13).toInt ≤ 12; exact hmb.1), (by show 0 ≤ (I 0 14).toInt ∧ (I 0 14).toInt ≤ 288; exact hmb.2)⟩ hAtf hAtm z_fr_0 hW hS (lv_sub hl [0, 1, 2, 3] rfl)
  · refine lv_if_ne (tgt := 10) hx hb dX12_handIn_5 (by decide) (fun c51 => absurd (by decide) c51) (fun c51 => ?_)
    refine lv_iconst (v := (-1)) hx hb dX12_handIn_8 (by decide) ?_
    exact z_iret hx hb hr hK hS (Nat.le_of_ble_eq_true rfl) (Nat.le_of_ble_eq_true rfl) hlocks dX12_handIn_9 (shM, ad, I, J, PM ad) hW ⟨I, J, rfl, ⟨(by show 0 ≤ (I 0 54).toInt ∧ (I 0 54).toInt ≤ 10; exact hms.1), (by show 0 ≤ (I 0 55).toInt ∧ (I 0 55).toInt ≤ 300; exact hms.2)⟩, hApc, ⟨(by show 0 ≤ (I 0 13).toInt ∧ (I 0 13).toInt ≤ 12; exact hmb.1), (by show 0 ≤ (I 0 14).toInt ∧ (I 0 14).toInt ≤ 288; exact hmb.2)⟩, hAtf, hAtm, z_fr_0⟩
noncomputable def L_X12_deliver : z_L := [(45, 999), (46, 999), (43, 999), (44, 999), (0, 56)]
theorem zj_X12_deliver_X12 : ∀ w ∈ wsX120, w ∈ wsX12_deliver := fun w h => (List.mem_cons_of_mem _ (List.mem_append_right _ h))
set_option maxHeartbeats 8000000 in
set_option maxRecDepth 100000 in
theorem sx_X12_deliver (l : Launch) (G : z_G) (ad : Nat → Nat) (I : z_I) (J : z_J) (hms : z_ims I) (hAgm : z_rg 43 0 30 I) (a1 : Int32) (a2 : Int32) : z_M l yX12_deliver wsX12_deliver { frames := 2, cells := 0, slots := 0, locals := 34 } [.ref (ad 0), .int a1, .int a2] G (shM, ad, I, J, PM ad) (fun r u1 => ∃ (I1 : z_I) (J1 : z_J), u1 = (shM, ad, I1, J1, PM ad) ∧ z_ims I1 ∧ z_rg 43 0 30 I1 ∧ z_fr L_X12_deliver I1 I) 0 0 := by
  intro sz
  refine z_headQ (cc := cX12_deliver) (maxL := 3) (ret := (some .int)) (by decide) rfl (Nat.le_of_ble_eq_true rfl) ?_
  intro p e s m below meth c0 ls hIn hK hsz hW hl
  obtain ⟨hx, hb, hr, hml, hown, hts, hlocks, hname⟩ := hIn
  subst hsz
  have hown : s.vm.findClass RX12 = some m.cls := hown
  have hA : ∀ q : Nat, s.heap.size ≤ q → z_A (shM, ad, I, J, PM ad) s.heap.size q := fun q h => Or.inr h
  generalize hAe : z_A (shM, ad, I, J, PM ad) s.heap.size = A at *
  have hS : va_S A s.heap s.heap [] := va_S.rf
  have hl : lv_has ls 3 [(0, .ref (ad 0)), (1, .int a1), (2, .int a2)] := hl
  refine lv_aload_n hx hb dX12_deliver_0 rfl (lv_at hl 0 rfl) ?_
  refine lv_iload_n hx hb dX12_deliver_1 rfl (lv_at hl 1 rfl) ?_
  refine z_ci hW hS hA (va_runV (As := [.int a1]) (rest := []) ⟨hx, hb, hml, hown, hts⟩ (sx_X12_isStation l G ad I J ⟨(by show 0 ≤ (I 0 54).toInt ∧ (I 0 54).toInt ≤ 10; exact hms.1), (by show 0 ≤ (I 0 55).toInt ∧ (I 0 55).toInt ≤ 300; exact hms.2)⟩ a1 _) (cwV 1 hts gX12_deliver_X12_isStation rfl rfl rfl hy_X12_isStation ⟨Nat.le_of_ble_eq_true rfl, Nat.le_of_ble_eq_true rfl⟩) (z_preV (i := 0) hK hW rfl rfl) rfl rfl hl.1 rfl (lv_room (Nat.le_of_ble_eq_true rfl)) dX12_deliver_2 ⟨Nat.le_of_ble_eq_true rfl, Nat.le_of_ble_eq_true rfl⟩) (fun r u1 H locs hp hW hS => ?_)
  obtain ⟨e9, hp⟩ := hp
  rw [e9] at hW
  rcases hp with ⟨rfl, h1, h2⟩ | rfl
  · refine lv_if_eq (tgt := 29) hx hb dX12_deliver_5 (by decide) (fun c3 => absurd c3 (by decide)) (fun c3 => ?_)
    refine lv_iload_n hx hb dX12_deliver_8 rfl (lv_at hl 2 rfl) ?_
    refine lv_iconst (v := 1) hx hb dX12_deliver_9 (by decide) ?_
    refine lv_ldc (v := 100000) hx hb hown (hts (.constant RX12 113 (100000)) (me_s (me_l (List.mem_of_getElem? (i := 0) rfl)))) dX12_deliver_10 ?_
    refine z_ci hW hS hA (va_runS (As := [.int a2, .int 1, .int 100000]) (rest := []) ⟨hx, hb, hml, hown, hts⟩ (sx_X12_within l G ad I J  a2 1 100000 _) (va_cwS 3 hts gX12_deliver_X12_within rfl rfl rfl hy_X12_within.2 ⟨Nat.le_of_ble_eq_true rfl, Nat.le_of_ble_eq_true rfl⟩) (z_preS hK hW) rfl rfl hl.1 rfl (lv_room (Nat.le_of_ble_eq_true rfl)) dX12_deliver_12 ⟨Nat.le_of_ble_eq_true rfl, Nat.le_of_ble_eq_true rfl⟩) (fun r u1 H locs hp hW hS => ?_)
    obtain ⟨e9, hp⟩ := hp
    rw [e9] at hW
    rcases hp with ⟨rfl, h4, h5⟩ | rfl
    · have h4 := z_t_le z_l1 rfl h4
      have h5 := z_t_le rfl z_l100000 h5
      refine lv_if_eq (tgt := 29) hx hb dX12_deliver_15 (by decide) (fun c6 => absurd c6 (by decide)) (fun c6 => ?_)
      refine lv_aload_n hx hb dX12_deliver_18 rfl (lv_at hl 0 rfl) ?_
      refine z_get (T := TX12) (N := 96) (ci := 12) (i := 0) (v := .ref (ad 43)) hx hb hts zj_X12_deliver_X12 hown hK hW rfl rfl 66 (by decide) (hts (.fieldLink RX12 145 "PetrolBoardModel" "givenMany" "[I") (me_s (me_l (List.mem_of_getElem? (i := 1) rfl)))) (fun _ h => h) rfl dX12_deliver_19 ?_
      refine lv_iload_n hx hb dX12_deliver_22 rfl (lv_at hl 1 rfl) ?_
      refine z_iald (i := 43) hx hb hK hW rfl (z_ix rfl (by omega) (by omega)) dX12_deliver_23 ?_
      refine lv_topi (fun x7 ex7 => ?_)
      have h8 : 0 ≤ x7.toInt ∧ x7.toInt ≤ 30 := by rw [ex7]; exact hAgm _
      refine lv_bipush (v := 30) hx hb dX12_deliver_24 (by decide) ?_
      refine lv_icmp_ne (tgt := 31) hx hb dX12_deliver_26 (by decide) (fun c9 => ?_) (fun c9 => ?_)
      · have g10 := z_f_ne rfl z_l30 c9
        refine lv_aload_n hx hb dX12_deliver_31 rfl (lv_at hl 0 rfl) ?_
        refine z_get (T := TX12) (N := 96) (ci := 12) (i := 0) (v := .ref (ad 45)) hx hb hts zj_X12_deliver_X12 hown hK hW rfl rfl 68 (by decide) (hts (.fieldLink RX12 151 "PetrolBoardModel" "given" "[I") (me_s (me_l (List.mem_of_getElem? (i := 2) rfl)))) (fun _ h => h) rfl dX12_deliver_32 ?_
        refine lv_bipush (v := 30) hx hb dX12_deliver_35 (by decide) ?_
        refine lv_iload_n hx hb dX12_deliver_37 rfl (lv_at hl 1 rfl) ?_
        refine lv_imul hx hb dX12_deliver_38 ?_
        refine lv_topi (fun x11 ex11 => ?_)
        have tx11 : x11.toInt = 30 * a1.toInt := z_tmul ex11 z_l30 rfl (by omega) (by omega)
        refine lv_aload_n hx hb dX12_deliver_39 rfl (lv_at hl 0 rfl) ?_
        refine z_get (T := TX12) (N := 96) (ci := 12) (i := 0) (v := .ref (ad 43)) hx hb hts zj_X12_deliver_X12 hown hK hW rfl rfl 66 (by decide) (hts (.fieldLink RX12 145 "PetrolBoardModel" "givenMany" "[I") (me_s (me_l (List.mem_of_getElem? (i := 1) rfl)))) (fun _ h => h) rfl dX12_deliver_40 ?_
        refine lv_iload_n hx hb dX12_deliver_43 rfl (lv_at hl 1 rfl) ?_
        refine z_iald (i := 43) hx hb hK hW rfl (z_ix rfl (by omega) (by omega)) dX12_deliver_44 ?_
        refine z_topi (v := x7) ex7.symm ?_
        refine lv_iadd hx hb dX12_deliver_45 ?_
        refine lv_topi (fun x12 ex12 => ?_)
        have tx12 : x12.toInt = x11.toInt + x7.toInt := z_tadd ex12 rfl rfl (by omega) (by omega)
        refine lv_iload_n hx hb dX12_deliver_46 rfl (lv_at hl 2 rfl) ?_
        refine z_iast (i := 45) hx hb hK hW hS rfl (z_ix rfl (by omega) (by omega)) dX12_deliver_47 (fun H locs hz1 hW hS => ?_)
        obtain ⟨I13, eI13⟩ : ∃ K : z_I, K = z_up I 45 x12.toNatClampNeg a2 := ⟨_, rfl⟩
        rw [← eI13] at hW
        have f14 := z_fr_a z_fr_0 (show z_wa L_X12_deliver 45 = true by decide) eI13
        have a15 := z_rg_n hAgm (by decide) eI13
        refine lv_aload_n hx hb dX12_deliver_48 rfl (lv_at hl 0 rfl) ?_
        refine z_get (T := TX12) (N := 96) (ci := 12) (i := 0) (v := .ref (ad 46)) hx hb hts zj_X12_deliver_X12 hown hK hW rfl rfl 69 (by decide) (hts (.fieldLink RX12 154 "PetrolBoardModel" "givenCome" "[I") (me_s (me_l (List.mem_of_getElem? (i := 3) rfl)))) (fun _ h => h) rfl dX12_deliver_49 ?_
        refine lv_bipush (v := 30) hx hb dX12_deliver_52 (by decide) ?_
        refine lv_iload_n hx hb dX12_deliver_54 rfl (lv_at hl 1 rfl) ?_
        refine lv_imul hx hb dX12_deliver_55 ?_
        refine lv_topi (fun x16 ex16 => ?_)
        have tx16 : x16.toInt = 30 * a1.toInt := z_tmul ex16 z_l30 rfl (by omega) (by omega)
        refine lv_aload_n hx hb dX12_deliver_56 rfl (lv_at hl 0 rfl) ?_
        refine z_get (T := TX12) (N := 96) (ci := 12) (i := 0) (v := .ref (ad 43)) hx hb hts zj_X12_deliver_X12 hown hK hW rfl rfl 66 (by decide) (hts (.fieldLink RX12 145 "PetrolBoardModel" "givenMany" "[I") (me_s (me_l (List.mem_of_getElem? (i := 1) rfl)))) (fun _ h => h) rfl dX12_deliver_57 ?_
        refine lv_iload_n hx hb dX12_deliver_60 rfl (lv_at hl 1 rfl) ?_
        refine z_iald (i := 43) hx hb hK hW rfl (z_ix rfl (by omega) (by omega)) dX12_deliver_61 ?_
        refine z_topi (v := x7) (by rw [eI13, z_up_n (by decide)]; exact ex7.symm) ?_
        refine lv_iadd hx hb dX12_deliver_62 ?_
        refine lv_topi (fun x17 ex17 => ?_)
        have tx17 : x17.toInt = x16.toInt + x7.toInt := z_tadd ex17 rfl rfl (by omega) (by omega)
        refine lv_aload_n hx hb dX12_deliver_63 rfl (lv_at hl 0 rfl) ?_
        refine z_get (T := TX12) (N := 96) (ci := 12) (i := 0) (v := .int (I 0 56)) hx hb hts zj_X12_deliver_X12 hown hK hW rfl rfl 56 (by decide) (hts (.fieldLink RX12 471 "PetrolBoardModel" "comes" "I") (me_s (me_l (List.mem_of_getElem? (i := 4) rfl)))) (fun _ h => h) (congrArg Value.int (by rw [eI13, z_up_n (by decide)])) dX12_deliver_64 ?_
        refine z_iast (i := 46) hx hb hK hW hS rfl (z_ix rfl (by omega) (by omega)) dX12_deliver_67 (fun H locs hz1 hW hS => ?_)
        obtain ⟨I18, eI18⟩ : ∃ K : z_I, K = z_up I13 46 x17.toNatClampNeg (I 0 56) := ⟨_, rfl⟩
        rw [← eI18] at hW
        have f19 := z_fr_a f14 (show z_wa L_X12_deliver 46 = true by decide) eI18
        have a20 := z_rg_n a15 (by decide) eI18
        refine lv_aload_n hx hb dX12_deliver_68 rfl (lv_at hl 0 rfl) ?_
        refine lv_dup hx hb dX12_deliver_69 rfl ?_
        refine z_get (T := TX12) (N := 96) (ci := 12) (i := 0) (v := .int (I 0 56)) hx hb hts zj_X12_deliver_X12 hown hK hW rfl rfl 56 (by decide) (hts (.fieldLink RX12 471 "PetrolBoardModel" "comes" "I") (me_s (me_l (List.mem_of_getElem? (i := 4) rfl)))) (fun _ h => h) (congrArg Value.int (by rw [eI18, z_up_n (by decide), eI13, z_up_n (by decide)])) dX12_deliver_70 ?_
        refine lv_iconst (v := 1) hx hb dX12_deliver_73 (by decide) ?_
        refine lv_iadd hx hb dX12_deliver_74 ?_
        refine lv_topi (fun x21 ex21 => ?_)
        refine z_put (T := TX12) (N := 96) (ci := 12) (i := 0) (v := .int x21) (I1 := z_up I18 0 56 x21) (J1 := J) (P1 := PM ad) hx hb hts zj_X12_deliver_X12 tyX12 tyX12_ok nmX12 hown hK hW hS rfl rfl 56 (by decide) (hts (.fieldLink RX12 471 "PetrolBoardModel" "comes" "I") (me_s (me_l (List.mem_of_getElem? (i := 4) rfl)))) (fun _ h => h) rfl rfl rfl (by first | rfl | exact congrArg _ z_up_s) (fun a b h ty => z_vI h ty) dX12_deliver_75 (fun H locs hz1 hW hS => ?_)
        obtain ⟨I22, eI22⟩ : ∃ K : z_I, K = z_up I18 0 56 x21 := ⟨_, rfl⟩
        rw [← eI22] at hW
        have f23 := z_fr_k f19 (show z_wr L_X12_deliver 0 56 = true by decide) eI22
        have a24 := z_rg_n a20 (by decide) eI22
        refine lv_aload_n hx hb dX12_deliver_78 rfl (lv_at hl 0 rfl) ?_
        refine z_get (T := TX12) (N := 96) (ci := 12) (i := 0) (v := .ref (ad 43)) hx hb hts zj_X12_deliver_X12 hown hK hW rfl rfl 66 (by decide) (hts (.fieldLink RX12 145 "PetrolBoardModel" "givenMany" "[I") (me_s (me_l (List.mem_of_getElem? (i := 1) rfl)))) (fun _ h => h) rfl dX12_deliver_79 ?_
        refine lv_iload_n hx hb dX12_deliver_82 rfl (lv_at hl 1 rfl) ?_
        refine lv_dup2_11 hx hb dX12_deliver_83 rfl rfl ?_
        refine z_iald (i := 43) hx hb hK hW rfl (z_ix rfl (by omega) (by omega)) dX12_deliver_84 ?_
        refine z_topi (v := x7) (by rw [eI22, z_up_n (by decide), eI18, z_up_n (by decide), eI13, z_up_n (by decide)]; exact ex7.symm) ?_
        refine lv_iconst (v := 1) hx hb dX12_deliver_85 (by decide) ?_
        refine lv_iadd hx hb dX12_deliver_86 ?_
        refine lv_topi (fun x25 ex25 => ?_)
        have tx25 : x25.toInt = x7.toInt + 1 := z_tadd ex25 rfl z_l1 (by omega) (by omega)
        refine z_iast (i := 43) hx hb hK hW hS rfl (z_ix rfl (by omega) (by omega)) dX12_deliver_87 (fun H locs hz1 hW hS => ?_)
        obtain ⟨I26, eI26⟩ : ∃ K : z_I, K = z_up I22 43 a1.toNatClampNeg x25 := ⟨_, rfl⟩
        rw [← eI26] at hW
        have f27 := z_fr_a f23 (show z_wa L_X12_deliver 43 = true by decide) eI26
        have a28 := z_rg_a a24 (by omega) eI26
        refine lv_aload_n hx hb dX12_deliver_88 rfl (lv_at hl 0 rfl) ?_
        refine z_get (T := TX12) (N := 96) (ci := 12) (i := 0) (v := .ref (ad 44)) hx hb hts zj_X12_deliver_X12 hown hK hW rfl rfl 67 (by decide) (hts (.fieldLink RX12 148 "PetrolBoardModel" "givenSum" "[I") (me_s (me_l (List.mem_of_getElem? (i := 5) rfl)))) (fun _ h => h) rfl dX12_deliver_89 ?_
        refine lv_iload_n hx hb dX12_deliver_92 rfl (lv_at hl 1 rfl) ?_
        refine lv_dup2_11 hx hb dX12_deliver_93 rfl rfl ?_
        refine z_iald (i := 44) hx hb hK hW rfl (z_ix rfl (by omega) (by omega)) dX12_deliver_94 ?_
        refine lv_topi (fun x29 ex29 => ?_)
        refine lv_iload_n hx hb dX12_deliver_95 rfl (lv_at hl 2 rfl) ?_
        refine lv_iadd hx hb dX12_deliver_96 ?_
        refine lv_topi (fun x30 ex30 => ?_)
        refine z_iast (i := 44) hx hb hK hW hS rfl (z_ix rfl (by omega) (by omega)) dX12_deliver_97 (fun H locs hz1 hW hS => ?_)
        obtain ⟨I31, eI31⟩ : ∃ K : z_I, K = z_up I26 44 a1.toNatClampNeg x30 := ⟨_, rfl⟩
        rw [← eI31] at hW
        have f32 := z_fr_a f27 (show z_wa L_X12_deliver 44 = true by decide) eI31
        have a33 := z_rg_n a28 (by decide) eI31
        refine lv_aload_n hx hb dX12_deliver_98 rfl (lv_at hl 0 rfl) ?_
        refine z_get (T := TX12) (N := 96) (ci := 12) (i := 0) (v := .ref (ad 44)) hx hb hts zj_X12_deliver_X12 hown hK hW rfl rfl 67 (by decide) (hts (.fieldLink RX12 148 "PetrolBoardModel" "givenSum" "[I") (me_s (me_l (List.mem_of_getElem? (i := 5) rfl)))) (fun _ h => h) rfl dX12_deliver_99 ?_
        refine lv_iload_n hx hb dX12_deliver_102 rfl (lv_at hl 1 rfl) ?_
        refine z_iald (i := 44) hx hb hK hW rfl (z_ix rfl (by omega) (by omega)) dX12_deliver_103 ?_
        refine lv_topi (fun x34 ex34 => ?_)
        exact z_iret hx hb hr hK hS (Nat.le_of_ble_eq_true rfl) (Nat.le_of_ble_eq_true rfl) hlocks dX12_deliver_104 (shM, ad, I31, J, PM ad) hW ⟨I31, J, rfl, ⟨(by show 0 ≤ (I31 0 54).toInt ∧ (I31 0 54).toInt ≤ 10; rw [eI31, z_up_n (by decide), eI26, z_up_n (by decide), eI22, z_up_k (by decide), eI18, z_up_n (by decide), eI13, z_up_n (by decide)]; exact hms.1), (by show 0 ≤ (I31 0 55).toInt ∧ (I31 0 55).toInt ≤ 300; rw [eI31, z_up_n (by decide), eI26, z_up_n (by decide), eI22, z_up_k (by decide), eI18, z_up_n (by decide), eI13, z_up_n (by decide)]; exact hms.2)⟩, a33, f32⟩
      · have g35 := z_f_eq rfl z_l30 c9
        refine lv_iconst (v := (-1)) hx hb dX12_deliver_29 (by decide) ?_
        exact z_iret hx hb hr hK hS (Nat.le_of_ble_eq_true rfl) (Nat.le_of_ble_eq_true rfl) hlocks dX12_deliver_30 (shM, ad, I, J, PM ad) hW ⟨I, J, rfl, ⟨(by show 0 ≤ (I 0 54).toInt ∧ (I 0 54).toInt ≤ 10; exact hms.1), (by show 0 ≤ (I 0 55).toInt ∧ (I 0 55).toInt ≤ 300; exact hms.2)⟩, hAgm, z_fr_0⟩
    · refine lv_if_eq (tgt := 29) hx hb dX12_deliver_15 (by decide) (fun c36 => ?_) (fun c36 => absurd (by decide) c36)
      refine lv_iconst (v := (-1)) hx hb dX12_deliver_29 (by decide) ?_
      exact z_iret hx hb hr hK hS (Nat.le_of_ble_eq_true rfl) (Nat.le_of_ble_eq_true rfl) hlocks dX12_deliver_30 (shM, ad, I, J, PM ad) hW ⟨I, J, rfl, ⟨(by show 0 ≤ (I 0 54).toInt ∧ (I 0 54).toInt ≤ 10; exact hms.1), (by show 0 ≤ (I 0 55).toInt ∧ (I 0 55).toInt ≤ 300; exact hms.2)⟩, hAgm, z_fr_0⟩
  · refine lv_if_eq (tgt := 29) hx hb dX12_deliver_5 (by decide) (fun c37 => ?_) (fun c37 => absurd (by decide) c37)
    refine lv_iconst (v := (-1)) hx hb dX12_deliver_29 (by decide) ?_
    exact z_iret hx hb hr hK hS (Nat.le_of_ble_eq_true rfl) (Nat.le_of_ble_eq_true rfl) hlocks dX12_deliver_30 (shM, ad, I, J, PM ad) hW ⟨I, J, rfl, ⟨(by show 0 ≤ (I 0 54).toInt ∧ (I 0 54).toInt ≤ 10; exact hms.1), (by show 0 ≤ (I 0 55).toInt ∧ (I 0 55).toInt ≤ 300; exact hms.2)⟩, hAgm, z_fr_0⟩
noncomputable def L_X12_dip : z_L := [(48, 999), (49, 999), (50, 999), (47, 999), (0, 56)]
theorem zj_X12_dip_X12 : ∀ w ∈ wsX120, w ∈ wsX12_dip := fun w h => (List.mem_cons_of_mem _ (List.mem_append_right _ h))
set_option maxHeartbeats 8000000 in
set_option maxRecDepth 100000 in
theorem sx_X12_dip (l : Launch) (G : z_G) (ad : Nat → Nat) (I : z_I) (J : z_J) (hms : z_ims I) (hAdm : z_rg 47 0 30 I) (hma : z_ima I) (a1 : Int32) (a2 : Int32) : z_M l yX12_dip wsX12_dip { frames := 2, cells := 0, slots := 0, locals := 34 } [.ref (ad 0), .int a1, .int a2] G (shM, ad, I, J, PM ad) (fun r u1 => ∃ (I1 : z_I) (J1 : z_J), u1 = (shM, ad, I1, J1, PM ad) ∧ z_ims I1 ∧ z_rg 47 0 30 I1 ∧ z_ima I1 ∧ z_fr L_X12_dip I1 I) 0 0 := by
  intro sz
  refine z_headQ (cc := cX12_dip) (maxL := 4) (ret := (some .int)) (by decide) rfl (Nat.le_of_ble_eq_true rfl) ?_
  intro p e s m below meth c0 ls hIn hK hsz hW hl
  obtain ⟨hx, hb, hr, hml, hown, hts, hlocks, hname⟩ := hIn
  subst hsz
  have hown : s.vm.findClass RX12 = some m.cls := hown
  have hA : ∀ q : Nat, s.heap.size ≤ q → z_A (shM, ad, I, J, PM ad) s.heap.size q := fun q h => Or.inr h
  generalize hAe : z_A (shM, ad, I, J, PM ad) s.heap.size = A at *
  have hS : va_S A s.heap s.heap [] := va_S.rf
  have hl : lv_has ls 4 [(0, .ref (ad 0)), (1, .int a1), (2, .int a2)] := hl
  refine lv_aload_n hx hb dX12_dip_0 rfl (lv_at hl 0 rfl) ?_
  refine lv_iload_n hx hb dX12_dip_1 rfl (lv_at hl 1 rfl) ?_
  refine z_ci hW hS hA (va_runV (As := [.int a1]) (rest := []) ⟨hx, hb, hml, hown, hts⟩ (sx_X12_isStation l G ad I J ⟨(by show 0 ≤ (I 0 54).toInt ∧ (I 0 54).toInt ≤ 10; exact hms.1), (by show 0 ≤ (I 0 55).toInt ∧ (I 0 55).toInt ≤ 300; exact hms.2)⟩ a1 _) (cwV 1 hts gX12_dip_X12_isStation rfl rfl rfl hy_X12_isStation ⟨Nat.le_of_ble_eq_true rfl, Nat.le_of_ble_eq_true rfl⟩) (z_preV (i := 0) hK hW rfl rfl) rfl rfl hl.1 rfl (lv_room (Nat.le_of_ble_eq_true rfl)) dX12_dip_2 ⟨Nat.le_of_ble_eq_true rfl, Nat.le_of_ble_eq_true rfl⟩) (fun r u1 H locs hp hW hS => ?_)
  obtain ⟨e9, hp⟩ := hp
  rw [e9] at hW
  rcases hp with ⟨rfl, h1, h2⟩ | rfl
  · refine lv_if_eq (tgt := 30) hx hb dX12_dip_5 (by decide) (fun c3 => absurd c3 (by decide)) (fun c3 => ?_)
    refine lv_iload_n hx hb dX12_dip_8 rfl (lv_at hl 2 rfl) ?_
    refine lv_iconst (v := 0) hx hb dX12_dip_9 (by decide) ?_
    refine lv_ldcw (v := 200000) hx hb hown (hts (.constant RX12 477 (200000)) (me_s (me_l (List.mem_of_getElem? (i := 0) rfl)))) dX12_dip_10 ?_
    refine z_ci hW hS hA (va_runS (As := [.int a2, .int 0, .int 200000]) (rest := []) ⟨hx, hb, hml, hown, hts⟩ (sx_X12_within l G ad I J  a2 0 200000 _) (va_cwS 3 hts gX12_dip_X12_within rfl rfl rfl hy_X12_within.2 ⟨Nat.le_of_ble_eq_true rfl, Nat.le_of_ble_eq_true rfl⟩) (z_preS hK hW) rfl rfl hl.1 rfl (lv_room (Nat.le_of_ble_eq_true rfl)) dX12_dip_13 ⟨Nat.le_of_ble_eq_true rfl, Nat.le_of_ble_eq_true rfl⟩) (fun r u1 H locs hp hW hS => ?_)
    obtain ⟨e9, hp⟩ := hp
    rw [e9] at hW
    rcases hp with ⟨rfl, h4, h5⟩ | rfl
    · have h4 := z_t_le z_l0 rfl h4
      have h5 := z_t_le rfl z_l200000 h5
      refine lv_if_eq (tgt := 30) hx hb dX12_dip_16 (by decide) (fun c6 => absurd c6 (by decide)) (fun c6 => ?_)
      refine lv_aload_n hx hb dX12_dip_19 rfl (lv_at hl 0 rfl) ?_
      refine z_get (T := TX12) (N := 96) (ci := 12) (i := 0) (v := .ref (ad 47)) hx hb hts zj_X12_dip_X12 hown hK hW rfl rfl 70 (by decide) (hts (.fieldLink RX12 157 "PetrolBoardModel" "dipMany" "[I") (me_s (me_l (List.mem_of_getElem? (i := 1) rfl)))) (fun _ h => h) rfl dX12_dip_20 ?_
      refine lv_iload_n hx hb dX12_dip_23 rfl (lv_at hl 1 rfl) ?_
      refine z_iald (i := 47) hx hb hK hW rfl (z_ix rfl (by omega) (by omega)) dX12_dip_24 ?_
      refine lv_topi (fun x7 ex7 => ?_)
      have h8 : 0 ≤ x7.toInt ∧ x7.toInt ≤ 30 := by rw [ex7]; exact hAdm _
      refine lv_bipush (v := 30) hx hb dX12_dip_25 (by decide) ?_
      refine lv_icmp_ne (tgt := 32) hx hb dX12_dip_27 (by decide) (fun c9 => ?_) (fun c9 => ?_)
      · have g10 := z_f_ne rfl z_l30 c9
        refine lv_bipush (v := 30) hx hb dX12_dip_32 (by decide) ?_
        refine lv_iload_n hx hb dX12_dip_34 rfl (lv_at hl 1 rfl) ?_
        refine lv_imul hx hb dX12_dip_35 ?_
        refine lv_topi (fun x11 ex11 => ?_)
        have tx11 : x11.toInt = 30 * a1.toInt := z_tmul ex11 z_l30 rfl (by omega) (by omega)
        refine lv_aload_n hx hb dX12_dip_36 rfl (lv_at hl 0 rfl) ?_
        refine z_get (T := TX12) (N := 96) (ci := 12) (i := 0) (v := .ref (ad 47)) hx hb hts zj_X12_dip_X12 hown hK hW rfl rfl 70 (by decide) (hts (.fieldLink RX12 157 "PetrolBoardModel" "dipMany" "[I") (me_s (me_l (List.mem_of_getElem? (i := 1) rfl)))) (fun _ h => h) rfl dX12_dip_37 ?_
        refine lv_iload_n hx hb dX12_dip_40 rfl (lv_at hl 1 rfl) ?_
        refine z_iald (i := 47) hx hb hK hW rfl (z_ix rfl (by omega) (by omega)) dX12_dip_41 ?_
        refine z_topi (v := x7) ex7.symm ?_
        refine lv_iadd hx hb dX12_dip_42 ?_
        refine lv_topi (fun x12 ex12 => ?_)
        have tx12 : x12.toInt = x11.toInt + x7.toInt := z_tadd ex12 rfl rfl (by omega) (by omega)
        refine lv_istore_n (lv' := [(3, .int x12), (0, .ref (ad 0)), (1, .int a1), (2, .int a2)]) hx hb dX12_dip_43 rfl hl (by decide) rfl (fun ls hl => ?_)
        refine lv_aload_n hx hb dX12_dip_44 rfl (lv_at hl 1 rfl) ?_
        refine z_get (T := TX12) (N := 96) (ci := 12) (i := 0) (v := .ref (ad 48)) hx hb hts zj_X12_dip_X12 hown hK hW rfl rfl 71 (by decide) (hts (.fieldLink RX12 160 "PetrolBoardModel" "dipTold" "[I") (me_s (me_l (List.mem_of_getElem? (i := 2) rfl)))) (fun _ h => h) rfl dX12_dip_45 ?_
        refine lv_iload_n hx hb dX12_dip_48 rfl (lv_at hl 0 rfl) ?_
        refine lv_iload_n hx hb dX12_dip_49 rfl (lv_at hl 3 rfl) ?_
        refine z_iast (i := 48) hx hb hK hW hS rfl (z_ix rfl (by omega) (by omega)) dX12_dip_50 (fun H locs hz1 hW hS => ?_)
        obtain ⟨I13, eI13⟩ : ∃ K : z_I, K = z_up I 48 x12.toNatClampNeg a2 := ⟨_, rfl⟩
        rw [← eI13] at hW
        have f14 := z_fr_a z_fr_0 (show z_wa L_X12_dip 48 = true by decide) eI13
        have a15 := z_rg_n hAdm (by decide) eI13
        refine lv_aload_n hx hb dX12_dip_51 rfl (lv_at hl 1 rfl) ?_
        refine z_get (T := TX12) (N := 96) (ci := 12) (i := 0) (v := .ref (ad 49)) hx hb hts zj_X12_dip_X12 hown hK hW rfl rfl 72 (by decide) (hts (.fieldLink RX12 163 "PetrolBoardModel" "dipDay" "[I") (me_s (me_l (List.mem_of_getElem? (i := 3) rfl)))) (fun _ h => h) rfl dX12_dip_52 ?_
        refine lv_iload_n hx hb dX12_dip_55 rfl (lv_at hl 0 rfl) ?_
        refine lv_aload_n hx hb dX12_dip_56 rfl (lv_at hl 1 rfl) ?_
        have r16 : 0 ≤ (I 0 0).toInt ∧ (I 0 0).toInt ≤ 719 := hma.1
        refine z_get (T := TX12) (N := 96) (ci := 12) (i := 0) (v := .int (I 0 0)) hx hb hts zj_X12_dip_X12 hown hK hW rfl rfl 0 (by decide) (hts (.fieldLink RX12 232 "PetrolBoardModel" "today" "I") (me_s (me_l (List.mem_of_getElem? (i := 4) rfl)))) (fun _ h => h) (congrArg Value.int (by rw [eI13, z_up_n (by decide)])) dX12_dip_57 ?_
        refine z_iast (i := 49) hx hb hK hW hS rfl (z_ix rfl (by omega) (by omega)) dX12_dip_60 (fun H locs hz1 hW hS => ?_)
        obtain ⟨I17, eI17⟩ : ∃ K : z_I, K = z_up I13 49 x12.toNatClampNeg (I 0 0) := ⟨_, rfl⟩
        rw [← eI17] at hW
        have f18 := z_fr_a f14 (show z_wa L_X12_dip 49 = true by decide) eI17
        have a19 := z_rg_n a15 (by decide) eI17
        refine lv_aload_n hx hb dX12_dip_61 rfl (lv_at hl 1 rfl) ?_
        refine z_get (T := TX12) (N := 96) (ci := 12) (i := 0) (v := .ref (ad 50)) hx hb hts zj_X12_dip_X12 hown hK hW rfl rfl 73 (by decide) (hts (.fieldLink RX12 166 "PetrolBoardModel" "dipCome" "[I") (me_s (me_l (List.mem_of_getElem? (i := 5) rfl)))) (fun _ h => h) rfl dX12_dip_62 ?_
        refine lv_iload_n hx hb dX12_dip_65 rfl (lv_at hl 0 rfl) ?_
        refine lv_aload_n hx hb dX12_dip_66 rfl (lv_at hl 1 rfl) ?_
        refine z_get (T := TX12) (N := 96) (ci := 12) (i := 0) (v := .int (I 0 56)) hx hb hts zj_X12_dip_X12 hown hK hW rfl rfl 56 (by decide) (hts (.fieldLink RX12 471 "PetrolBoardModel" "comes" "I") (me_s (me_l (List.mem_of_getElem? (i := 6) rfl)))) (fun _ h => h) (congrArg Value.int (by rw [eI17, z_up_n (by decide), eI13, z_up_n (by decide)])) dX12_dip_67 ?_
        refine z_iast (i := 50) hx hb hK hW hS rfl (z_ix rfl (by omega) (by omega)) dX12_dip_70 (fun H locs hz1 hW hS => ?_)
        obtain ⟨I20, eI20⟩ : ∃ K : z_I, K = z_up I17 50 x12.toNatClampNeg (I 0 56) := ⟨_, rfl⟩
        rw [← eI20] at hW
        have f21 := z_fr_a f18 (show z_wa L_X12_dip 50 = true by decide) eI20
        have a22 := z_rg_n a19 (by decide) eI20
        refine lv_aload_n hx hb dX12_dip_71 rfl (lv_at hl 1 rfl) ?_
        refine lv_dup hx hb dX12_dip_72 rfl ?_
        refine z_get (T := TX12) (N := 96) (ci := 12) (i := 0) (v := .int (I 0 56)) hx hb hts zj_X12_dip_X12 hown hK hW rfl rfl 56 (by decide) (hts (.fieldLink RX12 471 "PetrolBoardModel" "comes" "I") (me_s (me_l (List.mem_of_getElem? (i := 6) rfl)))) (fun _ h => h) (congrArg Value.int (by rw [eI20, z_up_n (by decide), eI17, z_up_n (by decide), eI13, z_up_n (by decide)])) dX12_dip_73 ?_
        refine lv_iconst (v := 1) hx hb dX12_dip_76 (by decide) ?_
        refine lv_iadd hx hb dX12_dip_77 ?_
        refine lv_topi (fun x23 ex23 => ?_)
        refine z_put (T := TX12) (N := 96) (ci := 12) (i := 0) (v := .int x23) (I1 := z_up I20 0 56 x23) (J1 := J) (P1 := PM ad) hx hb hts zj_X12_dip_X12 tyX12 tyX12_ok nmX12 hown hK hW hS rfl rfl 56 (by decide) (hts (.fieldLink RX12 471 "PetrolBoardModel" "comes" "I") (me_s (me_l (List.mem_of_getElem? (i := 6) rfl)))) (fun _ h => h) rfl rfl rfl (by first | rfl | exact congrArg _ z_up_s) (fun a b h ty => z_vI h ty) dX12_dip_78 (fun H locs hz1 hW hS => ?_)
        obtain ⟨I24, eI24⟩ : ∃ K : z_I, K = z_up I20 0 56 x23 := ⟨_, rfl⟩
        rw [← eI24] at hW
        have f25 := z_fr_k f21 (show z_wr L_X12_dip 0 56 = true by decide) eI24
        have a26 := z_rg_n a22 (by decide) eI24
        refine lv_aload_n hx hb dX12_dip_81 rfl (lv_at hl 1 rfl) ?_
        refine z_get (T := TX12) (N := 96) (ci := 12) (i := 0) (v := .ref (ad 47)) hx hb hts zj_X12_dip_X12 hown hK hW rfl rfl 70 (by decide) (hts (.fieldLink RX12 157 "PetrolBoardModel" "dipMany" "[I") (me_s (me_l (List.mem_of_getElem? (i := 1) rfl)))) (fun _ h => h) rfl dX12_dip_82 ?_
        refine lv_iload_n hx hb dX12_dip_85 rfl (lv_at hl 2 rfl) ?_
        refine lv_dup2_11 hx hb dX12_dip_86 rfl rfl ?_
        refine z_iald (i := 47) hx hb hK hW rfl (z_ix rfl (by omega) (by omega)) dX12_dip_87 ?_
        refine z_topi (v := x7) (by rw [eI24, z_up_n (by decide), eI20, z_up_n (by decide), eI17, z_up_n (by decide), eI13, z_up_n (by decide)]; exact ex7.symm) ?_
        refine lv_iconst (v := 1) hx hb dX12_dip_88 (by decide) ?_
        refine lv_iadd hx hb dX12_dip_89 ?_
        refine lv_topi (fun x27 ex27 => ?_)
        have tx27 : x27.toInt = x7.toInt + 1 := z_tadd ex27 rfl z_l1 (by omega) (by omega)
        refine z_iast (i := 47) hx hb hK hW hS rfl (z_ix rfl (by omega) (by omega)) dX12_dip_90 (fun H locs hz1 hW hS => ?_)
        obtain ⟨I28, eI28⟩ : ∃ K : z_I, K = z_up I24 47 a1.toNatClampNeg x27 := ⟨_, rfl⟩
        rw [← eI28] at hW
        have f29 := z_fr_a f25 (show z_wa L_X12_dip 47 = true by decide) eI28
        have a30 := z_rg_a a26 (by omega) eI28
        refine lv_aload_n hx hb dX12_dip_91 rfl (lv_at hl 1 rfl) ?_
        refine z_get (T := TX12) (N := 96) (ci := 12) (i := 0) (v := .ref (ad 47)) hx hb hts zj_X12_dip_X12 hown hK hW rfl rfl 70 (by decide) (hts (.fieldLink RX12 157 "PetrolBoardModel" "dipMany" "[I") (me_s (me_l (List.mem_of_getElem? (i := 1) rfl)))) (fun _ h => h) rfl dX12_dip_92 ?_
        refine lv_iload_n hx hb dX12_dip_95 rfl (lv_at hl 2 rfl) ?_
        refine z_iald (i := 47) hx hb hK hW rfl (z_ix rfl (by omega) (by omega)) dX12_dip_96 ?_
        refine lv_topi (fun x31 ex31 => ?_)
        have h32 : 0 ≤ x31.toInt ∧ x31.toInt ≤ 30 := by rw [ex31]; exact a30 _
        refine lv_iconst (v := 1) hx hb dX12_dip_97 (by decide) ?_
        refine lv_isub hx hb dX12_dip_98 ?_
        refine lv_topi (fun x33 ex33 => ?_)
        have tx33 : x33.toInt = x31.toInt - 1 := z_tsub ex33 rfl z_l1 (by omega) (by omega)
        exact z_iret hx hb hr hK hS (Nat.le_of_ble_eq_true rfl) (Nat.le_of_ble_eq_true rfl) hlocks dX12_dip_99 (shM, ad, I28, J, PM ad) hW ⟨I28, J, rfl, ⟨(by show 0 ≤ (I28 0 54).toInt ∧ (I28 0 54).toInt ≤ 10; rw [eI28, z_up_n (by decide), eI24, z_up_k (by decide), eI20, z_up_n (by decide), eI17, z_up_n (by decide), eI13, z_up_n (by decide)]; exact hms.1), (by show 0 ≤ (I28 0 55).toInt ∧ (I28 0 55).toInt ≤ 300; rw [eI28, z_up_n (by decide), eI24, z_up_k (by decide), eI20, z_up_n (by decide), eI17, z_up_n (by decide), eI13, z_up_n (by decide)]; exact hms.2)⟩, a30, ⟨(by show 0 ≤ (I28 0 0).toInt ∧ (I28 0 0).toInt ≤ 719; rw [eI28, z_up_n (by decide), eI24, z_up_k (by decide), eI20, z_up_n (by decide), eI17, z_up_n (by decide), eI13, z_up_n (by decide)]; exact hma.1), (by show 0 ≤ (I28 0 1).toInt ∧ (I28 0 1).toInt ≤ 30; rw [eI28, z_up_n (by decide), eI24, z_up_k (by decide), eI20, z_up_n (by decide), eI17, z_up_n (by decide), eI13, z_up_n (by decide)]; exact hma.2.1), (by show 0 ≤ (I28 0 2).toInt ∧ (I28 0 2).toInt ≤ 200; rw [eI28, z_up_n (by decide), eI24, z_up_k (by decide), eI20, z_up_n (by decide), eI17, z_up_n (by decide), eI13, z_up_n (by decide)]; exact hma.2.2)⟩, f29⟩
      · have g34 := z_f_eq rfl z_l30 c9
        refine lv_iconst (v := (-1)) hx hb dX12_dip_30 (by decide) ?_
        exact z_iret hx hb hr hK hS (Nat.le_of_ble_eq_true rfl) (Nat.le_of_ble_eq_true rfl) hlocks dX12_dip_31 (shM, ad, I, J, PM ad) hW ⟨I, J, rfl, ⟨(by show 0 ≤ (I 0 54).toInt ∧ (I 0 54).toInt ≤ 10; exact hms.1), (by show 0 ≤ (I 0 55).toInt ∧ (I 0 55).toInt ≤ 300; exact hms.2)⟩, hAdm, ⟨(by show 0 ≤ (I 0 0).toInt ∧ (I 0 0).toInt ≤ 719; exact hma.1), (by show 0 ≤ (I 0 1).toInt ∧ (I 0 1).toInt ≤ 30; exact hma.2.1), (by show 0 ≤ (I 0 2).toInt ∧ (I 0 2).toInt ≤ 200; exact hma.2.2)⟩, z_fr_0⟩
    · refine lv_if_eq (tgt := 30) hx hb dX12_dip_16 (by decide) (fun c35 => ?_) (fun c35 => absurd (by decide) c35)
      refine lv_iconst (v := (-1)) hx hb dX12_dip_30 (by decide) ?_
      exact z_iret hx hb hr hK hS (Nat.le_of_ble_eq_true rfl) (Nat.le_of_ble_eq_true rfl) hlocks dX12_dip_31 (shM, ad, I, J, PM ad) hW ⟨I, J, rfl, ⟨(by show 0 ≤ (I 0 54).toInt ∧ (I 0 54).toInt ≤ 10; exact hms.1), (by show 0 ≤ (I 0 55).toInt ∧ (I 0 55).toInt ≤ 300; exact hms.2)⟩, hAdm, ⟨(by show 0 ≤ (I 0 0).toInt ∧ (I 0 0).toInt ≤ 719; exact hma.1), (by show 0 ≤ (I 0 1).toInt ∧ (I 0 1).toInt ≤ 30; exact hma.2.1), (by show 0 ≤ (I 0 2).toInt ∧ (I 0 2).toInt ≤ 200; exact hma.2.2)⟩, z_fr_0⟩
  · refine lv_if_eq (tgt := 30) hx hb dX12_dip_5 (by decide) (fun c36 => ?_) (fun c36 => absurd (by decide) c36)
    refine lv_iconst (v := (-1)) hx hb dX12_dip_30 (by decide) ?_
    exact z_iret hx hb hr hK hS (Nat.le_of_ble_eq_true rfl) (Nat.le_of_ble_eq_true rfl) hlocks dX12_dip_31 (shM, ad, I, J, PM ad) hW ⟨I, J, rfl, ⟨(by show 0 ≤ (I 0 54).toInt ∧ (I 0 54).toInt ≤ 10; exact hms.1), (by show 0 ≤ (I 0 55).toInt ∧ (I 0 55).toInt ≤ 300; exact hms.2)⟩, hAdm, ⟨(by show 0 ≤ (I 0 0).toInt ∧ (I 0 0).toInt ≤ 719; exact hma.1), (by show 0 ≤ (I 0 1).toInt ∧ (I 0 1).toInt ≤ 30; exact hma.2.1), (by show 0 ≤ (I 0 2).toInt ∧ (I 0 2).toInt ≤ 200; exact hma.2.2)⟩, z_fr_0⟩
theorem zj_X12_inOf_X12 : ∀ w ∈ wsX120, w ∈ wsX12_inOf := fun w h => (List.mem_cons_of_mem _ (List.mem_append_right _ h))
set_option maxHeartbeats 8000000 in
set_option maxRecDepth 100000 in
theorem sx_X12_inOf (l : Launch) (G : z_G) (ad : Nat → Nat) (I : z_I) (J : z_J) (hms : z_ims I) (hma : z_ima I) (hAgm : z_rg 43 0 30 I) (hmb : z_imb I) (hAtf : z_rg 11 0 288 I) (hAtm : z_rg 12 0 24 I) (a1 : Int32) (a2 : Int32) (q1 : 0 ≤ a1.toInt ∧ a1.toInt ≤ 9) (q2 : 0 ≤ a2.toInt ∧ a2.toInt ≤ 28) : z_Ml l yX12_inOf wsX12_inOf { frames := 3, cells := 0, slots := 0, locals := 62 } [.ref (ad 0), .int a1, .int a2] G (shM, ad, I, J, PM ad) (fun r u1 => u1 = (shM, ad, I, J, PM ad)) 0 0 := by
  intro sz
  refine z_headQ (cc := cX12_inOf) (maxL := 8) (ret := (some .long)) (by decide) rfl (Nat.le_of_ble_eq_true rfl) ?_
  intro p e s m below meth c0 ls hIn hK hsz hW hl
  obtain ⟨hx, hb, hr, hml, hown, hts, hlocks, hname⟩ := hIn
  subst hsz
  have hown : s.vm.findClass RX12 = some m.cls := hown
  have hA : ∀ q : Nat, s.heap.size ≤ q → z_A (shM, ad, I, J, PM ad) s.heap.size q := fun q h => Or.inr h
  generalize hAe : z_A (shM, ad, I, J, PM ad) s.heap.size = A at *
  have hS : va_S A s.heap s.heap [] := va_S.rf
  have hl : lv_has ls 8 [(0, .ref (ad 0)), (1, .int a1), (2, .int a2)] := hl
  refine lv_bipush (v := 30) hx hb dX12_inOf_0 (by decide) ?_
  refine lv_iload_n hx hb dX12_inOf_2 rfl (lv_at hl 1 rfl) ?_
  refine lv_imul hx hb dX12_inOf_3 ?_
  refine lv_topi (fun x1 ex1 => ?_)
  have tx1 : x1.toInt = 30 * a1.toInt := z_tmul ex1 z_l30 rfl (by omega) (by omega)
  refine lv_iload_n hx hb dX12_inOf_4 rfl (lv_at hl 2 rfl) ?_
  refine lv_iadd hx hb dX12_inOf_5 ?_
  refine lv_topi (fun x2 ex2 => ?_)
  have tx2 : x2.toInt = x1.toInt + a2.toInt := z_tadd ex2 rfl rfl (by omega) (by omega)
  refine lv_istore_n (lv' := [(3, .int x2), (0, .ref (ad 0)), (1, .int a1), (2, .int a2)]) hx hb dX12_inOf_6 rfl hl (by decide) rfl (fun ls hl => ?_)
  refine lv_lconst (v := 0) hx hb dX12_inOf_7 (by decide) ?_
  refine lv_lstore (lv' := [(4, .long 0), (3, .int x2), (0, .ref (ad 0)), (1, .int a1), (2, .int a2)]) hx hb dX12_inOf_8 hl (by decide) rfl (fun ls hl => ?_)
  refine lv_bipush (v := 30) hx hb dX12_inOf_10 (by decide) ?_
  refine lv_iload_n hx hb dX12_inOf_12 rfl (lv_at hl 3 rfl) ?_
  refine lv_imul hx hb dX12_inOf_13 ?_
  refine lv_topi (fun x3 ex3 => ?_)
  have tx3 : x3.toInt = 30 * a1.toInt := z_tmul ex3 z_l30 rfl (by omega) (by omega)
  refine lv_istore (lv' := [(6, .int x3), (4, .long 0), (3, .int x2), (0, .ref (ad 0)), (1, .int a1), (2, .int a2)]) hx hb dX12_inOf_14 hl (by decide) rfl (fun ls hl => ?_)
  have lp4 : ∀ (f : Nat) (y5 : Int32) (w6 : Int64) (H : Heap) (locs : List Loc) (ls : Array Slot), (2147483647 < y5.toInt + (f : Int)) → (0 ≤ y5.toInt) → (x3.toInt ≤ y5.toInt) → z_W G A (shM, ad, I, J, PM ad) H → va_S A s.heap H locs → lv_has ls 8 [(6, .int y5), (4, .long w6), (3, .int x2), (0, .ref (ad 0)), (1, .int a1), (2, .int a2)] → W p l e (headSpec wsX12_inOf { frames := 3, cells := 0, slots := 0, locals := 62 }).room s m ([.ref (ad 0), .int a1, .int a2] : List Value).toArray below meth c0 H locs 0 0 (MQ below (va_Ql (fun (r : Int64) (u1 : z_U) => u1 = (shM, ad, I, J, PM ad)) (z_B G A) A) ([.ref (ad 0), .int a1, .int a2] : List Value).toArray s 0 0 A) (F0 m 16 ls []) := by
    intro f
    induction f with
    | zero => intro y5 w6 H locs ls lp4m lp4l6 lp4z hW hS hl; exact absurd lp4m (by have := Int32.toInt_lt y5; have := Int32.le_toInt y5; omega)
    | succ f lp4ih =>
      intro y5 w6 H locs ls lp4m lp4l6 lp4z hW hS hl
      refine lv_iload hx hb dX12_inOf_16 (lv_at hl 0 rfl) ?_
      refine lv_bipush (v := 30) hx hb dX12_inOf_18 (by decide) ?_
      refine lv_iload_n hx hb dX12_inOf_20 rfl (lv_at hl 4 rfl) ?_
      refine lv_imul hx hb dX12_inOf_21 ?_
      refine lv_topi (fun x7 ex7 => ?_)
      have tx7 : x7.toInt = 30 * a1.toInt := z_tmul ex7 z_l30 rfl (by omega) (by omega)
      refine lv_aload_n hx hb dX12_inOf_22 rfl (lv_at hl 3 rfl) ?_
      refine z_get (T := TX12) (N := 96) (ci := 12) (i := 0) (v := .ref (ad 43)) hx hb hts zj_X12_inOf_X12 hown hK hW rfl rfl 66 (by decide) (hts (.fieldLink RX12 145 "PetrolBoardModel" "givenMany" "[I") (me_s (me_l (me_l (List.mem_of_getElem? (i := 0) rfl))))) (fun _ h => h) rfl dX12_inOf_23 ?_
      refine lv_iload_n hx hb dX12_inOf_26 rfl (lv_at hl 4 rfl) ?_
      refine z_iald (i := 43) hx hb hK hW rfl (z_ix rfl (by omega) (by omega)) dX12_inOf_27 ?_
      refine lv_topi (fun x8 ex8 => ?_)
      have h9 : 0 ≤ x8.toInt ∧ x8.toInt ≤ 30 := by rw [ex8]; exact hAgm _
      refine lv_iadd hx hb dX12_inOf_28 ?_
      refine lv_topi (fun x10 ex10 => ?_)
      have tx10 : x10.toInt = x7.toInt + x8.toInt := z_tadd ex10 rfl rfl (by omega) (by omega)
      refine lv_icmp_ge (tgt := 85) hx hb dX12_inOf_29 (by decide) (fun c11 => ?_) (fun c11 => ?_)
      · have g12 := z_f_ge rfl rfl c11
        have b13 := Int32.toInt_lt y5
        refine lv_iconst (v := 0) hx hb dX12_inOf_85 (by decide) ?_
        refine lv_istore (lv' := [(6, .int 0), (4, .long w6), (3, .int x2), (0, .ref (ad 0)), (1, .int a1), (2, .int a2)]) hx hb dX12_inOf_86 hl (by decide) rfl (fun ls hl => ?_)
        have lp14 : ∀ (f : Nat) (y15 : Int32) (w16 : Int64) (H : Heap) (locs : List Loc) (ls : Array Slot), (2147483647 < y15.toInt + (f : Int)) → (0 ≤ y15.toInt) → z_W G A (shM, ad, I, J, PM ad) H → va_S A s.heap H locs → lv_has ls 8 [(6, .int y15), (4, .long w16), (3, .int x2), (0, .ref (ad 0)), (1, .int a1), (2, .int a2)] → W p l e (headSpec wsX12_inOf { frames := 3, cells := 0, slots := 0, locals := 62 }).room s m ([.ref (ad 0), .int a1, .int a2] : List Value).toArray below meth c0 H locs 0 0 (MQ below (va_Ql (fun (r : Int64) (u1 : z_U) => u1 = (shM, ad, I, J, PM ad)) (z_B G A) A) ([.ref (ad 0), .int a1, .int a2] : List Value).toArray s 0 0 A) (F0 m 88 ls []) := by
          intro f
          induction f with
          | zero => intro y15 w16 H locs ls lp14m lp14l6 hW hS hl; exact absurd lp14m (by have := Int32.toInt_lt y15; have := Int32.le_toInt y15; omega)
          | succ f lp14ih =>
            intro y15 w16 H locs ls lp14m lp14l6 hW hS hl
            refine lv_iload hx hb dX12_inOf_88 (lv_at hl 0 rfl) ?_
            refine lv_aload_n hx hb dX12_inOf_90 rfl (lv_at hl 3 rfl) ?_
            have r17 : 0 ≤ (I 0 55).toInt ∧ (I 0 55).toInt ≤ 300 := hms.2
            refine z_get (T := TX12) (N := 96) (ci := 12) (i := 0) (v := .int (I 0 55)) hx hb hts zj_X12_inOf_X12 hown hK hW rfl rfl 55 (by decide) (hts (.fieldLink RX12 468 "PetrolBoardModel" "pours" "I") (me_s (me_l (me_l (List.mem_of_getElem? (i := 4) rfl))))) (fun _ h => h) rfl dX12_inOf_91 ?_
            refine lv_icmp_ge (tgt := 188) hx hb dX12_inOf_94 (by decide) (fun c18 => ?_) (fun c18 => ?_)
            · have g19 := z_f_ge rfl rfl c18
              have b20 := Int32.toInt_lt y15
              refine lv_lload hx hb dX12_inOf_188 (lv_at hl 1 rfl) ?_
              refine lv_aload_n hx hb dX12_inOf_190 rfl (lv_at hl 3 rfl) ?_
              refine lv_aload_n hx hb dX12_inOf_191 rfl (lv_at hl 3 rfl) ?_
              refine z_get (T := TX12) (N := 96) (ci := 12) (i := 0) (v := .ref (ad 49)) hx hb hts zj_X12_inOf_X12 hown hK hW rfl rfl 72 (by decide) (hts (.fieldLink RX12 163 "PetrolBoardModel" "dipDay" "[I") (me_s (me_l (me_l (List.mem_of_getElem? (i := 9) rfl))))) (fun _ h => h) rfl dX12_inOf_192 ?_
              refine lv_iload_n hx hb dX12_inOf_195 rfl (lv_at hl 2 rfl) ?_
              refine z_iald (i := 49) hx hb hK hW rfl (z_ix rfl (by omega) (by omega)) dX12_inOf_196 ?_
              refine lv_topi (fun x21 ex21 => ?_)
              refine lv_bipush (v := 30) hx hb dX12_inOf_197 (by decide) ?_
              refine lv_idiv hx hb dX12_inOf_199 (by decide) ?_
              refine lv_topi (fun x22 ex22 => ?_)
              have tx22 := z_tdiv ex22 rfl z_l30 (by decide)
              refine lv_aload_n hx hb dX12_inOf_200 rfl (lv_at hl 3 rfl) ?_
              have r23 : 0 ≤ (I 0 0).toInt ∧ (I 0 0).toInt ≤ 719 := hma.1
              refine z_get (T := TX12) (N := 96) (ci := 12) (i := 0) (v := .int (I 0 0)) hx hb hts zj_X12_inOf_X12 hown hK hW rfl rfl 0 (by decide) (hts (.fieldLink RX12 232 "PetrolBoardModel" "today" "I") (me_s (me_l (me_l (List.mem_of_getElem? (i := 10) rfl))))) (fun _ h => h) rfl dX12_inOf_201 ?_
              refine lv_bipush (v := 6) hx hb dX12_inOf_204 (by decide) ?_
              refine z_ci hW hS hA (va_runV (As := [.int x22, .int (I 0 0), .int 6]) (rest := [.long w16]) ⟨hx, hb, hml, hown, hts⟩ (sx_X12_number l G ad I J ⟨(by show 0 ≤ (I 0 13).toInt ∧ (I 0 13).toInt ≤ 12; exact hmb.1), (by show 0 ≤ (I 0 14).toInt ∧ (I 0 14).toInt ≤ 288; exact hmb.2)⟩ hAtf hAtm x22 (I 0 0) 6 _) (cwV 3 hts gX12_inOf_X12_number rfl rfl rfl hy_X12_number ⟨Nat.le_of_ble_eq_true rfl, Nat.le_of_ble_eq_true rfl⟩) (z_preV (i := 0) hK hW rfl rfl) rfl rfl hl.1 rfl (lv_room (Nat.le_of_ble_eq_true rfl)) dX12_inOf_206 ⟨Nat.le_of_ble_eq_true rfl, Nat.le_of_ble_eq_true rfl⟩) (fun r u1 H locs hp hW hS => ?_)
              rw [hp] at hW
              refine lv_topi (fun x24 ex24 => ?_)
              refine lv_i2l (v := x24.toInt64) hx hb dX12_inOf_209 rfl ?_
              refine lv_topl (fun w25 ew25 => ?_)
              refine lv_aload_n hx hb dX12_inOf_210 rfl (lv_at hl 3 rfl) ?_
              refine z_get (T := TX12) (N := 96) (ci := 12) (i := 0) (v := .ref (ad 49)) hx hb hts zj_X12_inOf_X12 hown hK hW rfl rfl 72 (by decide) (hts (.fieldLink RX12 163 "PetrolBoardModel" "dipDay" "[I") (me_s (me_l (me_l (List.mem_of_getElem? (i := 9) rfl))))) (fun _ h => h) rfl dX12_inOf_211 ?_
              refine lv_iload_n hx hb dX12_inOf_214 rfl (lv_at hl 2 rfl) ?_
              refine lv_iconst (v := 1) hx hb dX12_inOf_215 (by decide) ?_
              refine lv_iadd hx hb dX12_inOf_216 ?_
              refine lv_topi (fun x26 ex26 => ?_)
              have tx26 : x26.toInt = x2.toInt + 1 := z_tadd ex26 rfl z_l1 (by omega) (by omega)
              refine z_iald (i := 49) hx hb hK hW rfl (z_ix rfl (by omega) (by omega)) dX12_inOf_217 ?_
              refine lv_topi (fun x27 ex27 => ?_)
              refine lv_aload_n hx hb dX12_inOf_218 rfl (lv_at hl 3 rfl) ?_
              refine z_get (T := TX12) (N := 96) (ci := 12) (i := 0) (v := .ref (ad 49)) hx hb hts zj_X12_inOf_X12 hown hK hW rfl rfl 72 (by decide) (hts (.fieldLink RX12 163 "PetrolBoardModel" "dipDay" "[I") (me_s (me_l (me_l (List.mem_of_getElem? (i := 9) rfl))))) (fun _ h => h) rfl dX12_inOf_219 ?_
              refine lv_iload_n hx hb dX12_inOf_222 rfl (lv_at hl 2 rfl) ?_
              refine z_iald (i := 49) hx hb hK hW rfl (z_ix rfl (by omega) (by omega)) dX12_inOf_223 ?_
              refine z_topi (v := x21) ex21.symm ?_
              refine lv_isub hx hb dX12_inOf_224 ?_
              refine lv_topi (fun x28 ex28 => ?_)
              refine lv_i2l (v := x28.toInt64) hx hb dX12_inOf_225 rfl ?_
              refine lv_topl (fun w29 ew29 => ?_)
              refine lv_lmul hx hb dX12_inOf_226 ?_
              refine lv_topl (fun w30 ew30 => ?_)
              refine lv_lsub hx hb dX12_inOf_227 ?_
              refine lv_topl (fun w31 ew31 => ?_)
              exact z_lret hx hb hr hK hS (Nat.le_of_ble_eq_true rfl) (Nat.le_of_ble_eq_true rfl) hlocks dX12_inOf_228 (shM, ad, I, J, PM ad) hW rfl
            · have g32 := z_f_nge rfl rfl c18
              have b33 := Int32.toInt_lt y15
              refine lv_aload_n hx hb dX12_inOf_97 rfl (lv_at hl 3 rfl) ?_
              refine z_get (T := TX12) (N := 96) (ci := 12) (i := 0) (v := .ref (ad 40)) hx hb hts zj_X12_inOf_X12 hown hK hW rfl rfl 63 (by decide) (hts (.fieldLink RX12 136 "PetrolBoardModel" "pourJudged" "[I") (me_s (me_l (me_l (List.mem_of_getElem? (i := 5) rfl))))) (fun _ h => h) rfl dX12_inOf_98 ?_
              refine lv_iload hx hb dX12_inOf_101 (lv_at hl 0 rfl) ?_
              refine z_iald (i := 40) hx hb hK hW rfl (z_ix rfl (by omega) (by omega)) dX12_inOf_103 ?_
              refine lv_topi (fun x34 ex34 => ?_)
              refine lv_istore (lv' := [(7, .int x34), (6, .int y15), (4, .long w16), (3, .int x2), (0, .ref (ad 0)), (1, .int a1), (2, .int a2)]) hx hb dX12_inOf_104 hl (by decide) rfl (fun ls hl => ?_)
              refine lv_aload_n hx hb dX12_inOf_106 rfl (lv_at hl 4 rfl) ?_
              refine z_get (T := TX12) (N := 96) (ci := 12) (i := 0) (v := .ref (ad 34)) hx hb hts zj_X12_inOf_X12 hown hK hW rfl rfl 57 (by decide) (hts (.fieldLink RX12 118 "PetrolBoardModel" "pourAt" "[I") (me_s (me_l (me_l (List.mem_of_getElem? (i := 6) rfl))))) (fun _ h => h) rfl dX12_inOf_107 ?_
              refine lv_iload hx hb dX12_inOf_110 (lv_at hl 1 rfl) ?_
              refine z_iald (i := 34) hx hb hK hW rfl (z_ix rfl (by omega) (by omega)) dX12_inOf_112 ?_
              refine lv_topi (fun x35 ex35 => ?_)
              refine lv_iload_n hx hb dX12_inOf_113 rfl (lv_at hl 5 rfl) ?_
              refine lv_icmp_ne (tgt := 182) hx hb dX12_inOf_114 (by decide) (fun c36 => ?_) (fun c36 => ?_)
              · have g37 := z_f_ne rfl rfl c36
                have b38 := Int32.toInt_lt x35
                obtain ⟨x39, ex39⟩ : ∃ y : Int32, y = y15 + 1 := ⟨_, rfl⟩
                have tx39 : x39.toInt = y15.toInt + 1 := z_tadd ex39 rfl z_l1 (by omega) (by omega)
                refine lv_iinc (v := x39) (lv' := [(6, .int x39), (7, .int x34), (4, .long w16), (3, .int x2), (0, .ref (ad 0)), (1, .int a1), (2, .int a2)]) hx hb dX12_inOf_182 hl (k := 1) rfl (by rw [ex39]; rfl) (by decide) rfl (fun ls hl => ?_)
                refine lv_goto (tgt := 88) hx hb dX12_inOf_185 (by decide) ?_
                exact lp14ih x39 w16 _ _ _ (by omega) (by omega) hW hS (lv_sub hl [0, 2, 3, 4, 5, 6] rfl)
              · have g40 := z_f_eq rfl rfl c36
                have b41 := Int32.toInt_lt x35
                refine lv_aload_n hx hb dX12_inOf_117 rfl (lv_at hl 4 rfl) ?_
                refine z_get (T := TX12) (N := 96) (ci := 12) (i := 0) (v := .ref (ad 41)) hx hb hts zj_X12_inOf_X12 hown hK hW rfl rfl 64 (by decide) (hts (.fieldLink RX12 139 "PetrolBoardModel" "pourCome" "[I") (me_s (me_l (me_l (List.mem_of_getElem? (i := 7) rfl))))) (fun _ h => h) rfl dX12_inOf_118 ?_
                refine lv_iload hx hb dX12_inOf_121 (lv_at hl 1 rfl) ?_
                refine z_iald (i := 41) hx hb hK hW rfl (z_ix rfl (by omega) (by omega)) dX12_inOf_123 ?_
                refine lv_topi (fun x42 ex42 => ?_)
                refine lv_aload_n hx hb dX12_inOf_124 rfl (lv_at hl 4 rfl) ?_
                refine z_get (T := TX12) (N := 96) (ci := 12) (i := 0) (v := .ref (ad 50)) hx hb hts zj_X12_inOf_X12 hown hK hW rfl rfl 73 (by decide) (hts (.fieldLink RX12 166 "PetrolBoardModel" "dipCome" "[I") (me_s (me_l (me_l (List.mem_of_getElem? (i := 2) rfl))))) (fun _ h => h) rfl dX12_inOf_125 ?_
                refine lv_iload_n hx hb dX12_inOf_128 rfl (lv_at hl 3 rfl) ?_
                refine z_iald (i := 50) hx hb hK hW rfl (z_ix rfl (by omega) (by omega)) dX12_inOf_129 ?_
                refine lv_topi (fun x43 ex43 => ?_)
                refine lv_icmp_le (tgt := 182) hx hb dX12_inOf_130 (by decide) (fun c44 => ?_) (fun c44 => ?_)
                · have g45 := z_f_le rfl rfl c44
                  have b46 := Int32.toInt_lt x42
                  have b47 := Int32.toInt_lt x43
                  obtain ⟨x48, ex48⟩ : ∃ y : Int32, y = y15 + 1 := ⟨_, rfl⟩
                  have tx48 : x48.toInt = y15.toInt + 1 := z_tadd ex48 rfl z_l1 (by omega) (by omega)
                  refine lv_iinc (v := x48) (lv' := [(6, .int x48), (7, .int x34), (4, .long w16), (3, .int x2), (0, .ref (ad 0)), (1, .int a1), (2, .int a2)]) hx hb dX12_inOf_182 hl (k := 1) rfl (by rw [ex48]; rfl) (by decide) rfl (fun ls hl => ?_)
                  refine lv_goto (tgt := 88) hx hb dX12_inOf_185 (by decide) ?_
                  exact lp14ih x48 w16 _ _ _ (by omega) (by omega) hW hS (lv_sub hl [0, 2, 3, 4, 5, 6] rfl)
                · have g49 := z_f_nle rfl rfl c44
                  have b50 := Int32.toInt_lt x42
                  have b51 := Int32.toInt_lt x43
                  refine lv_aload_n hx hb dX12_inOf_133 rfl (lv_at hl 4 rfl) ?_
                  refine z_get (T := TX12) (N := 96) (ci := 12) (i := 0) (v := .ref (ad 41)) hx hb hts zj_X12_inOf_X12 hown hK hW rfl rfl 64 (by decide) (hts (.fieldLink RX12 139 "PetrolBoardModel" "pourCome" "[I") (me_s (me_l (me_l (List.mem_of_getElem? (i := 7) rfl))))) (fun _ h => h) rfl dX12_inOf_134 ?_
                  refine lv_iload hx hb dX12_inOf_137 (lv_at hl 1 rfl) ?_
                  refine z_iald (i := 41) hx hb hK hW rfl (z_ix rfl (by omega) (by omega)) dX12_inOf_139 ?_
                  refine z_topi (v := x42) ex42.symm ?_
                  refine lv_aload_n hx hb dX12_inOf_140 rfl (lv_at hl 4 rfl) ?_
                  refine z_get (T := TX12) (N := 96) (ci := 12) (i := 0) (v := .ref (ad 50)) hx hb hts zj_X12_inOf_X12 hown hK hW rfl rfl 73 (by decide) (hts (.fieldLink RX12 166 "PetrolBoardModel" "dipCome" "[I") (me_s (me_l (me_l (List.mem_of_getElem? (i := 2) rfl))))) (fun _ h => h) rfl dX12_inOf_141 ?_
                  refine lv_iload_n hx hb dX12_inOf_144 rfl (lv_at hl 3 rfl) ?_
                  refine lv_iconst (v := 1) hx hb dX12_inOf_145 (by decide) ?_
                  refine lv_iadd hx hb dX12_inOf_146 ?_
                  refine lv_topi (fun x52 ex52 => ?_)
                  have tx52 : x52.toInt = x2.toInt + 1 := z_tadd ex52 rfl z_l1 (by omega) (by omega)
                  refine z_iald (i := 50) hx hb hK hW rfl (z_ix rfl (by omega) (by omega)) dX12_inOf_147 ?_
                  refine lv_topi (fun x53 ex53 => ?_)
                  refine lv_icmp_ge (tgt := 182) hx hb dX12_inOf_148 (by decide) (fun c54 => ?_) (fun c54 => ?_)
                  · have g55 := z_f_ge rfl rfl c54
                    have b56 := Int32.toInt_lt x53
                    obtain ⟨x57, ex57⟩ : ∃ y : Int32, y = y15 + 1 := ⟨_, rfl⟩
                    have tx57 : x57.toInt = y15.toInt + 1 := z_tadd ex57 rfl z_l1 (by omega) (by omega)
                    refine lv_iinc (v := x57) (lv' := [(6, .int x57), (7, .int x34), (4, .long w16), (3, .int x2), (0, .ref (ad 0)), (1, .int a1), (2, .int a2)]) hx hb dX12_inOf_182 hl (k := 1) rfl (by rw [ex57]; rfl) (by decide) rfl (fun ls hl => ?_)
                    refine lv_goto (tgt := 88) hx hb dX12_inOf_185 (by decide) ?_
                    exact lp14ih x57 w16 _ _ _ (by omega) (by omega) hW hS (lv_sub hl [0, 2, 3, 4, 5, 6] rfl)
                  · have g58 := z_f_nge rfl rfl c54
                    have b59 := Int32.toInt_lt x53
                    refine lv_iload hx hb dX12_inOf_151 (lv_at hl 0 rfl) ?_
                    refine lv_iconst (v := 1) hx hb dX12_inOf_153 (by decide) ?_
                    refine lv_icmp_eq (tgt := 182) hx hb dX12_inOf_154 (by decide) (fun c60 => ?_) (fun c60 => ?_)
                    · have g61 := z_f_eq rfl z_l1 c60
                      have b62 := Int32.toInt_lt x34
                      obtain ⟨x63, ex63⟩ : ∃ y : Int32, y = y15 + 1 := ⟨_, rfl⟩
                      have tx63 : x63.toInt = y15.toInt + 1 := z_tadd ex63 rfl z_l1 (by omega) (by omega)
                      refine lv_iinc (v := x63) (lv' := [(6, .int x63), (7, .int x34), (4, .long w16), (3, .int x2), (0, .ref (ad 0)), (1, .int a1), (2, .int a2)]) hx hb dX12_inOf_182 hl (k := 1) rfl (by rw [ex63]; rfl) (by decide) rfl (fun ls hl => ?_)
                      refine lv_goto (tgt := 88) hx hb dX12_inOf_185 (by decide) ?_
                      exact lp14ih x63 w16 _ _ _ (by omega) (by omega) hW hS (lv_sub hl [0, 2, 3, 4, 5, 6] rfl)
                    · have g64 := z_f_ne rfl z_l1 c60
                      have b65 := Int32.toInt_lt x34
                      refine lv_iload hx hb dX12_inOf_157 (lv_at hl 0 rfl) ?_
                      refine lv_iconst (v := 2) hx hb dX12_inOf_159 (by decide) ?_
                      refine lv_icmp_eq (tgt := 182) hx hb dX12_inOf_160 (by decide) (fun c66 => ?_) (fun c66 => ?_)
                      · have g67 := z_f_eq rfl z_l2 c66
                        obtain ⟨x68, ex68⟩ : ∃ y : Int32, y = y15 + 1 := ⟨_, rfl⟩
                        have tx68 : x68.toInt = y15.toInt + 1 := z_tadd ex68 rfl z_l1 (by omega) (by omega)
                        refine lv_iinc (v := x68) (lv' := [(6, .int x68), (7, .int x34), (4, .long w16), (3, .int x2), (0, .ref (ad 0)), (1, .int a1), (2, .int a2)]) hx hb dX12_inOf_182 hl (k := 1) rfl (by rw [ex68]; rfl) (by decide) rfl (fun ls hl => ?_)
                        refine lv_goto (tgt := 88) hx hb dX12_inOf_185 (by decide) ?_
                        exact lp14ih x68 w16 _ _ _ (by omega) (by omega) hW hS (lv_sub hl [0, 2, 3, 4, 5, 6] rfl)
                      · have g69 := z_f_ne rfl z_l2 c66
                        refine lv_iload hx hb dX12_inOf_163 (lv_at hl 0 rfl) ?_
                        refine lv_iconst (v := 4) hx hb dX12_inOf_165 (by decide) ?_
                        refine lv_icmp_eq (tgt := 182) hx hb dX12_inOf_166 (by decide) (fun c70 => ?_) (fun c70 => ?_)
                        · have g71 := z_f_eq rfl z_l4 c70
                          obtain ⟨x72, ex72⟩ : ∃ y : Int32, y = y15 + 1 := ⟨_, rfl⟩
                          have tx72 : x72.toInt = y15.toInt + 1 := z_tadd ex72 rfl z_l1 (by omega) (by omega)
                          refine lv_iinc (v := x72) (lv' := [(6, .int x72), (7, .int x34), (4, .long w16), (3, .int x2), (0, .ref (ad 0)), (1, .int a1), (2, .int a2)]) hx hb dX12_inOf_182 hl (k := 1) rfl (by rw [ex72]; rfl) (by decide) rfl (fun ls hl => ?_)
                          refine lv_goto (tgt := 88) hx hb dX12_inOf_185 (by decide) ?_
                          exact lp14ih x72 w16 _ _ _ (by omega) (by omega) hW hS (lv_sub hl [0, 2, 3, 4, 5, 6] rfl)
                        · have g73 := z_f_ne rfl z_l4 c70
                          refine lv_lload hx hb dX12_inOf_169 (lv_at hl 2 rfl) ?_
                          refine lv_aload_n hx hb dX12_inOf_171 rfl (lv_at hl 4 rfl) ?_
                          refine z_get (T := TX12) (N := 96) (ci := 12) (i := 0) (v := .ref (ad 38)) hx hb hts zj_X12_inOf_X12 hown hK hW rfl rfl 61 (by decide) (hts (.fieldLink RX12 130 "PetrolBoardModel" "pourTenths" "[I") (me_s (me_l (me_l (List.mem_of_getElem? (i := 8) rfl))))) (fun _ h => h) rfl dX12_inOf_172 ?_
                          refine lv_iload hx hb dX12_inOf_175 (lv_at hl 1 rfl) ?_
                          refine z_iald (i := 38) hx hb hK hW rfl (z_ix rfl (by omega) (by omega)) dX12_inOf_177 ?_
                          refine lv_topi (fun x74 ex74 => ?_)
                          refine lv_i2l (v := x74.toInt64) hx hb dX12_inOf_178 rfl ?_
                          refine lv_topl (fun w75 ew75 => ?_)
                          refine lv_lsub hx hb dX12_inOf_179 ?_
                          refine lv_topl (fun w76 ew76 => ?_)
                          refine lv_lstore (lv' := [(4, .long w76), (7, .int x34), (6, .int y15), (3, .int x2), (0, .ref (ad 0)), (1, .int a1), (2, .int a2)]) hx hb dX12_inOf_180 hl (by decide) rfl (fun ls hl => ?_)
                          obtain ⟨x77, ex77⟩ : ∃ y : Int32, y = y15 + 1 := ⟨_, rfl⟩
                          have tx77 : x77.toInt = y15.toInt + 1 := z_tadd ex77 rfl z_l1 (by omega) (by omega)
                          refine lv_iinc (v := x77) (lv' := [(6, .int x77), (4, .long w76), (7, .int x34), (3, .int x2), (0, .ref (ad 0)), (1, .int a1), (2, .int a2)]) hx hb dX12_inOf_182 hl (k := 2) rfl (by rw [ex77]; rfl) (by decide) rfl (fun ls hl => ?_)
                          refine lv_goto (tgt := 88) hx hb dX12_inOf_185 (by decide) ?_
                          exact lp14ih x77 w76 _ _ _ (by omega) (by omega) hW hS (lv_sub hl [0, 1, 3, 4, 5, 6] rfl)
        exact lp14 4294967296 (0) w6 _ _ _ (z_m0u _) (by rw [z_l0]; omega) hW hS (lv_sub hl [0, 1, 2, 3, 4, 5] rfl)
      · have g78 := z_f_nge rfl rfl c11
        have b79 := Int32.toInt_lt y5
        refine lv_aload_n hx hb dX12_inOf_32 rfl (lv_at hl 3 rfl) ?_
        refine z_get (T := TX12) (N := 96) (ci := 12) (i := 0) (v := .ref (ad 46)) hx hb hts zj_X12_inOf_X12 hown hK hW rfl rfl 69 (by decide) (hts (.fieldLink RX12 154 "PetrolBoardModel" "givenCome" "[I") (me_s (me_l (me_l (List.mem_of_getElem? (i := 1) rfl))))) (fun _ h => h) rfl dX12_inOf_33 ?_
        refine lv_iload hx hb dX12_inOf_36 (lv_at hl 0 rfl) ?_
        refine z_iald (i := 46) hx hb hK hW rfl (z_ix rfl (by omega) (by omega)) dX12_inOf_38 ?_
        refine lv_topi (fun x80 ex80 => ?_)
        refine lv_aload_n hx hb dX12_inOf_39 rfl (lv_at hl 3 rfl) ?_
        refine z_get (T := TX12) (N := 96) (ci := 12) (i := 0) (v := .ref (ad 50)) hx hb hts zj_X12_inOf_X12 hown hK hW rfl rfl 73 (by decide) (hts (.fieldLink RX12 166 "PetrolBoardModel" "dipCome" "[I") (me_s (me_l (me_l (List.mem_of_getElem? (i := 2) rfl))))) (fun _ h => h) rfl dX12_inOf_40 ?_
        refine lv_iload_n hx hb dX12_inOf_43 rfl (lv_at hl 2 rfl) ?_
        refine z_iald (i := 50) hx hb hK hW rfl (z_ix rfl (by omega) (by omega)) dX12_inOf_44 ?_
        refine lv_topi (fun x81 ex81 => ?_)
        refine lv_icmp_le (tgt := 79) hx hb dX12_inOf_45 (by decide) (fun c82 => ?_) (fun c82 => ?_)
        · have g83 := z_f_le rfl rfl c82
          have b84 := Int32.toInt_lt x80
          have b85 := Int32.toInt_lt x81
          obtain ⟨x86, ex86⟩ : ∃ y : Int32, y = y5 + 1 := ⟨_, rfl⟩
          have tx86 : x86.toInt = y5.toInt + 1 := z_tadd ex86 rfl z_l1 (by omega) (by omega)
          refine lv_iinc (v := x86) (lv' := [(6, .int x86), (4, .long w6), (3, .int x2), (0, .ref (ad 0)), (1, .int a1), (2, .int a2)]) hx hb dX12_inOf_79 hl (k := 0) rfl (by rw [ex86]; rfl) (by decide) rfl (fun ls hl => ?_)
          refine lv_goto (tgt := 16) hx hb dX12_inOf_82 (by decide) ?_
          exact lp4ih x86 w6 _ _ _ (by omega) (by omega) (by omega) hW hS (lv_sub hl [0, 1, 2, 3, 4, 5] rfl)
        · have g87 := z_f_nle rfl rfl c82
          have b88 := Int32.toInt_lt x80
          have b89 := Int32.toInt_lt x81
          refine lv_aload_n hx hb dX12_inOf_48 rfl (lv_at hl 3 rfl) ?_
          refine z_get (T := TX12) (N := 96) (ci := 12) (i := 0) (v := .ref (ad 46)) hx hb hts zj_X12_inOf_X12 hown hK hW rfl rfl 69 (by decide) (hts (.fieldLink RX12 154 "PetrolBoardModel" "givenCome" "[I") (me_s (me_l (me_l (List.mem_of_getElem? (i := 1) rfl))))) (fun _ h => h) rfl dX12_inOf_49 ?_
          refine lv_iload hx hb dX12_inOf_52 (lv_at hl 0 rfl) ?_
          refine z_iald (i := 46) hx hb hK hW rfl (z_ix rfl (by omega) (by omega)) dX12_inOf_54 ?_
          refine z_topi (v := x80) ex80.symm ?_
          refine lv_aload_n hx hb dX12_inOf_55 rfl (lv_at hl 3 rfl) ?_
          refine z_get (T := TX12) (N := 96) (ci := 12) (i := 0) (v := .ref (ad 50)) hx hb hts zj_X12_inOf_X12 hown hK hW rfl rfl 73 (by decide) (hts (.fieldLink RX12 166 "PetrolBoardModel" "dipCome" "[I") (me_s (me_l (me_l (List.mem_of_getElem? (i := 2) rfl))))) (fun _ h => h) rfl dX12_inOf_56 ?_
          refine lv_iload_n hx hb dX12_inOf_59 rfl (lv_at hl 2 rfl) ?_
          refine lv_iconst (v := 1) hx hb dX12_inOf_60 (by decide) ?_
          refine lv_iadd hx hb dX12_inOf_61 ?_
          refine lv_topi (fun x90 ex90 => ?_)
          have tx90 : x90.toInt = x2.toInt + 1 := z_tadd ex90 rfl z_l1 (by omega) (by omega)
          refine z_iald (i := 50) hx hb hK hW rfl (z_ix rfl (by omega) (by omega)) dX12_inOf_62 ?_
          refine lv_topi (fun x91 ex91 => ?_)
          refine lv_icmp_ge (tgt := 79) hx hb dX12_inOf_63 (by decide) (fun c92 => ?_) (fun c92 => ?_)
          · have g93 := z_f_ge rfl rfl c92
            have b94 := Int32.toInt_lt x91
            obtain ⟨x95, ex95⟩ : ∃ y : Int32, y = y5 + 1 := ⟨_, rfl⟩
            have tx95 : x95.toInt = y5.toInt + 1 := z_tadd ex95 rfl z_l1 (by omega) (by omega)
            refine lv_iinc (v := x95) (lv' := [(6, .int x95), (4, .long w6), (3, .int x2), (0, .ref (ad 0)), (1, .int a1), (2, .int a2)]) hx hb dX12_inOf_79 hl (k := 0) rfl (by rw [ex95]; rfl) (by decide) rfl (fun ls hl => ?_)
            refine lv_goto (tgt := 16) hx hb dX12_inOf_82 (by decide) ?_
            exact lp4ih x95 w6 _ _ _ (by omega) (by omega) (by omega) hW hS (lv_sub hl [0, 1, 2, 3, 4, 5] rfl)
          · have g96 := z_f_nge rfl rfl c92
            have b97 := Int32.toInt_lt x91
            refine lv_lload hx hb dX12_inOf_66 (lv_at hl 1 rfl) ?_
            refine lv_aload_n hx hb dX12_inOf_68 rfl (lv_at hl 3 rfl) ?_
            refine z_get (T := TX12) (N := 96) (ci := 12) (i := 0) (v := .ref (ad 45)) hx hb hts zj_X12_inOf_X12 hown hK hW rfl rfl 68 (by decide) (hts (.fieldLink RX12 151 "PetrolBoardModel" "given" "[I") (me_s (me_l (me_l (List.mem_of_getElem? (i := 3) rfl))))) (fun _ h => h) rfl dX12_inOf_69 ?_
            refine lv_iload hx hb dX12_inOf_72 (lv_at hl 0 rfl) ?_
            refine z_iald (i := 45) hx hb hK hW rfl (z_ix rfl (by omega) (by omega)) dX12_inOf_74 ?_
            refine lv_topi (fun x98 ex98 => ?_)
            refine lv_i2l (v := x98.toInt64) hx hb dX12_inOf_75 rfl ?_
            refine lv_topl (fun w99 ew99 => ?_)
            refine lv_ladd hx hb dX12_inOf_76 ?_
            refine lv_topl (fun w100 ew100 => ?_)
            refine lv_lstore (lv' := [(4, .long w100), (6, .int y5), (3, .int x2), (0, .ref (ad 0)), (1, .int a1), (2, .int a2)]) hx hb dX12_inOf_77 hl (by decide) rfl (fun ls hl => ?_)
            obtain ⟨x101, ex101⟩ : ∃ y : Int32, y = y5 + 1 := ⟨_, rfl⟩
            have tx101 : x101.toInt = y5.toInt + 1 := z_tadd ex101 rfl z_l1 (by omega) (by omega)
            refine lv_iinc (v := x101) (lv' := [(6, .int x101), (4, .long w100), (3, .int x2), (0, .ref (ad 0)), (1, .int a1), (2, .int a2)]) hx hb dX12_inOf_79 hl (k := 1) rfl (by rw [ex101]; rfl) (by decide) rfl (fun ls hl => ?_)
            refine lv_goto (tgt := 16) hx hb dX12_inOf_82 (by decide) ?_
            exact lp4ih x101 w100 _ _ _ (by omega) (by omega) (by omega) hW hS (lv_sub hl [0, 1, 2, 3, 4, 5] rfl)
  exact lp4 4294967296 x3 0 _ _ _ (z_m0u _) (by omega) (by omega) hW hS (lv_sub hl [0, 1, 2, 3, 4, 5] rfl)
theorem zj_X12_in_X12 : ∀ w ∈ wsX120, w ∈ wsX12_in := fun w h => (List.mem_cons_of_mem _ (List.mem_append_right _ h))
set_option maxHeartbeats 8000000 in
set_option maxRecDepth 100000 in
theorem sx_X12_in (l : Launch) (G : z_G) (ad : Nat → Nat) (I : z_I) (J : z_J) (hms : z_ims I) (hma : z_ima I) (hAgm : z_rg 43 0 30 I) (hAdm : z_rg 47 0 30 I) (hmb : z_imb I) (hAtf : z_rg 11 0 288 I) (hAtm : z_rg 12 0 24 I) (a1 : Int32) (a2 : Int32) : z_M l yX12_in wsX12_in { frames := 4, cells := 0, slots := 0, locals := 89 } [.ref (ad 0), .int a1, .int a2] G (shM, ad, I, J, PM ad) (fun r u1 => u1 = (shM, ad, I, J, PM ad)) 0 0 := by
  intro sz
  refine z_headQ (cc := cX12_in) (maxL := 3) (ret := (some .int)) (by decide) rfl (Nat.le_of_ble_eq_true rfl) ?_
  intro p e s m below meth c0 ls hIn hK hsz hW hl
  obtain ⟨hx, hb, hr, hml, hown, hts, hlocks, hname⟩ := hIn
  subst hsz
  have hown : s.vm.findClass RX12 = some m.cls := hown
  have hA : ∀ q : Nat, s.heap.size ≤ q → z_A (shM, ad, I, J, PM ad) s.heap.size q := fun q h => Or.inr h
  generalize hAe : z_A (shM, ad, I, J, PM ad) s.heap.size = A at *
  have hS : va_S A s.heap s.heap [] := va_S.rf
  have hl : lv_has ls 3 [(0, .ref (ad 0)), (1, .int a1), (2, .int a2)] := hl
  refine lv_aload_n hx hb dX12_in_0 rfl (lv_at hl 0 rfl) ?_
  refine lv_iload_n hx hb dX12_in_1 rfl (lv_at hl 1 rfl) ?_
  refine z_ci hW hS hA (va_runV (As := [.int a1]) (rest := []) ⟨hx, hb, hml, hown, hts⟩ (sx_X12_isStation l G ad I J ⟨(by show 0 ≤ (I 0 54).toInt ∧ (I 0 54).toInt ≤ 10; exact hms.1), (by show 0 ≤ (I 0 55).toInt ∧ (I 0 55).toInt ≤ 300; exact hms.2)⟩ a1 _) (cwV 1 hts gX12_in_X12_isStation rfl rfl rfl hy_X12_isStation ⟨Nat.le_of_ble_eq_true rfl, Nat.le_of_ble_eq_true rfl⟩) (z_preV (i := 0) hK hW rfl rfl) rfl rfl hl.1 rfl (lv_room (Nat.le_of_ble_eq_true rfl)) dX12_in_2 ⟨Nat.le_of_ble_eq_true rfl, Nat.le_of_ble_eq_true rfl⟩) (fun r u1 H locs hp hW hS => ?_)
  obtain ⟨e9, hp⟩ := hp
  rw [e9] at hW
  rcases hp with ⟨rfl, h1, h2⟩ | rfl
  · refine lv_if_eq (tgt := 34) hx hb dX12_in_5 (by decide) (fun c3 => absurd c3 (by decide)) (fun c3 => ?_)
    refine lv_iload_n hx hb dX12_in_8 rfl (lv_at hl 2 rfl) ?_
    refine lv_if_lt (tgt := 34) hx hb dX12_in_9 (by decide) (fun c4 => ?_) (fun c4 => ?_)
    · have g5 := z_f_lt rfl z_l0 c4
      have b6 := Int32.toInt_lt a2
      refine lv_ldcw (v := (-2000000000)) hx hb hown (hts (.constant RX12 482 (-2000000000)) (me_s (me_l (me_l (List.mem_of_getElem? (i := 1) rfl))))) dX12_in_34 ?_
      exact z_iret hx hb hr hK hS (Nat.le_of_ble_eq_true rfl) (Nat.le_of_ble_eq_true rfl) hlocks dX12_in_37 (shM, ad, I, J, PM ad) hW rfl
    · have g7 := z_f_nlt rfl z_l0 c4
      have b8 := Int32.toInt_lt a2
      refine lv_iload_n hx hb dX12_in_12 rfl (lv_at hl 2 rfl) ?_
      refine lv_aload_n hx hb dX12_in_13 rfl (lv_at hl 0 rfl) ?_
      refine z_get (T := TX12) (N := 96) (ci := 12) (i := 0) (v := .ref (ad 47)) hx hb hts zj_X12_in_X12 hown hK hW rfl rfl 70 (by decide) (hts (.fieldLink RX12 157 "PetrolBoardModel" "dipMany" "[I") (me_s (me_l (me_l (List.mem_of_getElem? (i := 0) rfl))))) (fun _ h => h) rfl dX12_in_14 ?_
      refine lv_iload_n hx hb dX12_in_17 rfl (lv_at hl 1 rfl) ?_
      refine z_iald (i := 47) hx hb hK hW rfl (z_ix rfl (by omega) (by omega)) dX12_in_18 ?_
      refine lv_topi (fun x9 ex9 => ?_)
      have h11 : 0 ≤ x9.toInt ∧ x9.toInt ≤ 30 := by rw [ex9]; exact hAdm _
      refine lv_iconst (v := 1) hx hb dX12_in_19 (by decide) ?_
      refine lv_isub hx hb dX12_in_20 ?_
      refine lv_topi (fun x12 ex12 => ?_)
      have tx12 : x12.toInt = x9.toInt - 1 := z_tsub ex12 rfl z_l1 (by omega) (by omega)
      refine lv_icmp_ge (tgt := 34) hx hb dX12_in_21 (by decide) (fun c13 => ?_) (fun c13 => ?_)
      · have g14 := z_f_ge rfl rfl c13
        refine lv_ldcw (v := (-2000000000)) hx hb hown (hts (.constant RX12 482 (-2000000000)) (me_s (me_l (me_l (List.mem_of_getElem? (i := 1) rfl))))) dX12_in_34 ?_
        exact z_iret hx hb hr hK hS (Nat.le_of_ble_eq_true rfl) (Nat.le_of_ble_eq_true rfl) hlocks dX12_in_37 (shM, ad, I, J, PM ad) hW rfl
      · have g15 := z_f_nge rfl rfl c13
        refine lv_aload_n hx hb dX12_in_24 rfl (lv_at hl 0 rfl) ?_
        refine lv_iload_n hx hb dX12_in_25 rfl (lv_at hl 1 rfl) ?_
        refine lv_iload_n hx hb dX12_in_26 rfl (lv_at hl 2 rfl) ?_
        refine z_cl hW hS hA (va_runV (As := [.int a1, .int a2]) (rest := []) ⟨hx, hb, hml, hown, hts⟩ (sx_X12_inOf l G ad I J ⟨(by show 0 ≤ (I 0 54).toInt ∧ (I 0 54).toInt ≤ 10; exact hms.1), (by show 0 ≤ (I 0 55).toInt ∧ (I 0 55).toInt ≤ 300; exact hms.2)⟩ ⟨(by show 0 ≤ (I 0 0).toInt ∧ (I 0 0).toInt ≤ 719; exact hma.1), (by show 0 ≤ (I 0 1).toInt ∧ (I 0 1).toInt ≤ 30; exact hma.2.1), (by show 0 ≤ (I 0 2).toInt ∧ (I 0 2).toInt ≤ 200; exact hma.2.2)⟩ hAgm ⟨(by show 0 ≤ (I 0 13).toInt ∧ (I 0 13).toInt ≤ 12; exact hmb.1), (by show 0 ≤ (I 0 14).toInt ∧ (I 0 14).toInt ≤ 288; exact hmb.2)⟩ hAtf hAtm a1 a2 (by omega) (by omega) _) (cwV 2 hts gX12_in_X12_inOf rfl rfl rfl hy_X12_inOf ⟨Nat.le_of_ble_eq_true rfl, Nat.le_of_ble_eq_true rfl⟩) (z_preV (i := 0) hK hW rfl rfl) rfl rfl hl.1 rfl (lv_room (Nat.le_of_ble_eq_true rfl)) dX12_in_27 ⟨Nat.le_of_ble_eq_true rfl, Nat.le_of_ble_eq_true rfl⟩) (fun r u1 H locs hp hW hS => ?_)
        rw [hp] at hW
        refine lv_topl (fun x16 ex16 => ?_)
        refine lv_l2i (v := x16.toInt32) hx hb dX12_in_30 rfl ?_
        refine lv_topi (fun x17 ex17 => ?_)
        refine lv_goto (tgt := 37) hx hb dX12_in_31 (by decide) ?_
        exact z_iret hx hb hr hK hS (Nat.le_of_ble_eq_true rfl) (Nat.le_of_ble_eq_true rfl) hlocks dX12_in_37 (shM, ad, I, J, PM ad) hW rfl
  · refine lv_if_eq (tgt := 34) hx hb dX12_in_5 (by decide) (fun c18 => ?_) (fun c18 => absurd (by decide) c18)
    refine lv_ldcw (v := (-2000000000)) hx hb hown (hts (.constant RX12 482 (-2000000000)) (me_s (me_l (me_l (List.mem_of_getElem? (i := 1) rfl))))) dX12_in_34 ?_
    exact z_iret hx hb hr hK hS (Nat.le_of_ble_eq_true rfl) (Nat.le_of_ble_eq_true rfl) hlocks dX12_in_37 (shM, ad, I, J, PM ad) hW rfl
theorem zj_X12_lowOf_X12 : ∀ w ∈ wsX120, w ∈ wsX12_lowOf := fun w h => (List.mem_cons_of_mem _ (List.mem_append_right _ h))
set_option maxHeartbeats 8000000 in
set_option maxRecDepth 100000 in
theorem sx_X12_lowOf (l : Launch) (G : z_G) (ad : Nat → Nat) (I : z_I) (J : z_J) (hma : z_ima I) (hmb : z_imb I) (hAtf : z_rg 11 0 288 I) (hAtm : z_rg 12 0 24 I) (a1 : Int32) (q1 : 0 ≤ a1.toInt ∧ a1.toInt ≤ 299) : z_Ml l yX12_lowOf wsX12_lowOf { frames := 3, cells := 0, slots := 0, locals := 62 } [.ref (ad 0), .int a1] G (shM, ad, I, J, PM ad) (fun r u1 => u1 = (shM, ad, I, J, PM ad)) 0 0 := by
  intro sz
  refine z_headQ (cc := cX12_lowOf) (maxL := 4) (ret := (some .long)) (by decide) rfl (Nat.le_of_ble_eq_true rfl) ?_
  intro p e s m below meth c0 ls hIn hK hsz hW hl
  obtain ⟨hx, hb, hr, hml, hown, hts, hlocks, hname⟩ := hIn
  subst hsz
  have hown : s.vm.findClass RX12 = some m.cls := hown
  have hA : ∀ q : Nat, s.heap.size ≤ q → z_A (shM, ad, I, J, PM ad) s.heap.size q := fun q h => Or.inr h
  generalize hAe : z_A (shM, ad, I, J, PM ad) s.heap.size = A at *
  have hS : va_S A s.heap s.heap [] := va_S.rf
  have hl : lv_has ls 4 [(0, .ref (ad 0)), (1, .int a1)] := hl
  refine lv_aload_n hx hb dX12_lowOf_0 rfl (lv_at hl 0 rfl) ?_
  refine z_get (T := TX12) (N := 96) (ci := 12) (i := 0) (v := .ref (ad 48)) hx hb hts zj_X12_lowOf_X12 hown hK hW rfl rfl 71 (by decide) (hts (.fieldLink RX12 160 "PetrolBoardModel" "dipTold" "[I") (me_s (me_l (List.mem_of_getElem? (i := 0) rfl)))) (fun _ h => h) rfl dX12_lowOf_1 ?_
  refine lv_iload_n hx hb dX12_lowOf_4 rfl (lv_at hl 1 rfl) ?_
  refine z_iald (i := 48) hx hb hK hW rfl (z_ix rfl (by omega) (by omega)) dX12_lowOf_5 ?_
  refine lv_topi (fun x1 ex1 => ?_)
  refine lv_i2l (v := x1.toInt64) hx hb dX12_lowOf_6 rfl ?_
  refine lv_topl (fun w2 ew2 => ?_)
  refine lv_aload_n hx hb dX12_lowOf_7 rfl (lv_at hl 0 rfl) ?_
  refine lv_aload_n hx hb dX12_lowOf_8 rfl (lv_at hl 0 rfl) ?_
  refine z_get (T := TX12) (N := 96) (ci := 12) (i := 0) (v := .ref (ad 49)) hx hb hts zj_X12_lowOf_X12 hown hK hW rfl rfl 72 (by decide) (hts (.fieldLink RX12 163 "PetrolBoardModel" "dipDay" "[I") (me_s (me_l (List.mem_of_getElem? (i := 1) rfl)))) (fun _ h => h) rfl dX12_lowOf_9 ?_
  refine lv_iload_n hx hb dX12_lowOf_12 rfl (lv_at hl 1 rfl) ?_
  refine z_iald (i := 49) hx hb hK hW rfl (z_ix rfl (by omega) (by omega)) dX12_lowOf_13 ?_
  refine lv_topi (fun x3 ex3 => ?_)
  refine lv_bipush (v := 30) hx hb dX12_lowOf_14 (by decide) ?_
  refine lv_idiv hx hb dX12_lowOf_16 (by decide) ?_
  refine lv_topi (fun x4 ex4 => ?_)
  have tx4 := z_tdiv ex4 rfl z_l30 (by decide)
  refine lv_aload_n hx hb dX12_lowOf_17 rfl (lv_at hl 0 rfl) ?_
  have r5 : 0 ≤ (I 0 0).toInt ∧ (I 0 0).toInt ≤ 719 := hma.1
  refine z_get (T := TX12) (N := 96) (ci := 12) (i := 0) (v := .int (I 0 0)) hx hb hts zj_X12_lowOf_X12 hown hK hW rfl rfl 0 (by decide) (hts (.fieldLink RX12 232 "PetrolBoardModel" "today" "I") (me_s (me_l (List.mem_of_getElem? (i := 2) rfl)))) (fun _ h => h) rfl dX12_lowOf_18 ?_
  refine lv_bipush (v := 7) hx hb dX12_lowOf_21 (by decide) ?_
  refine z_ci hW hS hA (va_runV (As := [.int x4, .int (I 0 0), .int 7]) (rest := [.long w2]) ⟨hx, hb, hml, hown, hts⟩ (sx_X12_number l G ad I J ⟨(by show 0 ≤ (I 0 13).toInt ∧ (I 0 13).toInt ≤ 12; exact hmb.1), (by show 0 ≤ (I 0 14).toInt ∧ (I 0 14).toInt ≤ 288; exact hmb.2)⟩ hAtf hAtm x4 (I 0 0) 7 _) (cwV 3 hts gX12_lowOf_X12_number rfl rfl rfl hy_X12_number ⟨Nat.le_of_ble_eq_true rfl, Nat.le_of_ble_eq_true rfl⟩) (z_preV (i := 0) hK hW rfl rfl) rfl rfl hl.1 rfl (lv_room (Nat.le_of_ble_eq_true rfl)) dX12_lowOf_23 ⟨Nat.le_of_ble_eq_true rfl, Nat.le_of_ble_eq_true rfl⟩) (fun r u1 H locs hp hW hS => ?_)
  rw [hp] at hW
  refine lv_topi (fun x6 ex6 => ?_)
  refine lv_i2l (v := x6.toInt64) hx hb dX12_lowOf_26 rfl ?_
  refine lv_topl (fun w7 ew7 => ?_)
  refine lv_lsub hx hb dX12_lowOf_27 ?_
  refine lv_topl (fun w8 ew8 => ?_)
  refine lv_lstore_n (lv' := [(2, .long w8), (0, .ref (ad 0)), (1, .int a1)]) hx hb dX12_lowOf_28 rfl hl (by decide) rfl (fun ls hl => ?_)
  refine lv_lload_n hx hb dX12_lowOf_29 rfl (lv_at hl 0 rfl) ?_
  refine lv_lconst (v := 0) hx hb dX12_lowOf_30 (by decide) ?_
  refine W.lcmp hx hb dX12_lowOf_31 ?_
  refine lv_topi (fun x9 ex9 => ?_)
  have tx9 := z_tcmp ex9
  refine lv_if_ge (tgt := 39) hx hb dX12_lowOf_32 (by decide) (fun c10 => ?_) (fun c10 => ?_)
  · have g11 := z_f_ge rfl z_l0 c10
    refine lv_lload_n hx hb dX12_lowOf_39 rfl (lv_at hl 0 rfl) ?_
    exact z_lret hx hb hr hK hS (Nat.le_of_ble_eq_true rfl) (Nat.le_of_ble_eq_true rfl) hlocks dX12_lowOf_40 (shM, ad, I, J, PM ad) hW rfl
  · have g12 := z_f_nge rfl z_l0 c10
    refine lv_lconst (v := 0) hx hb dX12_lowOf_35 (by decide) ?_
    refine lv_goto (tgt := 40) hx hb dX12_lowOf_36 (by decide) ?_
    exact z_lret hx hb hr hK hS (Nat.le_of_ble_eq_true rfl) (Nat.le_of_ble_eq_true rfl) hlocks dX12_lowOf_40 (shM, ad, I, J, PM ad) hW rfl
theorem zj_X12_highOf_X12 : ∀ w ∈ wsX120, w ∈ wsX12_highOf := fun w h => (List.mem_cons_of_mem _ (List.mem_append_right _ h))
set_option maxHeartbeats 8000000 in
set_option maxRecDepth 100000 in
theorem sx_X12_highOf (l : Launch) (G : z_G) (ad : Nat → Nat) (I : z_I) (J : z_J) (hma : z_ima I) (hmb : z_imb I) (hAtf : z_rg 11 0 288 I) (hAtm : z_rg 12 0 24 I) (a1 : Int32) (q1 : 0 ≤ a1.toInt ∧ a1.toInt ≤ 299) : z_Ml l yX12_highOf wsX12_highOf { frames := 3, cells := 0, slots := 0, locals := 62 } [.ref (ad 0), .int a1] G (shM, ad, I, J, PM ad) (fun r u1 => u1 = (shM, ad, I, J, PM ad)) 0 0 := by
  intro sz
  refine z_headQ (cc := cX12_highOf) (maxL := 2) (ret := (some .long)) (by decide) rfl (Nat.le_of_ble_eq_true rfl) ?_
  intro p e s m below meth c0 ls hIn hK hsz hW hl
  obtain ⟨hx, hb, hr, hml, hown, hts, hlocks, hname⟩ := hIn
  subst hsz
  have hown : s.vm.findClass RX12 = some m.cls := hown
  have hA : ∀ q : Nat, s.heap.size ≤ q → z_A (shM, ad, I, J, PM ad) s.heap.size q := fun q h => Or.inr h
  generalize hAe : z_A (shM, ad, I, J, PM ad) s.heap.size = A at *
  have hS : va_S A s.heap s.heap [] := va_S.rf
  have hl : lv_has ls 2 [(0, .ref (ad 0)), (1, .int a1)] := hl
  refine lv_aload_n hx hb dX12_highOf_0 rfl (lv_at hl 0 rfl) ?_
  refine z_get (T := TX12) (N := 96) (ci := 12) (i := 0) (v := .ref (ad 48)) hx hb hts zj_X12_highOf_X12 hown hK hW rfl rfl 71 (by decide) (hts (.fieldLink RX12 160 "PetrolBoardModel" "dipTold" "[I") (me_s (me_l (List.mem_of_getElem? (i := 0) rfl)))) (fun _ h => h) rfl dX12_highOf_1 ?_
  refine lv_iload_n hx hb dX12_highOf_4 rfl (lv_at hl 1 rfl) ?_
  refine z_iald (i := 48) hx hb hK hW rfl (z_ix rfl (by omega) (by omega)) dX12_highOf_5 ?_
  refine lv_topi (fun x1 ex1 => ?_)
  refine lv_i2l (v := x1.toInt64) hx hb dX12_highOf_6 rfl ?_
  refine lv_topl (fun w2 ew2 => ?_)
  refine lv_aload_n hx hb dX12_highOf_7 rfl (lv_at hl 0 rfl) ?_
  refine lv_aload_n hx hb dX12_highOf_8 rfl (lv_at hl 0 rfl) ?_
  refine z_get (T := TX12) (N := 96) (ci := 12) (i := 0) (v := .ref (ad 49)) hx hb hts zj_X12_highOf_X12 hown hK hW rfl rfl 72 (by decide) (hts (.fieldLink RX12 163 "PetrolBoardModel" "dipDay" "[I") (me_s (me_l (List.mem_of_getElem? (i := 1) rfl)))) (fun _ h => h) rfl dX12_highOf_9 ?_
  refine lv_iload_n hx hb dX12_highOf_12 rfl (lv_at hl 1 rfl) ?_
  refine z_iald (i := 49) hx hb hK hW rfl (z_ix rfl (by omega) (by omega)) dX12_highOf_13 ?_
  refine lv_topi (fun x3 ex3 => ?_)
  refine lv_bipush (v := 30) hx hb dX12_highOf_14 (by decide) ?_
  refine lv_idiv hx hb dX12_highOf_16 (by decide) ?_
  refine lv_topi (fun x4 ex4 => ?_)
  have tx4 := z_tdiv ex4 rfl z_l30 (by decide)
  refine lv_aload_n hx hb dX12_highOf_17 rfl (lv_at hl 0 rfl) ?_
  have r5 : 0 ≤ (I 0 0).toInt ∧ (I 0 0).toInt ≤ 719 := hma.1
  refine z_get (T := TX12) (N := 96) (ci := 12) (i := 0) (v := .int (I 0 0)) hx hb hts zj_X12_highOf_X12 hown hK hW rfl rfl 0 (by decide) (hts (.fieldLink RX12 232 "PetrolBoardModel" "today" "I") (me_s (me_l (List.mem_of_getElem? (i := 2) rfl)))) (fun _ h => h) rfl dX12_highOf_18 ?_
  refine lv_bipush (v := 7) hx hb dX12_highOf_21 (by decide) ?_
  refine z_ci hW hS hA (va_runV (As := [.int x4, .int (I 0 0), .int 7]) (rest := [.long w2]) ⟨hx, hb, hml, hown, hts⟩ (sx_X12_number l G ad I J ⟨(by show 0 ≤ (I 0 13).toInt ∧ (I 0 13).toInt ≤ 12; exact hmb.1), (by show 0 ≤ (I 0 14).toInt ∧ (I 0 14).toInt ≤ 288; exact hmb.2)⟩ hAtf hAtm x4 (I 0 0) 7 _) (cwV 3 hts gX12_highOf_X12_number rfl rfl rfl hy_X12_number ⟨Nat.le_of_ble_eq_true rfl, Nat.le_of_ble_eq_true rfl⟩) (z_preV (i := 0) hK hW rfl rfl) rfl rfl hl.1 rfl (lv_room (Nat.le_of_ble_eq_true rfl)) dX12_highOf_23 ⟨Nat.le_of_ble_eq_true rfl, Nat.le_of_ble_eq_true rfl⟩) (fun r u1 H locs hp hW hS => ?_)
  rw [hp] at hW
  refine lv_topi (fun x6 ex6 => ?_)
  refine lv_i2l (v := x6.toInt64) hx hb dX12_highOf_26 rfl ?_
  refine lv_topl (fun w7 ew7 => ?_)
  refine lv_ladd hx hb dX12_highOf_27 ?_
  refine lv_topl (fun w8 ew8 => ?_)
  exact z_lret hx hb hr hK hS (Nat.le_of_ble_eq_true rfl) (Nat.le_of_ble_eq_true rfl) hlocks dX12_highOf_28 (shM, ad, I, J, PM ad) hW rfl
theorem zj_X12_sums__X12 : ∀ w ∈ wsX120, w ∈ wsX12_sums_ := fun w h => (List.mem_cons_of_mem _ (List.mem_append_right _ h))
set_option maxHeartbeats 8000000 in
set_option maxRecDepth 100000 in
theorem sx_X12_sums_ (l : Launch) (G : z_G) (ad : Nat → Nat) (I : z_I) (J : z_J) (hms : z_ims I) (hma : z_ima I) (hAgm : z_rg 43 0 30 I) (hAdm : z_rg 47 0 30 I) (hmb : z_imb I) (hAtf : z_rg 11 0 288 I) (hAtm : z_rg 12 0 24 I) (a1 : Int32) (a2 : Int32) (a3 : Int32) (a4 : Int32) : z_Ml l yX12_sums_ wsX12_sums_ { frames := 4, cells := 0, slots := 0, locals := 89 } [.ref (ad 0), .int a1, .int a2, .int a3, .int a4] G (shM, ad, I, J, PM ad) (fun r u1 => u1 = (shM, ad, I, J, PM ad)) 0 0 := by
  intro sz
  refine z_headQ (cc := cX12_sums_) (maxL := 18) (ret := (some .long)) (by decide) rfl (Nat.le_of_ble_eq_true rfl) ?_
  intro p e s m below meth c0 ls hIn hK hsz hW hl
  obtain ⟨hx, hb, hr, hml, hown, hts, hlocks, hname⟩ := hIn
  subst hsz
  have hown : s.vm.findClass RX12 = some m.cls := hown
  have hA : ∀ q : Nat, s.heap.size ≤ q → z_A (shM, ad, I, J, PM ad) s.heap.size q := fun q h => Or.inr h
  generalize hAe : z_A (shM, ad, I, J, PM ad) s.heap.size = A at *
  have hS : va_S A s.heap s.heap [] := va_S.rf
  have hl : lv_has ls 18 [(0, .ref (ad 0)), (1, .int a1), (2, .int a2), (3, .int a3), (4, .int a4)] := hl
  refine lv_aload_n hx hb dX12_sums__0 rfl (lv_at hl 0 rfl) ?_
  refine lv_iload_n hx hb dX12_sums__1 rfl (lv_at hl 1 rfl) ?_
  refine z_ci hW hS hA (va_runV (As := [.int a1]) (rest := []) ⟨hx, hb, hml, hown, hts⟩ (sx_X12_isStation l G ad I J ⟨(by show 0 ≤ (I 0 54).toInt ∧ (I 0 54).toInt ≤ 10; exact hms.1), (by show 0 ≤ (I 0 55).toInt ∧ (I 0 55).toInt ≤ 300; exact hms.2)⟩ a1 _) (cwV 1 hts gX12_sums__X12_isStation rfl rfl rfl hy_X12_isStation ⟨Nat.le_of_ble_eq_true rfl, Nat.le_of_ble_eq_true rfl⟩) (z_preV (i := 0) hK hW rfl rfl) rfl rfl hl.1 rfl (lv_room (Nat.le_of_ble_eq_true rfl)) dX12_sums__2 ⟨Nat.le_of_ble_eq_true rfl, Nat.le_of_ble_eq_true rfl⟩) (fun r u1 H locs hp hW hS => ?_)
  obtain ⟨e9, hp⟩ := hp
  rw [e9] at hW
  rcases hp with ⟨rfl, h1, h2⟩ | rfl
  · refine lv_if_eq (tgt := 37) hx hb dX12_sums__5 (by decide) (fun c3 => absurd c3 (by decide)) (fun c3 => ?_)
    refine lv_iload_n hx hb dX12_sums__8 rfl (lv_at hl 2 rfl) ?_
    refine lv_if_lt (tgt := 37) hx hb dX12_sums__9 (by decide) (fun c4 => ?_) (fun c4 => ?_)
    · have g5 := z_f_lt rfl z_l0 c4
      have b6 := Int32.toInt_lt a2
      refine lv_ldc2 (v := (-1)) hx hb hown (hts (.constantLong RX12 269 (-1)) (me_s (me_l (me_l (List.mem_of_getElem? (i := 1) rfl))))) dX12_sums__37 ?_
      exact z_lret hx hb hr hK hS (Nat.le_of_ble_eq_true rfl) (Nat.le_of_ble_eq_true rfl) hlocks dX12_sums__40 (shM, ad, I, J, PM ad) hW rfl
    · have g7 := z_f_nlt rfl z_l0 c4
      have b8 := Int32.toInt_lt a2
      refine lv_iload_n hx hb dX12_sums__12 rfl (lv_at hl 3 rfl) ?_
      refine lv_iload_n hx hb dX12_sums__13 rfl (lv_at hl 2 rfl) ?_
      refine lv_icmp_le (tgt := 37) hx hb dX12_sums__14 (by decide) (fun c9 => ?_) (fun c9 => ?_)
      · have g10 := z_f_le rfl rfl c9
        have b11 := Int32.toInt_lt a3
        refine lv_ldc2 (v := (-1)) hx hb hown (hts (.constantLong RX12 269 (-1)) (me_s (me_l (me_l (List.mem_of_getElem? (i := 1) rfl))))) dX12_sums__37 ?_
        exact z_lret hx hb hr hK hS (Nat.le_of_ble_eq_true rfl) (Nat.le_of_ble_eq_true rfl) hlocks dX12_sums__40 (shM, ad, I, J, PM ad) hW rfl
      · have g12 := z_f_nle rfl rfl c9
        have b13 := Int32.toInt_lt a3
        refine lv_iload_n hx hb dX12_sums__17 rfl (lv_at hl 3 rfl) ?_
        refine lv_aload_n hx hb dX12_sums__18 rfl (lv_at hl 0 rfl) ?_
        refine z_get (T := TX12) (N := 96) (ci := 12) (i := 0) (v := .ref (ad 47)) hx hb hts zj_X12_sums__X12 hown hK hW rfl rfl 70 (by decide) (hts (.fieldLink RX12 157 "PetrolBoardModel" "dipMany" "[I") (me_s (me_l (me_l (List.mem_of_getElem? (i := 0) rfl))))) (fun _ h => h) rfl dX12_sums__19 ?_
        refine lv_iload_n hx hb dX12_sums__22 rfl (lv_at hl 1 rfl) ?_
        refine z_iald (i := 47) hx hb hK hW rfl (z_ix rfl (by omega) (by omega)) dX12_sums__23 ?_
        refine lv_topi (fun x14 ex14 => ?_)
        have h15 : 0 ≤ x14.toInt ∧ x14.toInt ≤ 30 := by rw [ex14]; exact hAdm _
        refine lv_icmp_ge (tgt := 37) hx hb dX12_sums__24 (by decide) (fun c16 => ?_) (fun c16 => ?_)
        · have g17 := z_f_ge rfl rfl c16
          refine lv_ldc2 (v := (-1)) hx hb hown (hts (.constantLong RX12 269 (-1)) (me_s (me_l (me_l (List.mem_of_getElem? (i := 1) rfl))))) dX12_sums__37 ?_
          exact z_lret hx hb hr hK hS (Nat.le_of_ble_eq_true rfl) (Nat.le_of_ble_eq_true rfl) hlocks dX12_sums__40 (shM, ad, I, J, PM ad) hW rfl
        · have g18 := z_f_nge rfl rfl c16
          refine lv_iload hx hb dX12_sums__27 (lv_at hl 4 rfl) ?_
          refine lv_iconst (v := 0) hx hb dX12_sums__29 (by decide) ?_
          refine lv_iconst (v := 1) hx hb dX12_sums__30 (by decide) ?_
          refine z_ci hW hS hA (va_runS (As := [.int a4, .int 0, .int 1]) (rest := []) ⟨hx, hb, hml, hown, hts⟩ (sx_X12_within l G ad I J  a4 0 1 _) (va_cwS 3 hts gX12_sums__X12_within rfl rfl rfl hy_X12_within.2 ⟨Nat.le_of_ble_eq_true rfl, Nat.le_of_ble_eq_true rfl⟩) (z_preS hK hW) rfl rfl hl.1 rfl (lv_room (Nat.le_of_ble_eq_true rfl)) dX12_sums__31 ⟨Nat.le_of_ble_eq_true rfl, Nat.le_of_ble_eq_true rfl⟩) (fun r u1 H locs hp hW hS => ?_)
          obtain ⟨e9, hp⟩ := hp
          rw [e9] at hW
          rcases hp with ⟨rfl, h19, h20⟩ | rfl
          · have h19 := z_t_le z_l0 rfl h19
            have h20 := z_t_le rfl z_l1 h20
            refine lv_if_ne (tgt := 41) hx hb dX12_sums__34 (by decide) (fun c21 => ?_) (fun c21 => absurd c21 (by decide))
            refine lv_bipush (v := 30) hx hb dX12_sums__41 (by decide) ?_
            refine lv_iload_n hx hb dX12_sums__43 rfl (lv_at hl 1 rfl) ?_
            refine lv_imul hx hb dX12_sums__44 ?_
            refine lv_topi (fun x22 ex22 => ?_)
            have tx22 : x22.toInt = 30 * a1.toInt := z_tmul ex22 z_l30 rfl (by omega) (by omega)
            refine lv_istore (lv' := [(5, .int x22), (0, .ref (ad 0)), (1, .int a1), (2, .int a2), (3, .int a3), (4, .int a4)]) hx hb dX12_sums__45 hl (by decide) rfl (fun ls hl => ?_)
            refine lv_aload_n hx hb dX12_sums__47 rfl (lv_at hl 1 rfl) ?_
            refine lv_iload hx hb dX12_sums__48 (lv_at hl 0 rfl) ?_
            refine lv_iload_n hx hb dX12_sums__50 rfl (lv_at hl 3 rfl) ?_
            refine lv_iadd hx hb dX12_sums__51 ?_
            refine lv_topi (fun x23 ex23 => ?_)
            have tx23 : x23.toInt = x22.toInt + a2.toInt := z_tadd ex23 rfl rfl (by omega) (by omega)
            refine z_cl hW hS hA (va_runV (As := [.int x23]) (rest := []) ⟨hx, hb, hml, hown, hts⟩ (sx_X12_highOf l G ad I J ⟨(by show 0 ≤ (I 0 0).toInt ∧ (I 0 0).toInt ≤ 719; exact hma.1), (by show 0 ≤ (I 0 1).toInt ∧ (I 0 1).toInt ≤ 30; exact hma.2.1), (by show 0 ≤ (I 0 2).toInt ∧ (I 0 2).toInt ≤ 200; exact hma.2.2)⟩ ⟨(by show 0 ≤ (I 0 13).toInt ∧ (I 0 13).toInt ≤ 12; exact hmb.1), (by show 0 ≤ (I 0 14).toInt ∧ (I 0 14).toInt ≤ 288; exact hmb.2)⟩ hAtf hAtm x23 (by omega) _) (cwV 1 hts gX12_sums__X12_highOf rfl rfl rfl hy_X12_highOf ⟨Nat.le_of_ble_eq_true rfl, Nat.le_of_ble_eq_true rfl⟩) (z_preV (i := 0) hK hW rfl rfl) rfl rfl hl.1 rfl (lv_room (Nat.le_of_ble_eq_true rfl)) dX12_sums__52 ⟨Nat.le_of_ble_eq_true rfl, Nat.le_of_ble_eq_true rfl⟩) (fun r u1 H locs hp hW hS => ?_)
            rw [hp] at hW
            refine lv_topl (fun x24 ex24 => ?_)
            refine lv_lstore (lv' := [(6, .long x24), (5, .int x22), (0, .ref (ad 0)), (1, .int a1), (2, .int a2), (3, .int a3), (4, .int a4)]) hx hb dX12_sums__55 hl (by decide) rfl (fun ls hl => ?_)
            refine lv_aload_n hx hb dX12_sums__57 rfl (lv_at hl 2 rfl) ?_
            refine lv_iload hx hb dX12_sums__58 (lv_at hl 1 rfl) ?_
            refine lv_iload_n hx hb dX12_sums__60 rfl (lv_at hl 4 rfl) ?_
            refine lv_iadd hx hb dX12_sums__61 ?_
            refine lv_topi (fun x25 ex25 => ?_)
            have tx25 : x25.toInt = x22.toInt + a2.toInt := z_tadd ex25 rfl rfl (by omega) (by omega)
            refine z_cl hW hS hA (va_runV (As := [.int x25]) (rest := []) ⟨hx, hb, hml, hown, hts⟩ (sx_X12_lowOf l G ad I J ⟨(by show 0 ≤ (I 0 0).toInt ∧ (I 0 0).toInt ≤ 719; exact hma.1), (by show 0 ≤ (I 0 1).toInt ∧ (I 0 1).toInt ≤ 30; exact hma.2.1), (by show 0 ≤ (I 0 2).toInt ∧ (I 0 2).toInt ≤ 200; exact hma.2.2)⟩ ⟨(by show 0 ≤ (I 0 13).toInt ∧ (I 0 13).toInt ≤ 12; exact hmb.1), (by show 0 ≤ (I 0 14).toInt ∧ (I 0 14).toInt ≤ 288; exact hmb.2)⟩ hAtf hAtm x25 (by omega) _) (cwV 1 hts gX12_sums__X12_lowOf rfl rfl rfl hy_X12_lowOf ⟨Nat.le_of_ble_eq_true rfl, Nat.le_of_ble_eq_true rfl⟩) (z_preV (i := 0) hK hW rfl rfl) rfl rfl hl.1 rfl (lv_room (Nat.le_of_ble_eq_true rfl)) dX12_sums__62 ⟨Nat.le_of_ble_eq_true rfl, Nat.le_of_ble_eq_true rfl⟩) (fun r u1 H locs hp hW hS => ?_)
            rw [hp] at hW
            refine lv_topl (fun x26 ex26 => ?_)
            refine lv_lstore (lv' := [(8, .long x26), (6, .long x24), (5, .int x22), (0, .ref (ad 0)), (1, .int a1), (2, .int a2), (3, .int a3), (4, .int a4)]) hx hb dX12_sums__65 hl (by decide) rfl (fun ls hl => ?_)
            refine lv_lconst (v := 0) hx hb dX12_sums__67 (by decide) ?_
            refine lv_lstore (lv' := [(10, .long 0), (8, .long x26), (6, .long x24), (5, .int x22), (0, .ref (ad 0)), (1, .int a1), (2, .int a2), (3, .int a3), (4, .int a4)]) hx hb dX12_sums__68 hl (by decide) rfl (fun ls hl => ?_)
            refine lv_iconst (v := 0) hx hb dX12_sums__70 (by decide) ?_
            refine lv_istore (lv' := [(12, .int 0), (10, .long 0), (8, .long x26), (6, .long x24), (5, .int x22), (0, .ref (ad 0)), (1, .int a1), (2, .int a2), (3, .int a3), (4, .int a4)]) hx hb dX12_sums__71 hl (by decide) rfl (fun ls hl => ?_)
            refine lv_lconst (v := 0) hx hb dX12_sums__73 (by decide) ?_
            refine lv_lstore (lv' := [(13, .long 0), (12, .int 0), (10, .long 0), (8, .long x26), (6, .long x24), (5, .int x22), (0, .ref (ad 0)), (1, .int a1), (2, .int a2), (3, .int a3), (4, .int a4)]) hx hb dX12_sums__74 hl (by decide) rfl (fun ls hl => ?_)
            refine lv_iload_n hx hb dX12_sums__76 rfl (lv_at hl 8 rfl) ?_
            refine lv_istore (lv' := [(15, .int a2), (13, .long 0), (12, .int 0), (10, .long 0), (8, .long x26), (6, .long x24), (5, .int x22), (0, .ref (ad 0)), (1, .int a1), (2, .int a2), (3, .int a3), (4, .int a4)]) hx hb dX12_sums__77 hl (by decide) rfl (fun ls hl => ?_)
            have lp27 : ∀ (f : Nat) (y28 : Int32) (w29 : Int64) (y30 : Int32) (w31 : Int64) (w32 : Int64) (w33 : Int64) (H : Heap) (locs : List Loc) (ls : Array Slot), (2147483647 < y28.toInt + (f : Int)) → (0 ≤ y28.toInt) → (a2.toInt ≤ y28.toInt) → z_W G A (shM, ad, I, J, PM ad) H → va_S A s.heap H locs → lv_has ls 18 [(15, .int y28), (13, .long w29), (12, .int y30), (10, .long w31), (8, .long w32), (6, .long w33), (5, .int x22), (0, .ref (ad 0)), (1, .int a1), (2, .int a2), (3, .int a3), (4, .int a4)] → W p l e (headSpec wsX12_sums_ { frames := 4, cells := 0, slots := 0, locals := 89 }).room s m ([.ref (ad 0), .int a1, .int a2, .int a3, .int a4] : List Value).toArray below meth c0 H locs 0 0 (MQ below (va_Ql (fun (r : Int64) (u1 : z_U) => u1 = (shM, ad, I, J, PM ad)) (z_B G A) A) ([.ref (ad 0), .int a1, .int a2, .int a3, .int a4] : List Value).toArray s 0 0 A) (F0 m 79 ls []) := by
              intro f
              induction f with
              | zero => intro y28 w29 y30 w31 w32 w33 H locs ls lp27m lp27l15 lp27z hW hS hl; exact absurd lp27m (by have := Int32.toInt_lt y28; have := Int32.le_toInt y28; omega)
              | succ f lp27ih =>
                intro y28 w29 y30 w31 w32 w33 H locs ls lp27m lp27l15 lp27z hW hS hl
                refine lv_iload hx hb dX12_sums__79 (lv_at hl 0 rfl) ?_
                refine lv_iload_n hx hb dX12_sums__81 rfl (lv_at hl 10 rfl) ?_
                refine lv_icmp_ge (tgt := 246) hx hb dX12_sums__82 (by decide) (fun c34 => ?_) (fun c34 => ?_)
                · have g35 := z_f_ge rfl rfl c34
                  have b36 := Int32.toInt_lt y28
                  refine lv_iload hx hb dX12_sums__246 (lv_at hl 11 rfl) ?_
                  refine lv_iconst (v := 1) hx hb dX12_sums__248 (by decide) ?_
                  refine lv_icmp_ne (tgt := 273) hx hb dX12_sums__249 (by decide) (fun c37 => ?_) (fun c37 => ?_)
                  · have g38 := z_f_ne rfl z_l1 c37
                    refine lv_lload hx hb dX12_sums__273 (lv_at hl 1 rfl) ?_
                    refine lv_lload hx hb dX12_sums__275 (lv_at hl 4 rfl) ?_
                    refine lv_ladd hx hb dX12_sums__277 ?_
                    refine lv_topl (fun w39 ew39 => ?_)
                    refine lv_lload hx hb dX12_sums__278 (lv_at hl 3 rfl) ?_
                    refine lv_lsub hx hb dX12_sums__280 ?_
                    refine lv_topl (fun w40 ew40 => ?_)
                    refine lv_lstore (lv' := [(15, .long w40), (13, .long w29), (12, .int y30), (10, .long w31), (8, .long w32), (6, .long w33), (5, .int x22), (0, .ref (ad 0)), (1, .int a1), (2, .int a2), (3, .int a3), (4, .int a4)]) hx hb dX12_sums__281 hl (by decide) rfl (fun ls hl => ?_)
                    refine lv_lload hx hb dX12_sums__283 (lv_at hl 0 rfl) ?_
                    refine lv_lconst (v := 0) hx hb dX12_sums__285 (by decide) ?_
                    refine W.lcmp hx hb dX12_sums__286 ?_
                    refine lv_topi (fun x41 ex41 => ?_)
                    have tx41 := z_tcmp ex41
                    refine lv_if_ge (tgt := 294) hx hb dX12_sums__287 (by decide) (fun c42 => ?_) (fun c42 => ?_)
                    · have g43 := z_f_ge rfl z_l0 c42
                      refine lv_lload hx hb dX12_sums__294 (lv_at hl 0 rfl) ?_
                      exact z_lret hx hb hr hK hS (Nat.le_of_ble_eq_true rfl) (Nat.le_of_ble_eq_true rfl) hlocks dX12_sums__296 (shM, ad, I, J, PM ad) hW rfl
                    · have g44 := z_f_nge rfl z_l0 c42
                      refine lv_lconst (v := 0) hx hb dX12_sums__290 (by decide) ?_
                      refine lv_goto (tgt := 296) hx hb dX12_sums__291 (by decide) ?_
                      exact z_lret hx hb hr hK hS (Nat.le_of_ble_eq_true rfl) (Nat.le_of_ble_eq_true rfl) hlocks dX12_sums__296 (shM, ad, I, J, PM ad) hW rfl
                  · have g45 := z_f_eq rfl z_l1 c37
                    refine lv_lload hx hb dX12_sums__252 (lv_at hl 1 rfl) ?_
                    refine lv_aload_n hx hb dX12_sums__254 rfl (lv_at hl 7 rfl) ?_
                    refine lv_iload hx hb dX12_sums__255 (lv_at hl 6 rfl) ?_
                    refine lv_iload_n hx hb dX12_sums__257 rfl (lv_at hl 9 rfl) ?_
                    refine lv_iadd hx hb dX12_sums__258 ?_
                    refine lv_topi (fun x46 ex46 => ?_)
                    have tx46 : x46.toInt = x22.toInt + a2.toInt := z_tadd ex46 rfl rfl (by omega) (by omega)
                    refine z_cl hW hS hA (va_runV (As := [.int x46]) (rest := [.long w29]) ⟨hx, hb, hml, hown, hts⟩ (sx_X12_highOf l G ad I J ⟨(by show 0 ≤ (I 0 0).toInt ∧ (I 0 0).toInt ≤ 719; exact hma.1), (by show 0 ≤ (I 0 1).toInt ∧ (I 0 1).toInt ≤ 30; exact hma.2.1), (by show 0 ≤ (I 0 2).toInt ∧ (I 0 2).toInt ≤ 200; exact hma.2.2)⟩ ⟨(by show 0 ≤ (I 0 13).toInt ∧ (I 0 13).toInt ≤ 12; exact hmb.1), (by show 0 ≤ (I 0 14).toInt ∧ (I 0 14).toInt ≤ 288; exact hmb.2)⟩ hAtf hAtm x46 (by omega) _) (cwV 1 hts gX12_sums__X12_highOf rfl rfl rfl hy_X12_highOf ⟨Nat.le_of_ble_eq_true rfl, Nat.le_of_ble_eq_true rfl⟩) (z_preV (i := 0) hK hW rfl rfl) rfl rfl hl.1 rfl (lv_room (Nat.le_of_ble_eq_true rfl)) dX12_sums__259 ⟨Nat.le_of_ble_eq_true rfl, Nat.le_of_ble_eq_true rfl⟩) (fun r u1 H locs hp hW hS => ?_)
                    rw [hp] at hW
                    refine lv_topl (fun x47 ex47 => ?_)
                    refine lv_ladd hx hb dX12_sums__262 ?_
                    refine lv_topl (fun w48 ew48 => ?_)
                    refine lv_aload_n hx hb dX12_sums__263 rfl (lv_at hl 7 rfl) ?_
                    refine lv_iload hx hb dX12_sums__264 (lv_at hl 6 rfl) ?_
                    refine lv_iload_n hx hb dX12_sums__266 rfl (lv_at hl 10 rfl) ?_
                    refine lv_iadd hx hb dX12_sums__267 ?_
                    refine lv_topi (fun x49 ex49 => ?_)
                    have tx49 : x49.toInt = x22.toInt + a3.toInt := z_tadd ex49 rfl rfl (by omega) (by omega)
                    refine z_cl hW hS hA (va_runV (As := [.int x49]) (rest := [.long w48]) ⟨hx, hb, hml, hown, hts⟩ (sx_X12_lowOf l G ad I J ⟨(by show 0 ≤ (I 0 0).toInt ∧ (I 0 0).toInt ≤ 719; exact hma.1), (by show 0 ≤ (I 0 1).toInt ∧ (I 0 1).toInt ≤ 30; exact hma.2.1), (by show 0 ≤ (I 0 2).toInt ∧ (I 0 2).toInt ≤ 200; exact hma.2.2)⟩ ⟨(by show 0 ≤ (I 0 13).toInt ∧ (I 0 13).toInt ≤ 12; exact hmb.1), (by show 0 ≤ (I 0 14).toInt ∧ (I 0 14).toInt ≤ 288; exact hmb.2)⟩ hAtf hAtm x49 (by omega) _) (cwV 1 hts gX12_sums__X12_lowOf rfl rfl rfl hy_X12_lowOf ⟨Nat.le_of_ble_eq_true rfl, Nat.le_of_ble_eq_true rfl⟩) (z_preV (i := 0) hK hW rfl rfl) rfl rfl hl.1 rfl (lv_room (Nat.le_of_ble_eq_true rfl)) dX12_sums__268 ⟨Nat.le_of_ble_eq_true rfl, Nat.le_of_ble_eq_true rfl⟩) (fun r u1 H locs hp hW hS => ?_)
                    rw [hp] at hW
                    refine lv_topl (fun x50 ex50 => ?_)
                    refine lv_lsub hx hb dX12_sums__271 ?_
                    refine lv_topl (fun w51 ew51 => ?_)
                    exact z_lret hx hb hr hK hS (Nat.le_of_ble_eq_true rfl) (Nat.le_of_ble_eq_true rfl) hlocks dX12_sums__272 (shM, ad, I, J, PM ad) hW rfl
                · have g52 := z_f_nge rfl rfl c34
                  have b53 := Int32.toInt_lt y28
                  refine lv_aload_n hx hb dX12_sums__85 rfl (lv_at hl 7 rfl) ?_
                  refine lv_iload_n hx hb dX12_sums__86 rfl (lv_at hl 8 rfl) ?_
                  refine lv_iload hx hb dX12_sums__87 (lv_at hl 0 rfl) ?_
                  refine z_cl hW hS hA (va_runV (As := [.int a1, .int y28]) (rest := []) ⟨hx, hb, hml, hown, hts⟩ (sx_X12_inOf l G ad I J ⟨(by show 0 ≤ (I 0 54).toInt ∧ (I 0 54).toInt ≤ 10; exact hms.1), (by show 0 ≤ (I 0 55).toInt ∧ (I 0 55).toInt ≤ 300; exact hms.2)⟩ ⟨(by show 0 ≤ (I 0 0).toInt ∧ (I 0 0).toInt ≤ 719; exact hma.1), (by show 0 ≤ (I 0 1).toInt ∧ (I 0 1).toInt ≤ 30; exact hma.2.1), (by show 0 ≤ (I 0 2).toInt ∧ (I 0 2).toInt ≤ 200; exact hma.2.2)⟩ hAgm ⟨(by show 0 ≤ (I 0 13).toInt ∧ (I 0 13).toInt ≤ 12; exact hmb.1), (by show 0 ≤ (I 0 14).toInt ∧ (I 0 14).toInt ≤ 288; exact hmb.2)⟩ hAtf hAtm a1 y28 (by omega) (by omega) _) (cwV 2 hts gX12_sums__X12_inOf rfl rfl rfl hy_X12_inOf ⟨Nat.le_of_ble_eq_true rfl, Nat.le_of_ble_eq_true rfl⟩) (z_preV (i := 0) hK hW rfl rfl) rfl rfl hl.1 rfl (lv_room (Nat.le_of_ble_eq_true rfl)) dX12_sums__89 ⟨Nat.le_of_ble_eq_true rfl, Nat.le_of_ble_eq_true rfl⟩) (fun r u1 H locs hp hW hS => ?_)
                  rw [hp] at hW
                  refine lv_topl (fun x54 ex54 => ?_)
                  refine lv_lstore (lv' := [(16, .long x54), (15, .int y28), (13, .long w29), (12, .int y30), (10, .long w31), (8, .long w32), (6, .long w33), (5, .int x22), (0, .ref (ad 0)), (1, .int a1), (2, .int a2), (3, .int a3), (4, .int a4)]) hx hb dX12_sums__92 hl (by decide) rfl (fun ls hl => ?_)
                  refine lv_lload hx hb dX12_sums__94 (lv_at hl 2 rfl) ?_
                  refine lv_lload hx hb dX12_sums__96 (lv_at hl 0 rfl) ?_
                  refine lv_ladd hx hb dX12_sums__98 ?_
                  refine lv_topl (fun w55 ew55 => ?_)
                  refine lv_lstore (lv' := [(13, .long w55), (16, .long x54), (15, .int y28), (12, .int y30), (10, .long w31), (8, .long w32), (6, .long w33), (5, .int x22), (0, .ref (ad 0)), (1, .int a1), (2, .int a2), (3, .int a3), (4, .int a4)]) hx hb dX12_sums__99 hl (by decide) rfl (fun ls hl => ?_)
                  refine lv_lload hx hb dX12_sums__101 (lv_at hl 6 rfl) ?_
                  refine lv_lload hx hb dX12_sums__103 (lv_at hl 1 rfl) ?_
                  refine lv_ladd hx hb dX12_sums__105 ?_
                  refine lv_topl (fun w56 ew56 => ?_)
                  refine lv_lstore (lv' := [(6, .long w56), (13, .long w55), (16, .long x54), (15, .int y28), (12, .int y30), (10, .long w31), (8, .long w32), (5, .int x22), (0, .ref (ad 0)), (1, .int a1), (2, .int a2), (3, .int a3), (4, .int a4)]) hx hb dX12_sums__106 hl (by decide) rfl (fun ls hl => ?_)
                  refine lv_lload hx hb dX12_sums__108 (lv_at hl 5 rfl) ?_
                  refine lv_lload hx hb dX12_sums__110 (lv_at hl 2 rfl) ?_
                  refine lv_ladd hx hb dX12_sums__112 ?_
                  refine lv_topl (fun w57 ew57 => ?_)
                  refine lv_lstore (lv' := [(10, .long w57), (6, .long w56), (13, .long w55), (16, .long x54), (15, .int y28), (12, .int y30), (8, .long w32), (5, .int x22), (0, .ref (ad 0)), (1, .int a1), (2, .int a2), (3, .int a3), (4, .int a4)]) hx hb dX12_sums__113 hl (by decide) rfl (fun ls hl => ?_)
                  refine lv_aload_n hx hb dX12_sums__115 rfl (lv_at hl 8 rfl) ?_
                  refine lv_iload hx hb dX12_sums__116 (lv_at hl 7 rfl) ?_
                  refine lv_iload hx hb dX12_sums__118 (lv_at hl 4 rfl) ?_
                  refine lv_iadd hx hb dX12_sums__120 ?_
                  refine lv_topi (fun x58 ex58 => ?_)
                  have tx58 : x58.toInt = x22.toInt + y28.toInt := z_tadd ex58 rfl rfl (by omega) (by omega)
                  refine lv_iconst (v := 1) hx hb dX12_sums__121 (by decide) ?_
                  refine lv_iadd hx hb dX12_sums__122 ?_
                  refine lv_topi (fun x59 ex59 => ?_)
                  have tx59 : x59.toInt = x58.toInt + 1 := z_tadd ex59 rfl z_l1 (by omega) (by omega)
                  refine z_cl hW hS hA (va_runV (As := [.int x59]) (rest := []) ⟨hx, hb, hml, hown, hts⟩ (sx_X12_highOf l G ad I J ⟨(by show 0 ≤ (I 0 0).toInt ∧ (I 0 0).toInt ≤ 719; exact hma.1), (by show 0 ≤ (I 0 1).toInt ∧ (I 0 1).toInt ≤ 30; exact hma.2.1), (by show 0 ≤ (I 0 2).toInt ∧ (I 0 2).toInt ≤ 200; exact hma.2.2)⟩ ⟨(by show 0 ≤ (I 0 13).toInt ∧ (I 0 13).toInt ≤ 12; exact hmb.1), (by show 0 ≤ (I 0 14).toInt ∧ (I 0 14).toInt ≤ 288; exact hmb.2)⟩ hAtf hAtm x59 (by omega) _) (cwV 1 hts gX12_sums__X12_highOf rfl rfl rfl hy_X12_highOf ⟨Nat.le_of_ble_eq_true rfl, Nat.le_of_ble_eq_true rfl⟩) (z_preV (i := 0) hK hW rfl rfl) rfl rfl hl.1 rfl (lv_room (Nat.le_of_ble_eq_true rfl)) dX12_sums__123 ⟨Nat.le_of_ble_eq_true rfl, Nat.le_of_ble_eq_true rfl⟩) (fun r u1 H locs hp hW hS => ?_)
                  rw [hp] at hW
                  refine lv_topl (fun x60 ex60 => ?_)
                  refine lv_lload hx hb dX12_sums__126 (lv_at hl 1 rfl) ?_
                  refine W.lcmp hx hb dX12_sums__128 ?_
                  refine lv_topi (fun x61 ex61 => ?_)
                  have tx61 := z_tcmp ex61
                  refine lv_if_ge (tgt := 145) hx hb dX12_sums__129 (by decide) (fun c62 => ?_) (fun c62 => ?_)
                  · have g63 := z_f_ge rfl z_l0 c62
                    refine lv_iload hx hb dX12_sums__145 (lv_at hl 5 rfl) ?_
                    refine lv_if_eq (tgt := 167) hx hb dX12_sums__147 (by decide) (fun c64 => ?_) (fun c64 => ?_)
                    · have g65 := z_f_eq rfl z_l0 c64
                      have b66 := Int32.toInt_lt y30
                      refine lv_aload_n hx hb dX12_sums__167 rfl (lv_at hl 8 rfl) ?_
                      refine lv_iload hx hb dX12_sums__168 (lv_at hl 7 rfl) ?_
                      refine lv_iload hx hb dX12_sums__170 (lv_at hl 4 rfl) ?_
                      refine lv_iadd hx hb dX12_sums__172 ?_
                      refine lv_topi (fun x67 ex67 => ?_)
                      have tx67 : x67.toInt = x22.toInt + y28.toInt := z_tadd ex67 rfl rfl (by omega) (by omega)
                      refine lv_iconst (v := 1) hx hb dX12_sums__173 (by decide) ?_
                      refine lv_iadd hx hb dX12_sums__174 ?_
                      refine lv_topi (fun x68 ex68 => ?_)
                      have tx68 : x68.toInt = x67.toInt + 1 := z_tadd ex68 rfl z_l1 (by omega) (by omega)
                      refine z_cl hW hS hA (va_runV (As := [.int x68]) (rest := []) ⟨hx, hb, hml, hown, hts⟩ (sx_X12_highOf l G ad I J ⟨(by show 0 ≤ (I 0 0).toInt ∧ (I 0 0).toInt ≤ 719; exact hma.1), (by show 0 ≤ (I 0 1).toInt ∧ (I 0 1).toInt ≤ 30; exact hma.2.1), (by show 0 ≤ (I 0 2).toInt ∧ (I 0 2).toInt ≤ 200; exact hma.2.2)⟩ ⟨(by show 0 ≤ (I 0 13).toInt ∧ (I 0 13).toInt ≤ 12; exact hmb.1), (by show 0 ≤ (I 0 14).toInt ∧ (I 0 14).toInt ≤ 288; exact hmb.2)⟩ hAtf hAtm x68 (by omega) _) (cwV 1 hts gX12_sums__X12_highOf rfl rfl rfl hy_X12_highOf ⟨Nat.le_of_ble_eq_true rfl, Nat.le_of_ble_eq_true rfl⟩) (z_preV (i := 0) hK hW rfl rfl) rfl rfl hl.1 rfl (lv_room (Nat.le_of_ble_eq_true rfl)) dX12_sums__175 ⟨Nat.le_of_ble_eq_true rfl, Nat.le_of_ble_eq_true rfl⟩) (fun r u1 H locs hp hW hS => ?_)
                      rw [hp] at hW
                      refine lv_topl (fun x69 ex69 => ?_)
                      refine lv_lstore (lv' := [(10, .long x69), (6, .long w56), (13, .long w55), (16, .long x54), (15, .int y28), (12, .int y30), (8, .long w32), (5, .int x22), (0, .ref (ad 0)), (1, .int a1), (2, .int a2), (3, .int a3), (4, .int a4)]) hx hb dX12_sums__178 hl (by decide) rfl (fun ls hl => ?_)
                      refine lv_iconst (v := 1) hx hb dX12_sums__180 (by decide) ?_
                      refine lv_istore (lv' := [(12, .int 1), (10, .long x69), (6, .long w56), (13, .long w55), (16, .long x54), (15, .int y28), (8, .long w32), (5, .int x22), (0, .ref (ad 0)), (1, .int a1), (2, .int a2), (3, .int a3), (4, .int a4)]) hx hb dX12_sums__181 hl (by decide) rfl (fun ls hl => ?_)
                      refine lv_lload hx hb dX12_sums__183 (lv_at hl 2 rfl) ?_
                      refine lv_aload_n hx hb dX12_sums__185 rfl (lv_at hl 8 rfl) ?_
                      refine lv_iload hx hb dX12_sums__186 (lv_at hl 7 rfl) ?_
                      refine lv_iload hx hb dX12_sums__188 (lv_at hl 5 rfl) ?_
                      refine lv_iadd hx hb dX12_sums__190 ?_
                      refine lv_topi (fun x70 ex70 => ?_)
                      have tx70 : x70.toInt = x22.toInt + y28.toInt := z_tadd ex70 rfl rfl (by omega) (by omega)
                      refine lv_iconst (v := 1) hx hb dX12_sums__191 (by decide) ?_
                      refine lv_iadd hx hb dX12_sums__192 ?_
                      refine lv_topi (fun x71 ex71 => ?_)
                      have tx71 : x71.toInt = x70.toInt + 1 := z_tadd ex71 rfl z_l1 (by omega) (by omega)
                      refine z_cl hW hS hA (va_runV (As := [.int x71]) (rest := [.long w56]) ⟨hx, hb, hml, hown, hts⟩ (sx_X12_lowOf l G ad I J ⟨(by show 0 ≤ (I 0 0).toInt ∧ (I 0 0).toInt ≤ 719; exact hma.1), (by show 0 ≤ (I 0 1).toInt ∧ (I 0 1).toInt ≤ 30; exact hma.2.1), (by show 0 ≤ (I 0 2).toInt ∧ (I 0 2).toInt ≤ 200; exact hma.2.2)⟩ ⟨(by show 0 ≤ (I 0 13).toInt ∧ (I 0 13).toInt ≤ 12; exact hmb.1), (by show 0 ≤ (I 0 14).toInt ∧ (I 0 14).toInt ≤ 288; exact hmb.2)⟩ hAtf hAtm x71 (by omega) _) (cwV 1 hts gX12_sums__X12_lowOf rfl rfl rfl hy_X12_lowOf ⟨Nat.le_of_ble_eq_true rfl, Nat.le_of_ble_eq_true rfl⟩) (z_preV (i := 0) hK hW rfl rfl) rfl rfl hl.1 rfl (lv_room (Nat.le_of_ble_eq_true rfl)) dX12_sums__193 ⟨Nat.le_of_ble_eq_true rfl, Nat.le_of_ble_eq_true rfl⟩) (fun r u1 H locs hp hW hS => ?_)
                      rw [hp] at hW
                      refine lv_topl (fun x72 ex72 => ?_)
                      refine W.lcmp hx hb dX12_sums__196 ?_
                      refine lv_topi (fun x73 ex73 => ?_)
                      have tx73 := z_tcmp ex73
                      refine lv_if_ge (tgt := 204) hx hb dX12_sums__197 (by decide) (fun c74 => ?_) (fun c74 => ?_)
                      · have g75 := z_f_ge rfl z_l0 c74
                        refine lv_aload_n hx hb dX12_sums__204 rfl (lv_at hl 8 rfl) ?_
                        refine lv_iload hx hb dX12_sums__205 (lv_at hl 7 rfl) ?_
                        refine lv_iload hx hb dX12_sums__207 (lv_at hl 5 rfl) ?_
                        refine lv_iadd hx hb dX12_sums__209 ?_
                        refine lv_topi (fun x76 ex76 => ?_)
                        have tx76 : x76.toInt = x22.toInt + y28.toInt := z_tadd ex76 rfl rfl (by omega) (by omega)
                        refine lv_iconst (v := 1) hx hb dX12_sums__210 (by decide) ?_
                        refine lv_iadd hx hb dX12_sums__211 ?_
                        refine lv_topi (fun x77 ex77 => ?_)
                        have tx77 : x77.toInt = x76.toInt + 1 := z_tadd ex77 rfl z_l1 (by omega) (by omega)
                        refine z_cl hW hS hA (va_runV (As := [.int x77]) (rest := []) ⟨hx, hb, hml, hown, hts⟩ (sx_X12_lowOf l G ad I J ⟨(by show 0 ≤ (I 0 0).toInt ∧ (I 0 0).toInt ≤ 719; exact hma.1), (by show 0 ≤ (I 0 1).toInt ∧ (I 0 1).toInt ≤ 30; exact hma.2.1), (by show 0 ≤ (I 0 2).toInt ∧ (I 0 2).toInt ≤ 200; exact hma.2.2)⟩ ⟨(by show 0 ≤ (I 0 13).toInt ∧ (I 0 13).toInt ≤ 12; exact hmb.1), (by show 0 ≤ (I 0 14).toInt ∧ (I 0 14).toInt ≤ 288; exact hmb.2)⟩ hAtf hAtm x77 (by omega) _) (cwV 1 hts gX12_sums__X12_lowOf rfl rfl rfl hy_X12_lowOf ⟨Nat.le_of_ble_eq_true rfl, Nat.le_of_ble_eq_true rfl⟩) (z_preV (i := 0) hK hW rfl rfl) rfl rfl hl.1 rfl (lv_room (Nat.le_of_ble_eq_true rfl)) dX12_sums__212 ⟨Nat.le_of_ble_eq_true rfl, Nat.le_of_ble_eq_true rfl⟩) (fun r u1 H locs hp hW hS => ?_)
                        rw [hp] at hW
                        refine lv_topl (fun x78 ex78 => ?_)
                        refine lv_lload hx hb dX12_sums__215 (lv_at hl 3 rfl) ?_
                        refine lv_lsub hx hb dX12_sums__217 ?_
                        refine lv_topl (fun w79 ew79 => ?_)
                        refine lv_lload hx hb dX12_sums__218 (lv_at hl 6 rfl) ?_
                        refine W.lcmp hx hb dX12_sums__220 ?_
                        refine lv_topi (fun x80 ex80 => ?_)
                        have tx80 := z_tcmp ex80
                        refine lv_if_le (tgt := 240) hx hb dX12_sums__221 (by decide) (fun c81 => ?_) (fun c81 => ?_)
                        · have g82 := z_f_le rfl z_l0 c81
                          obtain ⟨x83, ex83⟩ : ∃ y : Int32, y = y28 + 1 := ⟨_, rfl⟩
                          have tx83 : x83.toInt = y28.toInt + 1 := z_tadd ex83 rfl z_l1 (by omega) (by omega)
                          refine lv_iinc (v := x83) (lv' := [(15, .int x83), (12, .int 1), (10, .long x69), (6, .long w56), (13, .long w55), (16, .long x54), (8, .long w32), (5, .int x22), (0, .ref (ad 0)), (1, .int a1), (2, .int a2), (3, .int a3), (4, .int a4)]) hx hb dX12_sums__240 hl (k := 5) rfl (by rw [ex83]; rfl) (by decide) rfl (fun ls hl => ?_)
                          refine lv_goto (tgt := 79) hx hb dX12_sums__243 (by decide) ?_
                          exact lp27ih x83 w55 (1) x69 w32 w56 _ _ _ (by omega) (by omega) (by omega) hW hS (lv_sub hl [0, 4, 1, 2, 6, 3, 7, 8, 9, 10, 11, 12] rfl)
                        · have g84 := z_f_nle rfl z_l0 c81
                          refine lv_aload_n hx hb dX12_sums__224 rfl (lv_at hl 8 rfl) ?_
                          refine lv_iload hx hb dX12_sums__225 (lv_at hl 7 rfl) ?_
                          refine lv_iload hx hb dX12_sums__227 (lv_at hl 5 rfl) ?_
                          refine lv_iadd hx hb dX12_sums__229 ?_
                          refine lv_topi (fun x85 ex85 => ?_)
                          have tx85 : x85.toInt = x22.toInt + y28.toInt := z_tadd ex85 rfl rfl (by omega) (by omega)
                          refine lv_iconst (v := 1) hx hb dX12_sums__230 (by decide) ?_
                          refine lv_iadd hx hb dX12_sums__231 ?_
                          refine lv_topi (fun x86 ex86 => ?_)
                          have tx86 : x86.toInt = x85.toInt + 1 := z_tadd ex86 rfl z_l1 (by omega) (by omega)
                          refine z_cl hW hS hA (va_runV (As := [.int x86]) (rest := []) ⟨hx, hb, hml, hown, hts⟩ (sx_X12_lowOf l G ad I J ⟨(by show 0 ≤ (I 0 0).toInt ∧ (I 0 0).toInt ≤ 719; exact hma.1), (by show 0 ≤ (I 0 1).toInt ∧ (I 0 1).toInt ≤ 30; exact hma.2.1), (by show 0 ≤ (I 0 2).toInt ∧ (I 0 2).toInt ≤ 200; exact hma.2.2)⟩ ⟨(by show 0 ≤ (I 0 13).toInt ∧ (I 0 13).toInt ≤ 12; exact hmb.1), (by show 0 ≤ (I 0 14).toInt ∧ (I 0 14).toInt ≤ 288; exact hmb.2)⟩ hAtf hAtm x86 (by omega) _) (cwV 1 hts gX12_sums__X12_lowOf rfl rfl rfl hy_X12_lowOf ⟨Nat.le_of_ble_eq_true rfl, Nat.le_of_ble_eq_true rfl⟩) (z_preV (i := 0) hK hW rfl rfl) rfl rfl hl.1 rfl (lv_room (Nat.le_of_ble_eq_true rfl)) dX12_sums__232 ⟨Nat.le_of_ble_eq_true rfl, Nat.le_of_ble_eq_true rfl⟩) (fun r u1 H locs hp hW hS => ?_)
                          rw [hp] at hW
                          refine lv_topl (fun x87 ex87 => ?_)
                          refine lv_lload hx hb dX12_sums__235 (lv_at hl 3 rfl) ?_
                          refine lv_lsub hx hb dX12_sums__237 ?_
                          refine lv_topl (fun w88 ew88 => ?_)
                          refine lv_lstore (lv' := [(8, .long w88), (12, .int 1), (10, .long x69), (6, .long w56), (13, .long w55), (16, .long x54), (15, .int y28), (5, .int x22), (0, .ref (ad 0)), (1, .int a1), (2, .int a2), (3, .int a3), (4, .int a4)]) hx hb dX12_sums__238 hl (by decide) rfl (fun ls hl => ?_)
                          obtain ⟨x89, ex89⟩ : ∃ y : Int32, y = y28 + 1 := ⟨_, rfl⟩
                          have tx89 : x89.toInt = y28.toInt + 1 := z_tadd ex89 rfl z_l1 (by omega) (by omega)
                          refine lv_iinc (v := x89) (lv' := [(15, .int x89), (8, .long w88), (12, .int 1), (10, .long x69), (6, .long w56), (13, .long w55), (16, .long x54), (5, .int x22), (0, .ref (ad 0)), (1, .int a1), (2, .int a2), (3, .int a3), (4, .int a4)]) hx hb dX12_sums__240 hl (k := 6) rfl (by rw [ex89]; rfl) (by decide) rfl (fun ls hl => ?_)
                          refine lv_goto (tgt := 79) hx hb dX12_sums__243 (by decide) ?_
                          exact lp27ih x89 w55 (1) x69 w88 w56 _ _ _ (by omega) (by omega) (by omega) hW hS (lv_sub hl [0, 5, 2, 3, 1, 4, 7, 8, 9, 10, 11, 12] rfl)
                      · have g90 := z_f_nge rfl z_l0 c74
                        refine lv_ldc2 (v := (-3)) hx hb hown (hts (.constantLong RX12 490 (-3)) (me_s (me_l (me_l (List.mem_of_getElem? (i := 2) rfl))))) dX12_sums__200 ?_
                        exact z_lret hx hb hr hK hS (Nat.le_of_ble_eq_true rfl) (Nat.le_of_ble_eq_true rfl) hlocks dX12_sums__203 (shM, ad, I, J, PM ad) hW rfl
                    · have g91 := z_f_ne rfl z_l0 c64
                      have b92 := Int32.toInt_lt y30
                      refine lv_aload_n hx hb dX12_sums__150 rfl (lv_at hl 8 rfl) ?_
                      refine lv_iload hx hb dX12_sums__151 (lv_at hl 7 rfl) ?_
                      refine lv_iload hx hb dX12_sums__153 (lv_at hl 4 rfl) ?_
                      refine lv_iadd hx hb dX12_sums__155 ?_
                      refine lv_topi (fun x93 ex93 => ?_)
                      have tx93 : x93.toInt = x22.toInt + y28.toInt := z_tadd ex93 rfl rfl (by omega) (by omega)
                      refine lv_iconst (v := 1) hx hb dX12_sums__156 (by decide) ?_
                      refine lv_iadd hx hb dX12_sums__157 ?_
                      refine lv_topi (fun x94 ex94 => ?_)
                      have tx94 : x94.toInt = x93.toInt + 1 := z_tadd ex94 rfl z_l1 (by omega) (by omega)
                      refine z_cl hW hS hA (va_runV (As := [.int x94]) (rest := []) ⟨hx, hb, hml, hown, hts⟩ (sx_X12_highOf l G ad I J ⟨(by show 0 ≤ (I 0 0).toInt ∧ (I 0 0).toInt ≤ 719; exact hma.1), (by show 0 ≤ (I 0 1).toInt ∧ (I 0 1).toInt ≤ 30; exact hma.2.1), (by show 0 ≤ (I 0 2).toInt ∧ (I 0 2).toInt ≤ 200; exact hma.2.2)⟩ ⟨(by show 0 ≤ (I 0 13).toInt ∧ (I 0 13).toInt ≤ 12; exact hmb.1), (by show 0 ≤ (I 0 14).toInt ∧ (I 0 14).toInt ≤ 288; exact hmb.2)⟩ hAtf hAtm x94 (by omega) _) (cwV 1 hts gX12_sums__X12_highOf rfl rfl rfl hy_X12_highOf ⟨Nat.le_of_ble_eq_true rfl, Nat.le_of_ble_eq_true rfl⟩) (z_preV (i := 0) hK hW rfl rfl) rfl rfl hl.1 rfl (lv_room (Nat.le_of_ble_eq_true rfl)) dX12_sums__158 ⟨Nat.le_of_ble_eq_true rfl, Nat.le_of_ble_eq_true rfl⟩) (fun r u1 H locs hp hW hS => ?_)
                      rw [hp] at hW
                      refine lv_topl (fun x95 ex95 => ?_)
                      refine lv_lload hx hb dX12_sums__161 (lv_at hl 0 rfl) ?_
                      refine W.lcmp hx hb dX12_sums__163 ?_
                      refine lv_topi (fun x96 ex96 => ?_)
                      have tx96 := z_tcmp ex96
                      refine lv_if_ge (tgt := 180) hx hb dX12_sums__164 (by decide) (fun c97 => ?_) (fun c97 => ?_)
                      · have g98 := z_f_ge rfl z_l0 c97
                        refine lv_iconst (v := 1) hx hb dX12_sums__180 (by decide) ?_
                        refine lv_istore (lv' := [(12, .int 1), (10, .long w57), (6, .long w56), (13, .long w55), (16, .long x54), (15, .int y28), (8, .long w32), (5, .int x22), (0, .ref (ad 0)), (1, .int a1), (2, .int a2), (3, .int a3), (4, .int a4)]) hx hb dX12_sums__181 hl (by decide) rfl (fun ls hl => ?_)
                        refine lv_lload hx hb dX12_sums__183 (lv_at hl 2 rfl) ?_
                        refine lv_aload_n hx hb dX12_sums__185 rfl (lv_at hl 8 rfl) ?_
                        refine lv_iload hx hb dX12_sums__186 (lv_at hl 7 rfl) ?_
                        refine lv_iload hx hb dX12_sums__188 (lv_at hl 5 rfl) ?_
                        refine lv_iadd hx hb dX12_sums__190 ?_
                        refine lv_topi (fun x99 ex99 => ?_)
                        have tx99 : x99.toInt = x22.toInt + y28.toInt := z_tadd ex99 rfl rfl (by omega) (by omega)
                        refine lv_iconst (v := 1) hx hb dX12_sums__191 (by decide) ?_
                        refine lv_iadd hx hb dX12_sums__192 ?_
                        refine lv_topi (fun x100 ex100 => ?_)
                        have tx100 : x100.toInt = x99.toInt + 1 := z_tadd ex100 rfl z_l1 (by omega) (by omega)
                        refine z_cl hW hS hA (va_runV (As := [.int x100]) (rest := [.long w56]) ⟨hx, hb, hml, hown, hts⟩ (sx_X12_lowOf l G ad I J ⟨(by show 0 ≤ (I 0 0).toInt ∧ (I 0 0).toInt ≤ 719; exact hma.1), (by show 0 ≤ (I 0 1).toInt ∧ (I 0 1).toInt ≤ 30; exact hma.2.1), (by show 0 ≤ (I 0 2).toInt ∧ (I 0 2).toInt ≤ 200; exact hma.2.2)⟩ ⟨(by show 0 ≤ (I 0 13).toInt ∧ (I 0 13).toInt ≤ 12; exact hmb.1), (by show 0 ≤ (I 0 14).toInt ∧ (I 0 14).toInt ≤ 288; exact hmb.2)⟩ hAtf hAtm x100 (by omega) _) (cwV 1 hts gX12_sums__X12_lowOf rfl rfl rfl hy_X12_lowOf ⟨Nat.le_of_ble_eq_true rfl, Nat.le_of_ble_eq_true rfl⟩) (z_preV (i := 0) hK hW rfl rfl) rfl rfl hl.1 rfl (lv_room (Nat.le_of_ble_eq_true rfl)) dX12_sums__193 ⟨Nat.le_of_ble_eq_true rfl, Nat.le_of_ble_eq_true rfl⟩) (fun r u1 H locs hp hW hS => ?_)
                        rw [hp] at hW
                        refine lv_topl (fun x101 ex101 => ?_)
                        refine W.lcmp hx hb dX12_sums__196 ?_
                        refine lv_topi (fun x102 ex102 => ?_)
                        have tx102 := z_tcmp ex102
                        refine lv_if_ge (tgt := 204) hx hb dX12_sums__197 (by decide) (fun c103 => ?_) (fun c103 => ?_)
                        · have g104 := z_f_ge rfl z_l0 c103
                          refine lv_aload_n hx hb dX12_sums__204 rfl (lv_at hl 8 rfl) ?_
                          refine lv_iload hx hb dX12_sums__205 (lv_at hl 7 rfl) ?_
                          refine lv_iload hx hb dX12_sums__207 (lv_at hl 5 rfl) ?_
                          refine lv_iadd hx hb dX12_sums__209 ?_
                          refine lv_topi (fun x105 ex105 => ?_)
                          have tx105 : x105.toInt = x22.toInt + y28.toInt := z_tadd ex105 rfl rfl (by omega) (by omega)
                          refine lv_iconst (v := 1) hx hb dX12_sums__210 (by decide) ?_
                          refine lv_iadd hx hb dX12_sums__211 ?_
                          refine lv_topi (fun x106 ex106 => ?_)
                          have tx106 : x106.toInt = x105.toInt + 1 := z_tadd ex106 rfl z_l1 (by omega) (by omega)
                          refine z_cl hW hS hA (va_runV (As := [.int x106]) (rest := []) ⟨hx, hb, hml, hown, hts⟩ (sx_X12_lowOf l G ad I J ⟨(by show 0 ≤ (I 0 0).toInt ∧ (I 0 0).toInt ≤ 719; exact hma.1), (by show 0 ≤ (I 0 1).toInt ∧ (I 0 1).toInt ≤ 30; exact hma.2.1), (by show 0 ≤ (I 0 2).toInt ∧ (I 0 2).toInt ≤ 200; exact hma.2.2)⟩ ⟨(by show 0 ≤ (I 0 13).toInt ∧ (I 0 13).toInt ≤ 12; exact hmb.1), (by show 0 ≤ (I 0 14).toInt ∧ (I 0 14).toInt ≤ 288; exact hmb.2)⟩ hAtf hAtm x106 (by omega) _) (cwV 1 hts gX12_sums__X12_lowOf rfl rfl rfl hy_X12_lowOf ⟨Nat.le_of_ble_eq_true rfl, Nat.le_of_ble_eq_true rfl⟩) (z_preV (i := 0) hK hW rfl rfl) rfl rfl hl.1 rfl (lv_room (Nat.le_of_ble_eq_true rfl)) dX12_sums__212 ⟨Nat.le_of_ble_eq_true rfl, Nat.le_of_ble_eq_true rfl⟩) (fun r u1 H locs hp hW hS => ?_)
                          rw [hp] at hW
                          refine lv_topl (fun x107 ex107 => ?_)
                          refine lv_lload hx hb dX12_sums__215 (lv_at hl 3 rfl) ?_
                          refine lv_lsub hx hb dX12_sums__217 ?_
                          refine lv_topl (fun w108 ew108 => ?_)
                          refine lv_lload hx hb dX12_sums__218 (lv_at hl 6 rfl) ?_
                          refine W.lcmp hx hb dX12_sums__220 ?_
                          refine lv_topi (fun x109 ex109 => ?_)
                          have tx109 := z_tcmp ex109
                          refine lv_if_le (tgt := 240) hx hb dX12_sums__221 (by decide) (fun c110 => ?_) (fun c110 => ?_)
                          · have g111 := z_f_le rfl z_l0 c110
                            obtain ⟨x112, ex112⟩ : ∃ y : Int32, y = y28 + 1 := ⟨_, rfl⟩
                            have tx112 : x112.toInt = y28.toInt + 1 := z_tadd ex112 rfl z_l1 (by omega) (by omega)
                            refine lv_iinc (v := x112) (lv' := [(15, .int x112), (12, .int 1), (10, .long w57), (6, .long w56), (13, .long w55), (16, .long x54), (8, .long w32), (5, .int x22), (0, .ref (ad 0)), (1, .int a1), (2, .int a2), (3, .int a3), (4, .int a4)]) hx hb dX12_sums__240 hl (k := 5) rfl (by rw [ex112]; rfl) (by decide) rfl (fun ls hl => ?_)
                            refine lv_goto (tgt := 79) hx hb dX12_sums__243 (by decide) ?_
                            exact lp27ih x112 w55 (1) w57 w32 w56 _ _ _ (by omega) (by omega) (by omega) hW hS (lv_sub hl [0, 4, 1, 2, 6, 3, 7, 8, 9, 10, 11, 12] rfl)
                          · have g113 := z_f_nle rfl z_l0 c110
                            refine lv_aload_n hx hb dX12_sums__224 rfl (lv_at hl 8 rfl) ?_
                            refine lv_iload hx hb dX12_sums__225 (lv_at hl 7 rfl) ?_
                            refine lv_iload hx hb dX12_sums__227 (lv_at hl 5 rfl) ?_
                            refine lv_iadd hx hb dX12_sums__229 ?_
                            refine lv_topi (fun x114 ex114 => ?_)
                            have tx114 : x114.toInt = x22.toInt + y28.toInt := z_tadd ex114 rfl rfl (by omega) (by omega)
                            refine lv_iconst (v := 1) hx hb dX12_sums__230 (by decide) ?_
                            refine lv_iadd hx hb dX12_sums__231 ?_
                            refine lv_topi (fun x115 ex115 => ?_)
                            have tx115 : x115.toInt = x114.toInt + 1 := z_tadd ex115 rfl z_l1 (by omega) (by omega)
                            refine z_cl hW hS hA (va_runV (As := [.int x115]) (rest := []) ⟨hx, hb, hml, hown, hts⟩ (sx_X12_lowOf l G ad I J ⟨(by show 0 ≤ (I 0 0).toInt ∧ (I 0 0).toInt ≤ 719; exact hma.1), (by show 0 ≤ (I 0 1).toInt ∧ (I 0 1).toInt ≤ 30; exact hma.2.1), (by show 0 ≤ (I 0 2).toInt ∧ (I 0 2).toInt ≤ 200; exact hma.2.2)⟩ ⟨(by show 0 ≤ (I 0 13).toInt ∧ (I 0 13).toInt ≤ 12; exact hmb.1), (by show 0 ≤ (I 0 14).toInt ∧ (I 0 14).toInt ≤ 288; exact hmb.2)⟩ hAtf hAtm x115 (by omega) _) (cwV 1 hts gX12_sums__X12_lowOf rfl rfl rfl hy_X12_lowOf ⟨Nat.le_of_ble_eq_true rfl, Nat.le_of_ble_eq_true rfl⟩) (z_preV (i := 0) hK hW rfl rfl) rfl rfl hl.1 rfl (lv_room (Nat.le_of_ble_eq_true rfl)) dX12_sums__232 ⟨Nat.le_of_ble_eq_true rfl, Nat.le_of_ble_eq_true rfl⟩) (fun r u1 H locs hp hW hS => ?_)
                            rw [hp] at hW
                            refine lv_topl (fun x116 ex116 => ?_)
                            refine lv_lload hx hb dX12_sums__235 (lv_at hl 3 rfl) ?_
                            refine lv_lsub hx hb dX12_sums__237 ?_
                            refine lv_topl (fun w117 ew117 => ?_)
                            refine lv_lstore (lv' := [(8, .long w117), (12, .int 1), (10, .long w57), (6, .long w56), (13, .long w55), (16, .long x54), (15, .int y28), (5, .int x22), (0, .ref (ad 0)), (1, .int a1), (2, .int a2), (3, .int a3), (4, .int a4)]) hx hb dX12_sums__238 hl (by decide) rfl (fun ls hl => ?_)
                            obtain ⟨x118, ex118⟩ : ∃ y : Int32, y = y28 + 1 := ⟨_, rfl⟩
                            have tx118 : x118.toInt = y28.toInt + 1 := z_tadd ex118 rfl z_l1 (by omega) (by omega)
                            refine lv_iinc (v := x118) (lv' := [(15, .int x118), (8, .long w117), (12, .int 1), (10, .long w57), (6, .long w56), (13, .long w55), (16, .long x54), (5, .int x22), (0, .ref (ad 0)), (1, .int a1), (2, .int a2), (3, .int a3), (4, .int a4)]) hx hb dX12_sums__240 hl (k := 6) rfl (by rw [ex118]; rfl) (by decide) rfl (fun ls hl => ?_)
                            refine lv_goto (tgt := 79) hx hb dX12_sums__243 (by decide) ?_
                            exact lp27ih x118 w55 (1) w57 w117 w56 _ _ _ (by omega) (by omega) (by omega) hW hS (lv_sub hl [0, 5, 2, 3, 1, 4, 7, 8, 9, 10, 11, 12] rfl)
                        · have g119 := z_f_nge rfl z_l0 c103
                          refine lv_ldc2 (v := (-3)) hx hb hown (hts (.constantLong RX12 490 (-3)) (me_s (me_l (me_l (List.mem_of_getElem? (i := 2) rfl))))) dX12_sums__200 ?_
                          exact z_lret hx hb hr hK hS (Nat.le_of_ble_eq_true rfl) (Nat.le_of_ble_eq_true rfl) hlocks dX12_sums__203 (shM, ad, I, J, PM ad) hW rfl
                      · have g120 := z_f_nge rfl z_l0 c97
                        refine lv_aload_n hx hb dX12_sums__167 rfl (lv_at hl 8 rfl) ?_
                        refine lv_iload hx hb dX12_sums__168 (lv_at hl 7 rfl) ?_
                        refine lv_iload hx hb dX12_sums__170 (lv_at hl 4 rfl) ?_
                        refine lv_iadd hx hb dX12_sums__172 ?_
                        refine lv_topi (fun x121 ex121 => ?_)
                        have tx121 : x121.toInt = x22.toInt + y28.toInt := z_tadd ex121 rfl rfl (by omega) (by omega)
                        refine lv_iconst (v := 1) hx hb dX12_sums__173 (by decide) ?_
                        refine lv_iadd hx hb dX12_sums__174 ?_
                        refine lv_topi (fun x122 ex122 => ?_)
                        have tx122 : x122.toInt = x121.toInt + 1 := z_tadd ex122 rfl z_l1 (by omega) (by omega)
                        refine z_cl hW hS hA (va_runV (As := [.int x122]) (rest := []) ⟨hx, hb, hml, hown, hts⟩ (sx_X12_highOf l G ad I J ⟨(by show 0 ≤ (I 0 0).toInt ∧ (I 0 0).toInt ≤ 719; exact hma.1), (by show 0 ≤ (I 0 1).toInt ∧ (I 0 1).toInt ≤ 30; exact hma.2.1), (by show 0 ≤ (I 0 2).toInt ∧ (I 0 2).toInt ≤ 200; exact hma.2.2)⟩ ⟨(by show 0 ≤ (I 0 13).toInt ∧ (I 0 13).toInt ≤ 12; exact hmb.1), (by show 0 ≤ (I 0 14).toInt ∧ (I 0 14).toInt ≤ 288; exact hmb.2)⟩ hAtf hAtm x122 (by omega) _) (cwV 1 hts gX12_sums__X12_highOf rfl rfl rfl hy_X12_highOf ⟨Nat.le_of_ble_eq_true rfl, Nat.le_of_ble_eq_true rfl⟩) (z_preV (i := 0) hK hW rfl rfl) rfl rfl hl.1 rfl (lv_room (Nat.le_of_ble_eq_true rfl)) dX12_sums__175 ⟨Nat.le_of_ble_eq_true rfl, Nat.le_of_ble_eq_true rfl⟩) (fun r u1 H locs hp hW hS => ?_)
                        rw [hp] at hW
                        refine lv_topl (fun x123 ex123 => ?_)
                        refine lv_lstore (lv' := [(10, .long x123), (6, .long w56), (13, .long w55), (16, .long x54), (15, .int y28), (12, .int y30), (8, .long w32), (5, .int x22), (0, .ref (ad 0)), (1, .int a1), (2, .int a2), (3, .int a3), (4, .int a4)]) hx hb dX12_sums__178 hl (by decide) rfl (fun ls hl => ?_)
                        refine lv_iconst (v := 1) hx hb dX12_sums__180 (by decide) ?_
                        refine lv_istore (lv' := [(12, .int 1), (10, .long x123), (6, .long w56), (13, .long w55), (16, .long x54), (15, .int y28), (8, .long w32), (5, .int x22), (0, .ref (ad 0)), (1, .int a1), (2, .int a2), (3, .int a3), (4, .int a4)]) hx hb dX12_sums__181 hl (by decide) rfl (fun ls hl => ?_)
                        refine lv_lload hx hb dX12_sums__183 (lv_at hl 2 rfl) ?_
                        refine lv_aload_n hx hb dX12_sums__185 rfl (lv_at hl 8 rfl) ?_
                        refine lv_iload hx hb dX12_sums__186 (lv_at hl 7 rfl) ?_
                        refine lv_iload hx hb dX12_sums__188 (lv_at hl 5 rfl) ?_
                        refine lv_iadd hx hb dX12_sums__190 ?_
                        refine lv_topi (fun x124 ex124 => ?_)
                        have tx124 : x124.toInt = x22.toInt + y28.toInt := z_tadd ex124 rfl rfl (by omega) (by omega)
                        refine lv_iconst (v := 1) hx hb dX12_sums__191 (by decide) ?_
                        refine lv_iadd hx hb dX12_sums__192 ?_
                        refine lv_topi (fun x125 ex125 => ?_)
                        have tx125 : x125.toInt = x124.toInt + 1 := z_tadd ex125 rfl z_l1 (by omega) (by omega)
                        refine z_cl hW hS hA (va_runV (As := [.int x125]) (rest := [.long w56]) ⟨hx, hb, hml, hown, hts⟩ (sx_X12_lowOf l G ad I J ⟨(by show 0 ≤ (I 0 0).toInt ∧ (I 0 0).toInt ≤ 719; exact hma.1), (by show 0 ≤ (I 0 1).toInt ∧ (I 0 1).toInt ≤ 30; exact hma.2.1), (by show 0 ≤ (I 0 2).toInt ∧ (I 0 2).toInt ≤ 200; exact hma.2.2)⟩ ⟨(by show 0 ≤ (I 0 13).toInt ∧ (I 0 13).toInt ≤ 12; exact hmb.1), (by show 0 ≤ (I 0 14).toInt ∧ (I 0 14).toInt ≤ 288; exact hmb.2)⟩ hAtf hAtm x125 (by omega) _) (cwV 1 hts gX12_sums__X12_lowOf rfl rfl rfl hy_X12_lowOf ⟨Nat.le_of_ble_eq_true rfl, Nat.le_of_ble_eq_true rfl⟩) (z_preV (i := 0) hK hW rfl rfl) rfl rfl hl.1 rfl (lv_room (Nat.le_of_ble_eq_true rfl)) dX12_sums__193 ⟨Nat.le_of_ble_eq_true rfl, Nat.le_of_ble_eq_true rfl⟩) (fun r u1 H locs hp hW hS => ?_)
                        rw [hp] at hW
                        refine lv_topl (fun x126 ex126 => ?_)
                        refine W.lcmp hx hb dX12_sums__196 ?_
                        refine lv_topi (fun x127 ex127 => ?_)
                        have tx127 := z_tcmp ex127
                        refine lv_if_ge (tgt := 204) hx hb dX12_sums__197 (by decide) (fun c128 => ?_) (fun c128 => ?_)
                        · have g129 := z_f_ge rfl z_l0 c128
                          refine lv_aload_n hx hb dX12_sums__204 rfl (lv_at hl 8 rfl) ?_
                          refine lv_iload hx hb dX12_sums__205 (lv_at hl 7 rfl) ?_
                          refine lv_iload hx hb dX12_sums__207 (lv_at hl 5 rfl) ?_
                          refine lv_iadd hx hb dX12_sums__209 ?_
                          refine lv_topi (fun x130 ex130 => ?_)
                          have tx130 : x130.toInt = x22.toInt + y28.toInt := z_tadd ex130 rfl rfl (by omega) (by omega)
                          refine lv_iconst (v := 1) hx hb dX12_sums__210 (by decide) ?_
                          refine lv_iadd hx hb dX12_sums__211 ?_
                          refine lv_topi (fun x131 ex131 => ?_)
                          have tx131 : x131.toInt = x130.toInt + 1 := z_tadd ex131 rfl z_l1 (by omega) (by omega)
                          refine z_cl hW hS hA (va_runV (As := [.int x131]) (rest := []) ⟨hx, hb, hml, hown, hts⟩ (sx_X12_lowOf l G ad I J ⟨(by show 0 ≤ (I 0 0).toInt ∧ (I 0 0).toInt ≤ 719; exact hma.1), (by show 0 ≤ (I 0 1).toInt ∧ (I 0 1).toInt ≤ 30; exact hma.2.1), (by show 0 ≤ (I 0 2).toInt ∧ (I 0 2).toInt ≤ 200; exact hma.2.2)⟩ ⟨(by show 0 ≤ (I 0 13).toInt ∧ (I 0 13).toInt ≤ 12; exact hmb.1), (by show 0 ≤ (I 0 14).toInt ∧ (I 0 14).toInt ≤ 288; exact hmb.2)⟩ hAtf hAtm x131 (by omega) _) (cwV 1 hts gX12_sums__X12_lowOf rfl rfl rfl hy_X12_lowOf ⟨Nat.le_of_ble_eq_true rfl, Nat.le_of_ble_eq_true rfl⟩) (z_preV (i := 0) hK hW rfl rfl) rfl rfl hl.1 rfl (lv_room (Nat.le_of_ble_eq_true rfl)) dX12_sums__212 ⟨Nat.le_of_ble_eq_true rfl, Nat.le_of_ble_eq_true rfl⟩) (fun r u1 H locs hp hW hS => ?_)
                          rw [hp] at hW
                          refine lv_topl (fun x132 ex132 => ?_)
                          refine lv_lload hx hb dX12_sums__215 (lv_at hl 3 rfl) ?_
                          refine lv_lsub hx hb dX12_sums__217 ?_
                          refine lv_topl (fun w133 ew133 => ?_)
                          refine lv_lload hx hb dX12_sums__218 (lv_at hl 6 rfl) ?_
                          refine W.lcmp hx hb dX12_sums__220 ?_
                          refine lv_topi (fun x134 ex134 => ?_)
                          have tx134 := z_tcmp ex134
                          refine lv_if_le (tgt := 240) hx hb dX12_sums__221 (by decide) (fun c135 => ?_) (fun c135 => ?_)
                          · have g136 := z_f_le rfl z_l0 c135
                            obtain ⟨x137, ex137⟩ : ∃ y : Int32, y = y28 + 1 := ⟨_, rfl⟩
                            have tx137 : x137.toInt = y28.toInt + 1 := z_tadd ex137 rfl z_l1 (by omega) (by omega)
                            refine lv_iinc (v := x137) (lv' := [(15, .int x137), (12, .int 1), (10, .long x123), (6, .long w56), (13, .long w55), (16, .long x54), (8, .long w32), (5, .int x22), (0, .ref (ad 0)), (1, .int a1), (2, .int a2), (3, .int a3), (4, .int a4)]) hx hb dX12_sums__240 hl (k := 5) rfl (by rw [ex137]; rfl) (by decide) rfl (fun ls hl => ?_)
                            refine lv_goto (tgt := 79) hx hb dX12_sums__243 (by decide) ?_
                            exact lp27ih x137 w55 (1) x123 w32 w56 _ _ _ (by omega) (by omega) (by omega) hW hS (lv_sub hl [0, 4, 1, 2, 6, 3, 7, 8, 9, 10, 11, 12] rfl)
                          · have g138 := z_f_nle rfl z_l0 c135
                            refine lv_aload_n hx hb dX12_sums__224 rfl (lv_at hl 8 rfl) ?_
                            refine lv_iload hx hb dX12_sums__225 (lv_at hl 7 rfl) ?_
                            refine lv_iload hx hb dX12_sums__227 (lv_at hl 5 rfl) ?_
                            refine lv_iadd hx hb dX12_sums__229 ?_
                            refine lv_topi (fun x139 ex139 => ?_)
                            have tx139 : x139.toInt = x22.toInt + y28.toInt := z_tadd ex139 rfl rfl (by omega) (by omega)
                            refine lv_iconst (v := 1) hx hb dX12_sums__230 (by decide) ?_
                            refine lv_iadd hx hb dX12_sums__231 ?_
                            refine lv_topi (fun x140 ex140 => ?_)
                            have tx140 : x140.toInt = x139.toInt + 1 := z_tadd ex140 rfl z_l1 (by omega) (by omega)
                            refine z_cl hW hS hA (va_runV (As := [.int x140]) (rest := []) ⟨hx, hb, hml, hown, hts⟩ (sx_X12_lowOf l G ad I J ⟨(by show 0 ≤ (I 0 0).toInt ∧ (I 0 0).toInt ≤ 719; exact hma.1), (by show 0 ≤ (I 0 1).toInt ∧ (I 0 1).toInt ≤ 30; exact hma.2.1), (by show 0 ≤ (I 0 2).toInt ∧ (I 0 2).toInt ≤ 200; exact hma.2.2)⟩ ⟨(by show 0 ≤ (I 0 13).toInt ∧ (I 0 13).toInt ≤ 12; exact hmb.1), (by show 0 ≤ (I 0 14).toInt ∧ (I 0 14).toInt ≤ 288; exact hmb.2)⟩ hAtf hAtm x140 (by omega) _) (cwV 1 hts gX12_sums__X12_lowOf rfl rfl rfl hy_X12_lowOf ⟨Nat.le_of_ble_eq_true rfl, Nat.le_of_ble_eq_true rfl⟩) (z_preV (i := 0) hK hW rfl rfl) rfl rfl hl.1 rfl (lv_room (Nat.le_of_ble_eq_true rfl)) dX12_sums__232 ⟨Nat.le_of_ble_eq_true rfl, Nat.le_of_ble_eq_true rfl⟩) (fun r u1 H locs hp hW hS => ?_)
                            rw [hp] at hW
                            refine lv_topl (fun x141 ex141 => ?_)
                            refine lv_lload hx hb dX12_sums__235 (lv_at hl 3 rfl) ?_
                            refine lv_lsub hx hb dX12_sums__237 ?_
                            refine lv_topl (fun w142 ew142 => ?_)
                            refine lv_lstore (lv' := [(8, .long w142), (12, .int 1), (10, .long x123), (6, .long w56), (13, .long w55), (16, .long x54), (15, .int y28), (5, .int x22), (0, .ref (ad 0)), (1, .int a1), (2, .int a2), (3, .int a3), (4, .int a4)]) hx hb dX12_sums__238 hl (by decide) rfl (fun ls hl => ?_)
                            obtain ⟨x143, ex143⟩ : ∃ y : Int32, y = y28 + 1 := ⟨_, rfl⟩
                            have tx143 : x143.toInt = y28.toInt + 1 := z_tadd ex143 rfl z_l1 (by omega) (by omega)
                            refine lv_iinc (v := x143) (lv' := [(15, .int x143), (8, .long w142), (12, .int 1), (10, .long x123), (6, .long w56), (13, .long w55), (16, .long x54), (5, .int x22), (0, .ref (ad 0)), (1, .int a1), (2, .int a2), (3, .int a3), (4, .int a4)]) hx hb dX12_sums__240 hl (k := 6) rfl (by rw [ex143]; rfl) (by decide) rfl (fun ls hl => ?_)
                            refine lv_goto (tgt := 79) hx hb dX12_sums__243 (by decide) ?_
                            exact lp27ih x143 w55 (1) x123 w142 w56 _ _ _ (by omega) (by omega) (by omega) hW hS (lv_sub hl [0, 5, 2, 3, 1, 4, 7, 8, 9, 10, 11, 12] rfl)
                        · have g144 := z_f_nge rfl z_l0 c128
                          refine lv_ldc2 (v := (-3)) hx hb hown (hts (.constantLong RX12 490 (-3)) (me_s (me_l (me_l (List.mem_of_getElem? (i := 2) rfl))))) dX12_sums__200 ?_
                          exact z_lret hx hb hr hK hS (Nat.le_of_ble_eq_true rfl) (Nat.le_of_ble_eq_true rfl) hlocks dX12_sums__203 (shM, ad, I, J, PM ad) hW rfl
                  · have g145 := z_f_nge rfl z_l0 c62
                    refine lv_aload_n hx hb dX12_sums__132 rfl (lv_at hl 8 rfl) ?_
                    refine lv_iload hx hb dX12_sums__133 (lv_at hl 7 rfl) ?_
                    refine lv_iload hx hb dX12_sums__135 (lv_at hl 4 rfl) ?_
                    refine lv_iadd hx hb dX12_sums__137 ?_
                    refine lv_topi (fun x146 ex146 => ?_)
                    have tx146 : x146.toInt = x22.toInt + y28.toInt := z_tadd ex146 rfl rfl (by omega) (by omega)
                    refine lv_iconst (v := 1) hx hb dX12_sums__138 (by decide) ?_
                    refine lv_iadd hx hb dX12_sums__139 ?_
                    refine lv_topi (fun x147 ex147 => ?_)
                    have tx147 : x147.toInt = x146.toInt + 1 := z_tadd ex147 rfl z_l1 (by omega) (by omega)
                    refine z_cl hW hS hA (va_runV (As := [.int x147]) (rest := []) ⟨hx, hb, hml, hown, hts⟩ (sx_X12_highOf l G ad I J ⟨(by show 0 ≤ (I 0 0).toInt ∧ (I 0 0).toInt ≤ 719; exact hma.1), (by show 0 ≤ (I 0 1).toInt ∧ (I 0 1).toInt ≤ 30; exact hma.2.1), (by show 0 ≤ (I 0 2).toInt ∧ (I 0 2).toInt ≤ 200; exact hma.2.2)⟩ ⟨(by show 0 ≤ (I 0 13).toInt ∧ (I 0 13).toInt ≤ 12; exact hmb.1), (by show 0 ≤ (I 0 14).toInt ∧ (I 0 14).toInt ≤ 288; exact hmb.2)⟩ hAtf hAtm x147 (by omega) _) (cwV 1 hts gX12_sums__X12_highOf rfl rfl rfl hy_X12_highOf ⟨Nat.le_of_ble_eq_true rfl, Nat.le_of_ble_eq_true rfl⟩) (z_preV (i := 0) hK hW rfl rfl) rfl rfl hl.1 rfl (lv_room (Nat.le_of_ble_eq_true rfl)) dX12_sums__140 ⟨Nat.le_of_ble_eq_true rfl, Nat.le_of_ble_eq_true rfl⟩) (fun r u1 H locs hp hW hS => ?_)
                    rw [hp] at hW
                    refine lv_topl (fun x148 ex148 => ?_)
                    refine lv_lstore (lv' := [(6, .long x148), (10, .long w57), (13, .long w55), (16, .long x54), (15, .int y28), (12, .int y30), (8, .long w32), (5, .int x22), (0, .ref (ad 0)), (1, .int a1), (2, .int a2), (3, .int a3), (4, .int a4)]) hx hb dX12_sums__143 hl (by decide) rfl (fun ls hl => ?_)
                    refine lv_iload hx hb dX12_sums__145 (lv_at hl 5 rfl) ?_
                    refine lv_if_eq (tgt := 167) hx hb dX12_sums__147 (by decide) (fun c149 => ?_) (fun c149 => ?_)
                    · have g150 := z_f_eq rfl z_l0 c149
                      have b151 := Int32.toInt_lt y30
                      refine lv_aload_n hx hb dX12_sums__167 rfl (lv_at hl 8 rfl) ?_
                      refine lv_iload hx hb dX12_sums__168 (lv_at hl 7 rfl) ?_
                      refine lv_iload hx hb dX12_sums__170 (lv_at hl 4 rfl) ?_
                      refine lv_iadd hx hb dX12_sums__172 ?_
                      refine lv_topi (fun x152 ex152 => ?_)
                      have tx152 : x152.toInt = x22.toInt + y28.toInt := z_tadd ex152 rfl rfl (by omega) (by omega)
                      refine lv_iconst (v := 1) hx hb dX12_sums__173 (by decide) ?_
                      refine lv_iadd hx hb dX12_sums__174 ?_
                      refine lv_topi (fun x153 ex153 => ?_)
                      have tx153 : x153.toInt = x152.toInt + 1 := z_tadd ex153 rfl z_l1 (by omega) (by omega)
                      refine z_cl hW hS hA (va_runV (As := [.int x153]) (rest := []) ⟨hx, hb, hml, hown, hts⟩ (sx_X12_highOf l G ad I J ⟨(by show 0 ≤ (I 0 0).toInt ∧ (I 0 0).toInt ≤ 719; exact hma.1), (by show 0 ≤ (I 0 1).toInt ∧ (I 0 1).toInt ≤ 30; exact hma.2.1), (by show 0 ≤ (I 0 2).toInt ∧ (I 0 2).toInt ≤ 200; exact hma.2.2)⟩ ⟨(by show 0 ≤ (I 0 13).toInt ∧ (I 0 13).toInt ≤ 12; exact hmb.1), (by show 0 ≤ (I 0 14).toInt ∧ (I 0 14).toInt ≤ 288; exact hmb.2)⟩ hAtf hAtm x153 (by omega) _) (cwV 1 hts gX12_sums__X12_highOf rfl rfl rfl hy_X12_highOf ⟨Nat.le_of_ble_eq_true rfl, Nat.le_of_ble_eq_true rfl⟩) (z_preV (i := 0) hK hW rfl rfl) rfl rfl hl.1 rfl (lv_room (Nat.le_of_ble_eq_true rfl)) dX12_sums__175 ⟨Nat.le_of_ble_eq_true rfl, Nat.le_of_ble_eq_true rfl⟩) (fun r u1 H locs hp hW hS => ?_)
                      rw [hp] at hW
                      refine lv_topl (fun x154 ex154 => ?_)
                      refine lv_lstore (lv' := [(10, .long x154), (6, .long x148), (13, .long w55), (16, .long x54), (15, .int y28), (12, .int y30), (8, .long w32), (5, .int x22), (0, .ref (ad 0)), (1, .int a1), (2, .int a2), (3, .int a3), (4, .int a4)]) hx hb dX12_sums__178 hl (by decide) rfl (fun ls hl => ?_)
                      refine lv_iconst (v := 1) hx hb dX12_sums__180 (by decide) ?_
                      refine lv_istore (lv' := [(12, .int 1), (10, .long x154), (6, .long x148), (13, .long w55), (16, .long x54), (15, .int y28), (8, .long w32), (5, .int x22), (0, .ref (ad 0)), (1, .int a1), (2, .int a2), (3, .int a3), (4, .int a4)]) hx hb dX12_sums__181 hl (by decide) rfl (fun ls hl => ?_)
                      refine lv_lload hx hb dX12_sums__183 (lv_at hl 2 rfl) ?_
                      refine lv_aload_n hx hb dX12_sums__185 rfl (lv_at hl 8 rfl) ?_
                      refine lv_iload hx hb dX12_sums__186 (lv_at hl 7 rfl) ?_
                      refine lv_iload hx hb dX12_sums__188 (lv_at hl 5 rfl) ?_
                      refine lv_iadd hx hb dX12_sums__190 ?_
                      refine lv_topi (fun x155 ex155 => ?_)
                      have tx155 : x155.toInt = x22.toInt + y28.toInt := z_tadd ex155 rfl rfl (by omega) (by omega)
                      refine lv_iconst (v := 1) hx hb dX12_sums__191 (by decide) ?_
                      refine lv_iadd hx hb dX12_sums__192 ?_
                      refine lv_topi (fun x156 ex156 => ?_)
                      have tx156 : x156.toInt = x155.toInt + 1 := z_tadd ex156 rfl z_l1 (by omega) (by omega)
                      refine z_cl hW hS hA (va_runV (As := [.int x156]) (rest := [.long x148]) ⟨hx, hb, hml, hown, hts⟩ (sx_X12_lowOf l G ad I J ⟨(by show 0 ≤ (I 0 0).toInt ∧ (I 0 0).toInt ≤ 719; exact hma.1), (by show 0 ≤ (I 0 1).toInt ∧ (I 0 1).toInt ≤ 30; exact hma.2.1), (by show 0 ≤ (I 0 2).toInt ∧ (I 0 2).toInt ≤ 200; exact hma.2.2)⟩ ⟨(by show 0 ≤ (I 0 13).toInt ∧ (I 0 13).toInt ≤ 12; exact hmb.1), (by show 0 ≤ (I 0 14).toInt ∧ (I 0 14).toInt ≤ 288; exact hmb.2)⟩ hAtf hAtm x156 (by omega) _) (cwV 1 hts gX12_sums__X12_lowOf rfl rfl rfl hy_X12_lowOf ⟨Nat.le_of_ble_eq_true rfl, Nat.le_of_ble_eq_true rfl⟩) (z_preV (i := 0) hK hW rfl rfl) rfl rfl hl.1 rfl (lv_room (Nat.le_of_ble_eq_true rfl)) dX12_sums__193 ⟨Nat.le_of_ble_eq_true rfl, Nat.le_of_ble_eq_true rfl⟩) (fun r u1 H locs hp hW hS => ?_)
                      rw [hp] at hW
                      refine lv_topl (fun x157 ex157 => ?_)
                      refine W.lcmp hx hb dX12_sums__196 ?_
                      refine lv_topi (fun x158 ex158 => ?_)
                      have tx158 := z_tcmp ex158
                      refine lv_if_ge (tgt := 204) hx hb dX12_sums__197 (by decide) (fun c159 => ?_) (fun c159 => ?_)
                      · have g160 := z_f_ge rfl z_l0 c159
                        refine lv_aload_n hx hb dX12_sums__204 rfl (lv_at hl 8 rfl) ?_
                        refine lv_iload hx hb dX12_sums__205 (lv_at hl 7 rfl) ?_
                        refine lv_iload hx hb dX12_sums__207 (lv_at hl 5 rfl) ?_
                        refine lv_iadd hx hb dX12_sums__209 ?_
                        refine lv_topi (fun x161 ex161 => ?_)
                        have tx161 : x161.toInt = x22.toInt + y28.toInt := z_tadd ex161 rfl rfl (by omega) (by omega)
                        refine lv_iconst (v := 1) hx hb dX12_sums__210 (by decide) ?_
                        refine lv_iadd hx hb dX12_sums__211 ?_
                        refine lv_topi (fun x162 ex162 => ?_)
                        have tx162 : x162.toInt = x161.toInt + 1 := z_tadd ex162 rfl z_l1 (by omega) (by omega)
                        refine z_cl hW hS hA (va_runV (As := [.int x162]) (rest := []) ⟨hx, hb, hml, hown, hts⟩ (sx_X12_lowOf l G ad I J ⟨(by show 0 ≤ (I 0 0).toInt ∧ (I 0 0).toInt ≤ 719; exact hma.1), (by show 0 ≤ (I 0 1).toInt ∧ (I 0 1).toInt ≤ 30; exact hma.2.1), (by show 0 ≤ (I 0 2).toInt ∧ (I 0 2).toInt ≤ 200; exact hma.2.2)⟩ ⟨(by show 0 ≤ (I 0 13).toInt ∧ (I 0 13).toInt ≤ 12; exact hmb.1), (by show 0 ≤ (I 0 14).toInt ∧ (I 0 14).toInt ≤ 288; exact hmb.2)⟩ hAtf hAtm x162 (by omega) _) (cwV 1 hts gX12_sums__X12_lowOf rfl rfl rfl hy_X12_lowOf ⟨Nat.le_of_ble_eq_true rfl, Nat.le_of_ble_eq_true rfl⟩) (z_preV (i := 0) hK hW rfl rfl) rfl rfl hl.1 rfl (lv_room (Nat.le_of_ble_eq_true rfl)) dX12_sums__212 ⟨Nat.le_of_ble_eq_true rfl, Nat.le_of_ble_eq_true rfl⟩) (fun r u1 H locs hp hW hS => ?_)
                        rw [hp] at hW
                        refine lv_topl (fun x163 ex163 => ?_)
                        refine lv_lload hx hb dX12_sums__215 (lv_at hl 3 rfl) ?_
                        refine lv_lsub hx hb dX12_sums__217 ?_
                        refine lv_topl (fun w164 ew164 => ?_)
                        refine lv_lload hx hb dX12_sums__218 (lv_at hl 6 rfl) ?_
                        refine W.lcmp hx hb dX12_sums__220 ?_
                        refine lv_topi (fun x165 ex165 => ?_)
                        have tx165 := z_tcmp ex165
                        refine lv_if_le (tgt := 240) hx hb dX12_sums__221 (by decide) (fun c166 => ?_) (fun c166 => ?_)
                        · have g167 := z_f_le rfl z_l0 c166
                          obtain ⟨x168, ex168⟩ : ∃ y : Int32, y = y28 + 1 := ⟨_, rfl⟩
                          have tx168 : x168.toInt = y28.toInt + 1 := z_tadd ex168 rfl z_l1 (by omega) (by omega)
                          refine lv_iinc (v := x168) (lv' := [(15, .int x168), (12, .int 1), (10, .long x154), (6, .long x148), (13, .long w55), (16, .long x54), (8, .long w32), (5, .int x22), (0, .ref (ad 0)), (1, .int a1), (2, .int a2), (3, .int a3), (4, .int a4)]) hx hb dX12_sums__240 hl (k := 5) rfl (by rw [ex168]; rfl) (by decide) rfl (fun ls hl => ?_)
                          refine lv_goto (tgt := 79) hx hb dX12_sums__243 (by decide) ?_
                          exact lp27ih x168 w55 (1) x154 w32 x148 _ _ _ (by omega) (by omega) (by omega) hW hS (lv_sub hl [0, 4, 1, 2, 6, 3, 7, 8, 9, 10, 11, 12] rfl)
                        · have g169 := z_f_nle rfl z_l0 c166
                          refine lv_aload_n hx hb dX12_sums__224 rfl (lv_at hl 8 rfl) ?_
                          refine lv_iload hx hb dX12_sums__225 (lv_at hl 7 rfl) ?_
                          refine lv_iload hx hb dX12_sums__227 (lv_at hl 5 rfl) ?_
                          refine lv_iadd hx hb dX12_sums__229 ?_
                          refine lv_topi (fun x170 ex170 => ?_)
                          have tx170 : x170.toInt = x22.toInt + y28.toInt := z_tadd ex170 rfl rfl (by omega) (by omega)
                          refine lv_iconst (v := 1) hx hb dX12_sums__230 (by decide) ?_
                          refine lv_iadd hx hb dX12_sums__231 ?_
                          refine lv_topi (fun x171 ex171 => ?_)
                          have tx171 : x171.toInt = x170.toInt + 1 := z_tadd ex171 rfl z_l1 (by omega) (by omega)
                          refine z_cl hW hS hA (va_runV (As := [.int x171]) (rest := []) ⟨hx, hb, hml, hown, hts⟩ (sx_X12_lowOf l G ad I J ⟨(by show 0 ≤ (I 0 0).toInt ∧ (I 0 0).toInt ≤ 719; exact hma.1), (by show 0 ≤ (I 0 1).toInt ∧ (I 0 1).toInt ≤ 30; exact hma.2.1), (by show 0 ≤ (I 0 2).toInt ∧ (I 0 2).toInt ≤ 200; exact hma.2.2)⟩ ⟨(by show 0 ≤ (I 0 13).toInt ∧ (I 0 13).toInt ≤ 12; exact hmb.1), (by show 0 ≤ (I 0 14).toInt ∧ (I 0 14).toInt ≤ 288; exact hmb.2)⟩ hAtf hAtm x171 (by omega) _) (cwV 1 hts gX12_sums__X12_lowOf rfl rfl rfl hy_X12_lowOf ⟨Nat.le_of_ble_eq_true rfl, Nat.le_of_ble_eq_true rfl⟩) (z_preV (i := 0) hK hW rfl rfl) rfl rfl hl.1 rfl (lv_room (Nat.le_of_ble_eq_true rfl)) dX12_sums__232 ⟨Nat.le_of_ble_eq_true rfl, Nat.le_of_ble_eq_true rfl⟩) (fun r u1 H locs hp hW hS => ?_)
                          rw [hp] at hW
                          refine lv_topl (fun x172 ex172 => ?_)
                          refine lv_lload hx hb dX12_sums__235 (lv_at hl 3 rfl) ?_
                          refine lv_lsub hx hb dX12_sums__237 ?_
                          refine lv_topl (fun w173 ew173 => ?_)
                          refine lv_lstore (lv' := [(8, .long w173), (12, .int 1), (10, .long x154), (6, .long x148), (13, .long w55), (16, .long x54), (15, .int y28), (5, .int x22), (0, .ref (ad 0)), (1, .int a1), (2, .int a2), (3, .int a3), (4, .int a4)]) hx hb dX12_sums__238 hl (by decide) rfl (fun ls hl => ?_)
                          obtain ⟨x174, ex174⟩ : ∃ y : Int32, y = y28 + 1 := ⟨_, rfl⟩
                          have tx174 : x174.toInt = y28.toInt + 1 := z_tadd ex174 rfl z_l1 (by omega) (by omega)
                          refine lv_iinc (v := x174) (lv' := [(15, .int x174), (8, .long w173), (12, .int 1), (10, .long x154), (6, .long x148), (13, .long w55), (16, .long x54), (5, .int x22), (0, .ref (ad 0)), (1, .int a1), (2, .int a2), (3, .int a3), (4, .int a4)]) hx hb dX12_sums__240 hl (k := 6) rfl (by rw [ex174]; rfl) (by decide) rfl (fun ls hl => ?_)
                          refine lv_goto (tgt := 79) hx hb dX12_sums__243 (by decide) ?_
                          exact lp27ih x174 w55 (1) x154 w173 x148 _ _ _ (by omega) (by omega) (by omega) hW hS (lv_sub hl [0, 5, 2, 3, 1, 4, 7, 8, 9, 10, 11, 12] rfl)
                      · have g175 := z_f_nge rfl z_l0 c159
                        refine lv_ldc2 (v := (-3)) hx hb hown (hts (.constantLong RX12 490 (-3)) (me_s (me_l (me_l (List.mem_of_getElem? (i := 2) rfl))))) dX12_sums__200 ?_
                        exact z_lret hx hb hr hK hS (Nat.le_of_ble_eq_true rfl) (Nat.le_of_ble_eq_true rfl) hlocks dX12_sums__203 (shM, ad, I, J, PM ad) hW rfl
                    · have g176 := z_f_ne rfl z_l0 c149
                      have b177 := Int32.toInt_lt y30
                      refine lv_aload_n hx hb dX12_sums__150 rfl (lv_at hl 8 rfl) ?_
                      refine lv_iload hx hb dX12_sums__151 (lv_at hl 7 rfl) ?_
                      refine lv_iload hx hb dX12_sums__153 (lv_at hl 4 rfl) ?_
                      refine lv_iadd hx hb dX12_sums__155 ?_
                      refine lv_topi (fun x178 ex178 => ?_)
                      have tx178 : x178.toInt = x22.toInt + y28.toInt := z_tadd ex178 rfl rfl (by omega) (by omega)
                      refine lv_iconst (v := 1) hx hb dX12_sums__156 (by decide) ?_
                      refine lv_iadd hx hb dX12_sums__157 ?_
                      refine lv_topi (fun x179 ex179 => ?_)
                      have tx179 : x179.toInt = x178.toInt + 1 := z_tadd ex179 rfl z_l1 (by omega) (by omega)
                      refine z_cl hW hS hA (va_runV (As := [.int x179]) (rest := []) ⟨hx, hb, hml, hown, hts⟩ (sx_X12_highOf l G ad I J ⟨(by show 0 ≤ (I 0 0).toInt ∧ (I 0 0).toInt ≤ 719; exact hma.1), (by show 0 ≤ (I 0 1).toInt ∧ (I 0 1).toInt ≤ 30; exact hma.2.1), (by show 0 ≤ (I 0 2).toInt ∧ (I 0 2).toInt ≤ 200; exact hma.2.2)⟩ ⟨(by show 0 ≤ (I 0 13).toInt ∧ (I 0 13).toInt ≤ 12; exact hmb.1), (by show 0 ≤ (I 0 14).toInt ∧ (I 0 14).toInt ≤ 288; exact hmb.2)⟩ hAtf hAtm x179 (by omega) _) (cwV 1 hts gX12_sums__X12_highOf rfl rfl rfl hy_X12_highOf ⟨Nat.le_of_ble_eq_true rfl, Nat.le_of_ble_eq_true rfl⟩) (z_preV (i := 0) hK hW rfl rfl) rfl rfl hl.1 rfl (lv_room (Nat.le_of_ble_eq_true rfl)) dX12_sums__158 ⟨Nat.le_of_ble_eq_true rfl, Nat.le_of_ble_eq_true rfl⟩) (fun r u1 H locs hp hW hS => ?_)
                      rw [hp] at hW
                      refine lv_topl (fun x180 ex180 => ?_)
                      refine lv_lload hx hb dX12_sums__161 (lv_at hl 1 rfl) ?_
                      refine W.lcmp hx hb dX12_sums__163 ?_
                      refine lv_topi (fun x181 ex181 => ?_)
                      have tx181 := z_tcmp ex181
                      refine lv_if_ge (tgt := 180) hx hb dX12_sums__164 (by decide) (fun c182 => ?_) (fun c182 => ?_)
                      · have g183 := z_f_ge rfl z_l0 c182
                        refine lv_iconst (v := 1) hx hb dX12_sums__180 (by decide) ?_
                        refine lv_istore (lv' := [(12, .int 1), (6, .long x148), (10, .long w57), (13, .long w55), (16, .long x54), (15, .int y28), (8, .long w32), (5, .int x22), (0, .ref (ad 0)), (1, .int a1), (2, .int a2), (3, .int a3), (4, .int a4)]) hx hb dX12_sums__181 hl (by decide) rfl (fun ls hl => ?_)
                        refine lv_lload hx hb dX12_sums__183 (lv_at hl 1 rfl) ?_
                        refine lv_aload_n hx hb dX12_sums__185 rfl (lv_at hl 8 rfl) ?_
                        refine lv_iload hx hb dX12_sums__186 (lv_at hl 7 rfl) ?_
                        refine lv_iload hx hb dX12_sums__188 (lv_at hl 5 rfl) ?_
                        refine lv_iadd hx hb dX12_sums__190 ?_
                        refine lv_topi (fun x184 ex184 => ?_)
                        have tx184 : x184.toInt = x22.toInt + y28.toInt := z_tadd ex184 rfl rfl (by omega) (by omega)
                        refine lv_iconst (v := 1) hx hb dX12_sums__191 (by decide) ?_
                        refine lv_iadd hx hb dX12_sums__192 ?_
                        refine lv_topi (fun x185 ex185 => ?_)
                        have tx185 : x185.toInt = x184.toInt + 1 := z_tadd ex185 rfl z_l1 (by omega) (by omega)
                        refine z_cl hW hS hA (va_runV (As := [.int x185]) (rest := [.long x148]) ⟨hx, hb, hml, hown, hts⟩ (sx_X12_lowOf l G ad I J ⟨(by show 0 ≤ (I 0 0).toInt ∧ (I 0 0).toInt ≤ 719; exact hma.1), (by show 0 ≤ (I 0 1).toInt ∧ (I 0 1).toInt ≤ 30; exact hma.2.1), (by show 0 ≤ (I 0 2).toInt ∧ (I 0 2).toInt ≤ 200; exact hma.2.2)⟩ ⟨(by show 0 ≤ (I 0 13).toInt ∧ (I 0 13).toInt ≤ 12; exact hmb.1), (by show 0 ≤ (I 0 14).toInt ∧ (I 0 14).toInt ≤ 288; exact hmb.2)⟩ hAtf hAtm x185 (by omega) _) (cwV 1 hts gX12_sums__X12_lowOf rfl rfl rfl hy_X12_lowOf ⟨Nat.le_of_ble_eq_true rfl, Nat.le_of_ble_eq_true rfl⟩) (z_preV (i := 0) hK hW rfl rfl) rfl rfl hl.1 rfl (lv_room (Nat.le_of_ble_eq_true rfl)) dX12_sums__193 ⟨Nat.le_of_ble_eq_true rfl, Nat.le_of_ble_eq_true rfl⟩) (fun r u1 H locs hp hW hS => ?_)
                        rw [hp] at hW
                        refine lv_topl (fun x186 ex186 => ?_)
                        refine W.lcmp hx hb dX12_sums__196 ?_
                        refine lv_topi (fun x187 ex187 => ?_)
                        have tx187 := z_tcmp ex187
                        refine lv_if_ge (tgt := 204) hx hb dX12_sums__197 (by decide) (fun c188 => ?_) (fun c188 => ?_)
                        · have g189 := z_f_ge rfl z_l0 c188
                          refine lv_aload_n hx hb dX12_sums__204 rfl (lv_at hl 8 rfl) ?_
                          refine lv_iload hx hb dX12_sums__205 (lv_at hl 7 rfl) ?_
                          refine lv_iload hx hb dX12_sums__207 (lv_at hl 5 rfl) ?_
                          refine lv_iadd hx hb dX12_sums__209 ?_
                          refine lv_topi (fun x190 ex190 => ?_)
                          have tx190 : x190.toInt = x22.toInt + y28.toInt := z_tadd ex190 rfl rfl (by omega) (by omega)
                          refine lv_iconst (v := 1) hx hb dX12_sums__210 (by decide) ?_
                          refine lv_iadd hx hb dX12_sums__211 ?_
                          refine lv_topi (fun x191 ex191 => ?_)
                          have tx191 : x191.toInt = x190.toInt + 1 := z_tadd ex191 rfl z_l1 (by omega) (by omega)
                          refine z_cl hW hS hA (va_runV (As := [.int x191]) (rest := []) ⟨hx, hb, hml, hown, hts⟩ (sx_X12_lowOf l G ad I J ⟨(by show 0 ≤ (I 0 0).toInt ∧ (I 0 0).toInt ≤ 719; exact hma.1), (by show 0 ≤ (I 0 1).toInt ∧ (I 0 1).toInt ≤ 30; exact hma.2.1), (by show 0 ≤ (I 0 2).toInt ∧ (I 0 2).toInt ≤ 200; exact hma.2.2)⟩ ⟨(by show 0 ≤ (I 0 13).toInt ∧ (I 0 13).toInt ≤ 12; exact hmb.1), (by show 0 ≤ (I 0 14).toInt ∧ (I 0 14).toInt ≤ 288; exact hmb.2)⟩ hAtf hAtm x191 (by omega) _) (cwV 1 hts gX12_sums__X12_lowOf rfl rfl rfl hy_X12_lowOf ⟨Nat.le_of_ble_eq_true rfl, Nat.le_of_ble_eq_true rfl⟩) (z_preV (i := 0) hK hW rfl rfl) rfl rfl hl.1 rfl (lv_room (Nat.le_of_ble_eq_true rfl)) dX12_sums__212 ⟨Nat.le_of_ble_eq_true rfl, Nat.le_of_ble_eq_true rfl⟩) (fun r u1 H locs hp hW hS => ?_)
                          rw [hp] at hW
                          refine lv_topl (fun x192 ex192 => ?_)
                          refine lv_lload hx hb dX12_sums__215 (lv_at hl 3 rfl) ?_
                          refine lv_lsub hx hb dX12_sums__217 ?_
                          refine lv_topl (fun w193 ew193 => ?_)
                          refine lv_lload hx hb dX12_sums__218 (lv_at hl 6 rfl) ?_
                          refine W.lcmp hx hb dX12_sums__220 ?_
                          refine lv_topi (fun x194 ex194 => ?_)
                          have tx194 := z_tcmp ex194
                          refine lv_if_le (tgt := 240) hx hb dX12_sums__221 (by decide) (fun c195 => ?_) (fun c195 => ?_)
                          · have g196 := z_f_le rfl z_l0 c195
                            obtain ⟨x197, ex197⟩ : ∃ y : Int32, y = y28 + 1 := ⟨_, rfl⟩
                            have tx197 : x197.toInt = y28.toInt + 1 := z_tadd ex197 rfl z_l1 (by omega) (by omega)
                            refine lv_iinc (v := x197) (lv' := [(15, .int x197), (12, .int 1), (6, .long x148), (10, .long w57), (13, .long w55), (16, .long x54), (8, .long w32), (5, .int x22), (0, .ref (ad 0)), (1, .int a1), (2, .int a2), (3, .int a3), (4, .int a4)]) hx hb dX12_sums__240 hl (k := 5) rfl (by rw [ex197]; rfl) (by decide) rfl (fun ls hl => ?_)
                            refine lv_goto (tgt := 79) hx hb dX12_sums__243 (by decide) ?_
                            exact lp27ih x197 w55 (1) w57 w32 x148 _ _ _ (by omega) (by omega) (by omega) hW hS (lv_sub hl [0, 4, 1, 3, 6, 2, 7, 8, 9, 10, 11, 12] rfl)
                          · have g198 := z_f_nle rfl z_l0 c195
                            refine lv_aload_n hx hb dX12_sums__224 rfl (lv_at hl 8 rfl) ?_
                            refine lv_iload hx hb dX12_sums__225 (lv_at hl 7 rfl) ?_
                            refine lv_iload hx hb dX12_sums__227 (lv_at hl 5 rfl) ?_
                            refine lv_iadd hx hb dX12_sums__229 ?_
                            refine lv_topi (fun x199 ex199 => ?_)
                            have tx199 : x199.toInt = x22.toInt + y28.toInt := z_tadd ex199 rfl rfl (by omega) (by omega)
                            refine lv_iconst (v := 1) hx hb dX12_sums__230 (by decide) ?_
                            refine lv_iadd hx hb dX12_sums__231 ?_
                            refine lv_topi (fun x200 ex200 => ?_)
                            have tx200 : x200.toInt = x199.toInt + 1 := z_tadd ex200 rfl z_l1 (by omega) (by omega)
                            refine z_cl hW hS hA (va_runV (As := [.int x200]) (rest := []) ⟨hx, hb, hml, hown, hts⟩ (sx_X12_lowOf l G ad I J ⟨(by show 0 ≤ (I 0 0).toInt ∧ (I 0 0).toInt ≤ 719; exact hma.1), (by show 0 ≤ (I 0 1).toInt ∧ (I 0 1).toInt ≤ 30; exact hma.2.1), (by show 0 ≤ (I 0 2).toInt ∧ (I 0 2).toInt ≤ 200; exact hma.2.2)⟩ ⟨(by show 0 ≤ (I 0 13).toInt ∧ (I 0 13).toInt ≤ 12; exact hmb.1), (by show 0 ≤ (I 0 14).toInt ∧ (I 0 14).toInt ≤ 288; exact hmb.2)⟩ hAtf hAtm x200 (by omega) _) (cwV 1 hts gX12_sums__X12_lowOf rfl rfl rfl hy_X12_lowOf ⟨Nat.le_of_ble_eq_true rfl, Nat.le_of_ble_eq_true rfl⟩) (z_preV (i := 0) hK hW rfl rfl) rfl rfl hl.1 rfl (lv_room (Nat.le_of_ble_eq_true rfl)) dX12_sums__232 ⟨Nat.le_of_ble_eq_true rfl, Nat.le_of_ble_eq_true rfl⟩) (fun r u1 H locs hp hW hS => ?_)
                            rw [hp] at hW
                            refine lv_topl (fun x201 ex201 => ?_)
                            refine lv_lload hx hb dX12_sums__235 (lv_at hl 3 rfl) ?_
                            refine lv_lsub hx hb dX12_sums__237 ?_
                            refine lv_topl (fun w202 ew202 => ?_)
                            refine lv_lstore (lv' := [(8, .long w202), (12, .int 1), (6, .long x148), (10, .long w57), (13, .long w55), (16, .long x54), (15, .int y28), (5, .int x22), (0, .ref (ad 0)), (1, .int a1), (2, .int a2), (3, .int a3), (4, .int a4)]) hx hb dX12_sums__238 hl (by decide) rfl (fun ls hl => ?_)
                            obtain ⟨x203, ex203⟩ : ∃ y : Int32, y = y28 + 1 := ⟨_, rfl⟩
                            have tx203 : x203.toInt = y28.toInt + 1 := z_tadd ex203 rfl z_l1 (by omega) (by omega)
                            refine lv_iinc (v := x203) (lv' := [(15, .int x203), (8, .long w202), (12, .int 1), (6, .long x148), (10, .long w57), (13, .long w55), (16, .long x54), (5, .int x22), (0, .ref (ad 0)), (1, .int a1), (2, .int a2), (3, .int a3), (4, .int a4)]) hx hb dX12_sums__240 hl (k := 6) rfl (by rw [ex203]; rfl) (by decide) rfl (fun ls hl => ?_)
                            refine lv_goto (tgt := 79) hx hb dX12_sums__243 (by decide) ?_
                            exact lp27ih x203 w55 (1) w57 w202 x148 _ _ _ (by omega) (by omega) (by omega) hW hS (lv_sub hl [0, 5, 2, 4, 1, 3, 7, 8, 9, 10, 11, 12] rfl)
                        · have g204 := z_f_nge rfl z_l0 c188
                          refine lv_ldc2 (v := (-3)) hx hb hown (hts (.constantLong RX12 490 (-3)) (me_s (me_l (me_l (List.mem_of_getElem? (i := 2) rfl))))) dX12_sums__200 ?_
                          exact z_lret hx hb hr hK hS (Nat.le_of_ble_eq_true rfl) (Nat.le_of_ble_eq_true rfl) hlocks dX12_sums__203 (shM, ad, I, J, PM ad) hW rfl
                      · have g205 := z_f_nge rfl z_l0 c182
                        refine lv_aload_n hx hb dX12_sums__167 rfl (lv_at hl 8 rfl) ?_
                        refine lv_iload hx hb dX12_sums__168 (lv_at hl 7 rfl) ?_
                        refine lv_iload hx hb dX12_sums__170 (lv_at hl 4 rfl) ?_
                        refine lv_iadd hx hb dX12_sums__172 ?_
                        refine lv_topi (fun x206 ex206 => ?_)
                        have tx206 : x206.toInt = x22.toInt + y28.toInt := z_tadd ex206 rfl rfl (by omega) (by omega)
                        refine lv_iconst (v := 1) hx hb dX12_sums__173 (by decide) ?_
                        refine lv_iadd hx hb dX12_sums__174 ?_
                        refine lv_topi (fun x207 ex207 => ?_)
                        have tx207 : x207.toInt = x206.toInt + 1 := z_tadd ex207 rfl z_l1 (by omega) (by omega)
                        refine z_cl hW hS hA (va_runV (As := [.int x207]) (rest := []) ⟨hx, hb, hml, hown, hts⟩ (sx_X12_highOf l G ad I J ⟨(by show 0 ≤ (I 0 0).toInt ∧ (I 0 0).toInt ≤ 719; exact hma.1), (by show 0 ≤ (I 0 1).toInt ∧ (I 0 1).toInt ≤ 30; exact hma.2.1), (by show 0 ≤ (I 0 2).toInt ∧ (I 0 2).toInt ≤ 200; exact hma.2.2)⟩ ⟨(by show 0 ≤ (I 0 13).toInt ∧ (I 0 13).toInt ≤ 12; exact hmb.1), (by show 0 ≤ (I 0 14).toInt ∧ (I 0 14).toInt ≤ 288; exact hmb.2)⟩ hAtf hAtm x207 (by omega) _) (cwV 1 hts gX12_sums__X12_highOf rfl rfl rfl hy_X12_highOf ⟨Nat.le_of_ble_eq_true rfl, Nat.le_of_ble_eq_true rfl⟩) (z_preV (i := 0) hK hW rfl rfl) rfl rfl hl.1 rfl (lv_room (Nat.le_of_ble_eq_true rfl)) dX12_sums__175 ⟨Nat.le_of_ble_eq_true rfl, Nat.le_of_ble_eq_true rfl⟩) (fun r u1 H locs hp hW hS => ?_)
                        rw [hp] at hW
                        refine lv_topl (fun x208 ex208 => ?_)
                        refine lv_lstore (lv' := [(10, .long x208), (6, .long x148), (13, .long w55), (16, .long x54), (15, .int y28), (12, .int y30), (8, .long w32), (5, .int x22), (0, .ref (ad 0)), (1, .int a1), (2, .int a2), (3, .int a3), (4, .int a4)]) hx hb dX12_sums__178 hl (by decide) rfl (fun ls hl => ?_)
                        refine lv_iconst (v := 1) hx hb dX12_sums__180 (by decide) ?_
                        refine lv_istore (lv' := [(12, .int 1), (10, .long x208), (6, .long x148), (13, .long w55), (16, .long x54), (15, .int y28), (8, .long w32), (5, .int x22), (0, .ref (ad 0)), (1, .int a1), (2, .int a2), (3, .int a3), (4, .int a4)]) hx hb dX12_sums__181 hl (by decide) rfl (fun ls hl => ?_)
                        refine lv_lload hx hb dX12_sums__183 (lv_at hl 2 rfl) ?_
                        refine lv_aload_n hx hb dX12_sums__185 rfl (lv_at hl 8 rfl) ?_
                        refine lv_iload hx hb dX12_sums__186 (lv_at hl 7 rfl) ?_
                        refine lv_iload hx hb dX12_sums__188 (lv_at hl 5 rfl) ?_
                        refine lv_iadd hx hb dX12_sums__190 ?_
                        refine lv_topi (fun x209 ex209 => ?_)
                        have tx209 : x209.toInt = x22.toInt + y28.toInt := z_tadd ex209 rfl rfl (by omega) (by omega)
                        refine lv_iconst (v := 1) hx hb dX12_sums__191 (by decide) ?_
                        refine lv_iadd hx hb dX12_sums__192 ?_
                        refine lv_topi (fun x210 ex210 => ?_)
                        have tx210 : x210.toInt = x209.toInt + 1 := z_tadd ex210 rfl z_l1 (by omega) (by omega)
                        refine z_cl hW hS hA (va_runV (As := [.int x210]) (rest := [.long x148]) ⟨hx, hb, hml, hown, hts⟩ (sx_X12_lowOf l G ad I J ⟨(by show 0 ≤ (I 0 0).toInt ∧ (I 0 0).toInt ≤ 719; exact hma.1), (by show 0 ≤ (I 0 1).toInt ∧ (I 0 1).toInt ≤ 30; exact hma.2.1), (by show 0 ≤ (I 0 2).toInt ∧ (I 0 2).toInt ≤ 200; exact hma.2.2)⟩ ⟨(by show 0 ≤ (I 0 13).toInt ∧ (I 0 13).toInt ≤ 12; exact hmb.1), (by show 0 ≤ (I 0 14).toInt ∧ (I 0 14).toInt ≤ 288; exact hmb.2)⟩ hAtf hAtm x210 (by omega) _) (cwV 1 hts gX12_sums__X12_lowOf rfl rfl rfl hy_X12_lowOf ⟨Nat.le_of_ble_eq_true rfl, Nat.le_of_ble_eq_true rfl⟩) (z_preV (i := 0) hK hW rfl rfl) rfl rfl hl.1 rfl (lv_room (Nat.le_of_ble_eq_true rfl)) dX12_sums__193 ⟨Nat.le_of_ble_eq_true rfl, Nat.le_of_ble_eq_true rfl⟩) (fun r u1 H locs hp hW hS => ?_)
                        rw [hp] at hW
                        refine lv_topl (fun x211 ex211 => ?_)
                        refine W.lcmp hx hb dX12_sums__196 ?_
                        refine lv_topi (fun x212 ex212 => ?_)
                        have tx212 := z_tcmp ex212
                        refine lv_if_ge (tgt := 204) hx hb dX12_sums__197 (by decide) (fun c213 => ?_) (fun c213 => ?_)
                        · have g214 := z_f_ge rfl z_l0 c213
                          refine lv_aload_n hx hb dX12_sums__204 rfl (lv_at hl 8 rfl) ?_
                          refine lv_iload hx hb dX12_sums__205 (lv_at hl 7 rfl) ?_
                          refine lv_iload hx hb dX12_sums__207 (lv_at hl 5 rfl) ?_
                          refine lv_iadd hx hb dX12_sums__209 ?_
                          refine lv_topi (fun x215 ex215 => ?_)
                          have tx215 : x215.toInt = x22.toInt + y28.toInt := z_tadd ex215 rfl rfl (by omega) (by omega)
                          refine lv_iconst (v := 1) hx hb dX12_sums__210 (by decide) ?_
                          refine lv_iadd hx hb dX12_sums__211 ?_
                          refine lv_topi (fun x216 ex216 => ?_)
                          have tx216 : x216.toInt = x215.toInt + 1 := z_tadd ex216 rfl z_l1 (by omega) (by omega)
                          refine z_cl hW hS hA (va_runV (As := [.int x216]) (rest := []) ⟨hx, hb, hml, hown, hts⟩ (sx_X12_lowOf l G ad I J ⟨(by show 0 ≤ (I 0 0).toInt ∧ (I 0 0).toInt ≤ 719; exact hma.1), (by show 0 ≤ (I 0 1).toInt ∧ (I 0 1).toInt ≤ 30; exact hma.2.1), (by show 0 ≤ (I 0 2).toInt ∧ (I 0 2).toInt ≤ 200; exact hma.2.2)⟩ ⟨(by show 0 ≤ (I 0 13).toInt ∧ (I 0 13).toInt ≤ 12; exact hmb.1), (by show 0 ≤ (I 0 14).toInt ∧ (I 0 14).toInt ≤ 288; exact hmb.2)⟩ hAtf hAtm x216 (by omega) _) (cwV 1 hts gX12_sums__X12_lowOf rfl rfl rfl hy_X12_lowOf ⟨Nat.le_of_ble_eq_true rfl, Nat.le_of_ble_eq_true rfl⟩) (z_preV (i := 0) hK hW rfl rfl) rfl rfl hl.1 rfl (lv_room (Nat.le_of_ble_eq_true rfl)) dX12_sums__212 ⟨Nat.le_of_ble_eq_true rfl, Nat.le_of_ble_eq_true rfl⟩) (fun r u1 H locs hp hW hS => ?_)
                          rw [hp] at hW
                          refine lv_topl (fun x217 ex217 => ?_)
                          refine lv_lload hx hb dX12_sums__215 (lv_at hl 3 rfl) ?_
                          refine lv_lsub hx hb dX12_sums__217 ?_
                          refine lv_topl (fun w218 ew218 => ?_)
                          refine lv_lload hx hb dX12_sums__218 (lv_at hl 6 rfl) ?_
                          refine W.lcmp hx hb dX12_sums__220 ?_
                          refine lv_topi (fun x219 ex219 => ?_)
                          have tx219 := z_tcmp ex219
                          refine lv_if_le (tgt := 240) hx hb dX12_sums__221 (by decide) (fun c220 => ?_) (fun c220 => ?_)
                          · have g221 := z_f_le rfl z_l0 c220
                            obtain ⟨x222, ex222⟩ : ∃ y : Int32, y = y28 + 1 := ⟨_, rfl⟩
                            have tx222 : x222.toInt = y28.toInt + 1 := z_tadd ex222 rfl z_l1 (by omega) (by omega)
                            refine lv_iinc (v := x222) (lv' := [(15, .int x222), (12, .int 1), (10, .long x208), (6, .long x148), (13, .long w55), (16, .long x54), (8, .long w32), (5, .int x22), (0, .ref (ad 0)), (1, .int a1), (2, .int a2), (3, .int a3), (4, .int a4)]) hx hb dX12_sums__240 hl (k := 5) rfl (by rw [ex222]; rfl) (by decide) rfl (fun ls hl => ?_)
                            refine lv_goto (tgt := 79) hx hb dX12_sums__243 (by decide) ?_
                            exact lp27ih x222 w55 (1) x208 w32 x148 _ _ _ (by omega) (by omega) (by omega) hW hS (lv_sub hl [0, 4, 1, 2, 6, 3, 7, 8, 9, 10, 11, 12] rfl)
                          · have g223 := z_f_nle rfl z_l0 c220
                            refine lv_aload_n hx hb dX12_sums__224 rfl (lv_at hl 8 rfl) ?_
                            refine lv_iload hx hb dX12_sums__225 (lv_at hl 7 rfl) ?_
                            refine lv_iload hx hb dX12_sums__227 (lv_at hl 5 rfl) ?_
                            refine lv_iadd hx hb dX12_sums__229 ?_
                            refine lv_topi (fun x224 ex224 => ?_)
                            have tx224 : x224.toInt = x22.toInt + y28.toInt := z_tadd ex224 rfl rfl (by omega) (by omega)
                            refine lv_iconst (v := 1) hx hb dX12_sums__230 (by decide) ?_
                            refine lv_iadd hx hb dX12_sums__231 ?_
                            refine lv_topi (fun x225 ex225 => ?_)
                            have tx225 : x225.toInt = x224.toInt + 1 := z_tadd ex225 rfl z_l1 (by omega) (by omega)
                            refine z_cl hW hS hA (va_runV (As := [.int x225]) (rest := []) ⟨hx, hb, hml, hown, hts⟩ (sx_X12_lowOf l G ad I J ⟨(by show 0 ≤ (I 0 0).toInt ∧ (I 0 0).toInt ≤ 719; exact hma.1), (by show 0 ≤ (I 0 1).toInt ∧ (I 0 1).toInt ≤ 30; exact hma.2.1), (by show 0 ≤ (I 0 2).toInt ∧ (I 0 2).toInt ≤ 200; exact hma.2.2)⟩ ⟨(by show 0 ≤ (I 0 13).toInt ∧ (I 0 13).toInt ≤ 12; exact hmb.1), (by show 0 ≤ (I 0 14).toInt ∧ (I 0 14).toInt ≤ 288; exact hmb.2)⟩ hAtf hAtm x225 (by omega) _) (cwV 1 hts gX12_sums__X12_lowOf rfl rfl rfl hy_X12_lowOf ⟨Nat.le_of_ble_eq_true rfl, Nat.le_of_ble_eq_true rfl⟩) (z_preV (i := 0) hK hW rfl rfl) rfl rfl hl.1 rfl (lv_room (Nat.le_of_ble_eq_true rfl)) dX12_sums__232 ⟨Nat.le_of_ble_eq_true rfl, Nat.le_of_ble_eq_true rfl⟩) (fun r u1 H locs hp hW hS => ?_)
                            rw [hp] at hW
                            refine lv_topl (fun x226 ex226 => ?_)
                            refine lv_lload hx hb dX12_sums__235 (lv_at hl 3 rfl) ?_
                            refine lv_lsub hx hb dX12_sums__237 ?_
                            refine lv_topl (fun w227 ew227 => ?_)
                            refine lv_lstore (lv' := [(8, .long w227), (12, .int 1), (10, .long x208), (6, .long x148), (13, .long w55), (16, .long x54), (15, .int y28), (5, .int x22), (0, .ref (ad 0)), (1, .int a1), (2, .int a2), (3, .int a3), (4, .int a4)]) hx hb dX12_sums__238 hl (by decide) rfl (fun ls hl => ?_)
                            obtain ⟨x228, ex228⟩ : ∃ y : Int32, y = y28 + 1 := ⟨_, rfl⟩
                            have tx228 : x228.toInt = y28.toInt + 1 := z_tadd ex228 rfl z_l1 (by omega) (by omega)
                            refine lv_iinc (v := x228) (lv' := [(15, .int x228), (8, .long w227), (12, .int 1), (10, .long x208), (6, .long x148), (13, .long w55), (16, .long x54), (5, .int x22), (0, .ref (ad 0)), (1, .int a1), (2, .int a2), (3, .int a3), (4, .int a4)]) hx hb dX12_sums__240 hl (k := 6) rfl (by rw [ex228]; rfl) (by decide) rfl (fun ls hl => ?_)
                            refine lv_goto (tgt := 79) hx hb dX12_sums__243 (by decide) ?_
                            exact lp27ih x228 w55 (1) x208 w227 x148 _ _ _ (by omega) (by omega) (by omega) hW hS (lv_sub hl [0, 5, 2, 3, 1, 4, 7, 8, 9, 10, 11, 12] rfl)
                        · have g229 := z_f_nge rfl z_l0 c213
                          refine lv_ldc2 (v := (-3)) hx hb hown (hts (.constantLong RX12 490 (-3)) (me_s (me_l (me_l (List.mem_of_getElem? (i := 2) rfl))))) dX12_sums__200 ?_
                          exact z_lret hx hb hr hK hS (Nat.le_of_ble_eq_true rfl) (Nat.le_of_ble_eq_true rfl) hlocks dX12_sums__203 (shM, ad, I, J, PM ad) hW rfl
            exact lp27 4294967296 a2 0 (0) 0 x26 x24 _ _ _ (z_m0u _) (by omega) (by omega) hW hS (lv_sub hl [0, 1, 2, 3, 4, 5, 6, 7, 8, 9, 10, 11] rfl)
          · refine lv_if_ne (tgt := 41) hx hb dX12_sums__34 (by decide) (fun c230 => absurd (by decide) c230) (fun c230 => ?_)
            refine lv_ldc2 (v := (-1)) hx hb hown (hts (.constantLong RX12 269 (-1)) (me_s (me_l (me_l (List.mem_of_getElem? (i := 1) rfl))))) dX12_sums__37 ?_
            exact z_lret hx hb hr hK hS (Nat.le_of_ble_eq_true rfl) (Nat.le_of_ble_eq_true rfl) hlocks dX12_sums__40 (shM, ad, I, J, PM ad) hW rfl
  · refine lv_if_eq (tgt := 37) hx hb dX12_sums__5 (by decide) (fun c231 => ?_) (fun c231 => absurd (by decide) c231)
    refine lv_ldc2 (v := (-1)) hx hb hown (hts (.constantLong RX12 269 (-1)) (me_s (me_l (me_l (List.mem_of_getElem? (i := 1) rfl))))) dX12_sums__37 ?_
    exact z_lret hx hb hr hK hS (Nat.le_of_ble_eq_true rfl) (Nat.le_of_ble_eq_true rfl) hlocks dX12_sums__40 (shM, ad, I, J, PM ad) hW rfl
theorem zj_X12_judged_X12 : ∀ w ∈ wsX120, w ∈ wsX12_judged := fun w h => (List.mem_cons_of_mem _ (List.mem_append_right _ h))
set_option maxHeartbeats 8000000 in
set_option maxRecDepth 100000 in
theorem sx_X12_judged (l : Launch) (G : z_G) (ad : Nat → Nat) (I : z_I) (J : z_J) (hms : z_ims I) (hma : z_ima I) (hAgm : z_rg 43 0 30 I) (hAdm : z_rg 47 0 30 I) (hmb : z_imb I) (hAtf : z_rg 11 0 288 I) (hAtm : z_rg 12 0 24 I) (a1 : Int32) (a2 : Int32) (a3 : Int32) : z_Ml l yX12_judged wsX12_judged { frames := 4, cells := 0, slots := 0, locals := 89 } [.ref (ad 0), .int a1, .int a2, .int a3] G (shM, ad, I, J, PM ad) (fun r u1 => u1 = (shM, ad, I, J, PM ad)) 0 0 := by
  intro sz
  refine z_headQ (cc := cX12_judged) (maxL := 10) (ret := (some .long)) (by decide) rfl (Nat.le_of_ble_eq_true rfl) ?_
  intro p e s m below meth c0 ls hIn hK hsz hW hl
  obtain ⟨hx, hb, hr, hml, hown, hts, hlocks, hname⟩ := hIn
  subst hsz
  have hown : s.vm.findClass RX12 = some m.cls := hown
  have hA : ∀ q : Nat, s.heap.size ≤ q → z_A (shM, ad, I, J, PM ad) s.heap.size q := fun q h => Or.inr h
  generalize hAe : z_A (shM, ad, I, J, PM ad) s.heap.size = A at *
  have hS : va_S A s.heap s.heap [] := va_S.rf
  have hl : lv_has ls 10 [(0, .ref (ad 0)), (1, .int a1), (2, .int a2), (3, .int a3)] := hl
  refine lv_aload_n hx hb dX12_judged_0 rfl (lv_at hl 0 rfl) ?_
  refine lv_iload_n hx hb dX12_judged_1 rfl (lv_at hl 1 rfl) ?_
  refine z_ci hW hS hA (va_runV (As := [.int a1]) (rest := []) ⟨hx, hb, hml, hown, hts⟩ (sx_X12_isStation l G ad I J ⟨(by show 0 ≤ (I 0 54).toInt ∧ (I 0 54).toInt ≤ 10; exact hms.1), (by show 0 ≤ (I 0 55).toInt ∧ (I 0 55).toInt ≤ 300; exact hms.2)⟩ a1 _) (cwV 1 hts gX12_judged_X12_isStation rfl rfl rfl hy_X12_isStation ⟨Nat.le_of_ble_eq_true rfl, Nat.le_of_ble_eq_true rfl⟩) (z_preV (i := 0) hK hW rfl rfl) rfl rfl hl.1 rfl (lv_room (Nat.le_of_ble_eq_true rfl)) dX12_judged_2 ⟨Nat.le_of_ble_eq_true rfl, Nat.le_of_ble_eq_true rfl⟩) (fun r u1 H locs hp hW hS => ?_)
  obtain ⟨e9, hp⟩ := hp
  rw [e9] at hW
  rcases hp with ⟨rfl, h1, h2⟩ | rfl
  · refine lv_if_eq (tgt := 27) hx hb dX12_judged_5 (by decide) (fun c3 => absurd c3 (by decide)) (fun c3 => ?_)
    refine lv_iload_n hx hb dX12_judged_8 rfl (lv_at hl 2 rfl) ?_
    refine lv_if_lt (tgt := 27) hx hb dX12_judged_9 (by decide) (fun c4 => ?_) (fun c4 => ?_)
    · have g5 := z_f_lt rfl z_l0 c4
      have b6 := Int32.toInt_lt a2
      refine lv_ldc2 (v := (-1)) hx hb hown (hts (.constantLong RX12 269 (-1)) (me_s (me_l (me_l (List.mem_of_getElem? (i := 1) rfl))))) dX12_judged_27 ?_
      exact z_lret hx hb hr hK hS (Nat.le_of_ble_eq_true rfl) (Nat.le_of_ble_eq_true rfl) hlocks dX12_judged_30 (shM, ad, I, J, PM ad) hW rfl
    · have g7 := z_f_nlt rfl z_l0 c4
      have b8 := Int32.toInt_lt a2
      refine lv_iload_n hx hb dX12_judged_12 rfl (lv_at hl 3 rfl) ?_
      refine lv_iload_n hx hb dX12_judged_13 rfl (lv_at hl 2 rfl) ?_
      refine lv_icmp_le (tgt := 27) hx hb dX12_judged_14 (by decide) (fun c9 => ?_) (fun c9 => ?_)
      · have g10 := z_f_le rfl rfl c9
        have b11 := Int32.toInt_lt a3
        refine lv_ldc2 (v := (-1)) hx hb hown (hts (.constantLong RX12 269 (-1)) (me_s (me_l (me_l (List.mem_of_getElem? (i := 1) rfl))))) dX12_judged_27 ?_
        exact z_lret hx hb hr hK hS (Nat.le_of_ble_eq_true rfl) (Nat.le_of_ble_eq_true rfl) hlocks dX12_judged_30 (shM, ad, I, J, PM ad) hW rfl
      · have g12 := z_f_nle rfl rfl c9
        have b13 := Int32.toInt_lt a3
        refine lv_iload_n hx hb dX12_judged_17 rfl (lv_at hl 3 rfl) ?_
        refine lv_aload_n hx hb dX12_judged_18 rfl (lv_at hl 0 rfl) ?_
        refine z_get (T := TX12) (N := 96) (ci := 12) (i := 0) (v := .ref (ad 47)) hx hb hts zj_X12_judged_X12 hown hK hW rfl rfl 70 (by decide) (hts (.fieldLink RX12 157 "PetrolBoardModel" "dipMany" "[I") (me_s (me_l (me_l (List.mem_of_getElem? (i := 0) rfl))))) (fun _ h => h) rfl dX12_judged_19 ?_
        refine lv_iload_n hx hb dX12_judged_22 rfl (lv_at hl 1 rfl) ?_
        refine z_iald (i := 47) hx hb hK hW rfl (z_ix rfl (by omega) (by omega)) dX12_judged_23 ?_
        refine lv_topi (fun x14 ex14 => ?_)
        have h15 : 0 ≤ x14.toInt ∧ x14.toInt ≤ 30 := by rw [ex14]; exact hAdm _
        refine lv_icmp_lt (tgt := 31) hx hb dX12_judged_24 (by decide) (fun c16 => ?_) (fun c16 => ?_)
        · have g17 := z_f_lt rfl rfl c16
          refine lv_lconst (v := 0) hx hb dX12_judged_31 (by decide) ?_
          refine lv_lstore (lv' := [(4, .long 0), (0, .ref (ad 0)), (1, .int a1), (2, .int a2), (3, .int a3)]) hx hb dX12_judged_32 hl (by decide) rfl (fun ls hl => ?_)
          refine lv_iload_n hx hb dX12_judged_34 rfl (lv_at hl 3 rfl) ?_
          refine lv_istore (lv' := [(6, .int a2), (4, .long 0), (0, .ref (ad 0)), (1, .int a1), (2, .int a2), (3, .int a3)]) hx hb dX12_judged_35 hl (by decide) rfl (fun ls hl => ?_)
          have lp18 : ∀ (f : Nat) (y19 : Int32) (w20 : Int64) (H : Heap) (locs : List Loc) (ls : Array Slot), (2147483647 < y19.toInt + (f : Int)) → (0 ≤ y19.toInt) → (a2.toInt ≤ y19.toInt) → z_W G A (shM, ad, I, J, PM ad) H → va_S A s.heap H locs → lv_has ls 10 [(6, .int y19), (4, .long w20), (0, .ref (ad 0)), (1, .int a1), (2, .int a2), (3, .int a3)] → W p l e (headSpec wsX12_judged { frames := 4, cells := 0, slots := 0, locals := 89 }).room s m ([.ref (ad 0), .int a1, .int a2, .int a3] : List Value).toArray below meth c0 H locs 0 0 (MQ below (va_Ql (fun (r : Int64) (u1 : z_U) => u1 = (shM, ad, I, J, PM ad)) (z_B G A) A) ([.ref (ad 0), .int a1, .int a2, .int a3] : List Value).toArray s 0 0 A) (F0 m 37 ls []) := by
            intro f
            induction f with
            | zero => intro y19 w20 H locs ls lp18m lp18l6 lp18z hW hS hl; exact absurd lp18m (by have := Int32.toInt_lt y19; have := Int32.le_toInt y19; omega)
            | succ f lp18ih =>
              intro y19 w20 H locs ls lp18m lp18l6 lp18z hW hS hl
              refine lv_iload hx hb dX12_judged_37 (lv_at hl 0 rfl) ?_
              refine lv_iload_n hx hb dX12_judged_39 rfl (lv_at hl 5 rfl) ?_
              refine lv_icmp_gt (tgt := 153) hx hb dX12_judged_40 (by decide) (fun c21 => ?_) (fun c21 => ?_)
              · have g22 := z_f_gt rfl rfl c21
                have b23 := Int32.toInt_lt y19
                refine lv_lload hx hb dX12_judged_153 (lv_at hl 1 rfl) ?_
                exact z_lret hx hb hr hK hS (Nat.le_of_ble_eq_true rfl) (Nat.le_of_ble_eq_true rfl) hlocks dX12_judged_155 (shM, ad, I, J, PM ad) hW rfl
              · have g24 := z_f_ngt rfl rfl c21
                have b25 := Int32.toInt_lt y19
                refine lv_aload_n hx hb dX12_judged_43 rfl (lv_at hl 2 rfl) ?_
                refine z_get (T := TX12) (N := 96) (ci := 12) (i := 0) (v := .ref (ad 51)) hx hb hts zj_X12_judged_X12 hown hK hW rfl rfl 74 (by decide) (hts (.fieldLink RX12 169 "PetrolBoardModel" "levels" "[I") (me_s (me_l (me_l (List.mem_of_getElem? (i := 2) rfl))))) (fun _ h => h) rfl dX12_judged_44 ?_
                refine lv_iload hx hb dX12_judged_47 (lv_at hl 0 rfl) ?_
                refine lv_iload_n hx hb dX12_judged_49 rfl (lv_at hl 4 rfl) ?_
                refine lv_isub hx hb dX12_judged_50 ?_
                refine lv_topi (fun x26 ex26 => ?_)
                have tx26 : x26.toInt = y19.toInt - a2.toInt := z_tsub ex26 rfl rfl (by omega) (by omega)
                refine z_iald (i := 51) hx hb hK hW rfl (z_ix rfl (by omega) (by omega)) dX12_judged_51 ?_
                refine lv_topi (fun x27 ex27 => ?_)
                refine lv_istore (lv' := [(7, .int x27), (6, .int y19), (4, .long w20), (0, .ref (ad 0)), (1, .int a1), (2, .int a2), (3, .int a3)]) hx hb dX12_judged_52 hl (by decide) rfl (fun ls hl => ?_)
                refine lv_iload hx hb dX12_judged_54 (lv_at hl 0 rfl) ?_
                refine lv_i2l (v := x27.toInt64) hx hb dX12_judged_56 rfl ?_
                refine lv_topl (fun w28 ew28 => ?_)
                refine lv_aload_n hx hb dX12_judged_57 rfl (lv_at hl 3 rfl) ?_
                refine lv_bipush (v := 30) hx hb dX12_judged_58 (by decide) ?_
                refine lv_iload_n hx hb dX12_judged_60 rfl (lv_at hl 4 rfl) ?_
                refine lv_imul hx hb dX12_judged_61 ?_
                refine lv_topi (fun x29 ex29 => ?_)
                have tx29 : x29.toInt = 30 * a1.toInt := z_tmul ex29 z_l30 rfl (by omega) (by omega)
                refine lv_iload hx hb dX12_judged_62 (lv_at hl 1 rfl) ?_
                refine lv_iadd hx hb dX12_judged_64 ?_
                refine lv_topi (fun x30 ex30 => ?_)
                have tx30 : x30.toInt = x29.toInt + y19.toInt := z_tadd ex30 rfl rfl (by omega) (by omega)
                refine z_cl hW hS hA (va_runV (As := [.int x30]) (rest := [.long w28]) ⟨hx, hb, hml, hown, hts⟩ (sx_X12_lowOf l G ad I J ⟨(by show 0 ≤ (I 0 0).toInt ∧ (I 0 0).toInt ≤ 719; exact hma.1), (by show 0 ≤ (I 0 1).toInt ∧ (I 0 1).toInt ≤ 30; exact hma.2.1), (by show 0 ≤ (I 0 2).toInt ∧ (I 0 2).toInt ≤ 200; exact hma.2.2)⟩ ⟨(by show 0 ≤ (I 0 13).toInt ∧ (I 0 13).toInt ≤ 12; exact hmb.1), (by show 0 ≤ (I 0 14).toInt ∧ (I 0 14).toInt ≤ 288; exact hmb.2)⟩ hAtf hAtm x30 (by omega) _) (cwV 1 hts gX12_judged_X12_lowOf rfl rfl rfl hy_X12_lowOf ⟨Nat.le_of_ble_eq_true rfl, Nat.le_of_ble_eq_true rfl⟩) (z_preV (i := 0) hK hW rfl rfl) rfl rfl hl.1 rfl (lv_room (Nat.le_of_ble_eq_true rfl)) dX12_judged_65 ⟨Nat.le_of_ble_eq_true rfl, Nat.le_of_ble_eq_true rfl⟩) (fun r u1 H locs hp hW hS => ?_)
                rw [hp] at hW
                refine lv_topl (fun x31 ex31 => ?_)
                refine W.lcmp hx hb dX12_judged_68 ?_
                refine lv_topi (fun x32 ex32 => ?_)
                have tx32 := z_tcmp ex32
                refine lv_if_lt (tgt := 90) hx hb dX12_judged_69 (by decide) (fun c33 => ?_) (fun c33 => ?_)
                · have g34 := z_f_lt rfl z_l0 c33
                  refine lv_ldc2 (v := (-1)) hx hb hown (hts (.constantLong RX12 269 (-1)) (me_s (me_l (me_l (List.mem_of_getElem? (i := 1) rfl))))) dX12_judged_90 ?_
                  exact z_lret hx hb hr hK hS (Nat.le_of_ble_eq_true rfl) (Nat.le_of_ble_eq_true rfl) hlocks dX12_judged_93 (shM, ad, I, J, PM ad) hW rfl
                · have g35 := z_f_nlt rfl z_l0 c33
                  refine lv_iload hx hb dX12_judged_72 (lv_at hl 0 rfl) ?_
                  refine lv_i2l (v := x27.toInt64) hx hb dX12_judged_74 rfl ?_
                  refine lv_topl (fun w36 ew36 => ?_)
                  refine lv_aload_n hx hb dX12_judged_75 rfl (lv_at hl 3 rfl) ?_
                  refine lv_bipush (v := 30) hx hb dX12_judged_76 (by decide) ?_
                  refine lv_iload_n hx hb dX12_judged_78 rfl (lv_at hl 4 rfl) ?_
                  refine lv_imul hx hb dX12_judged_79 ?_
                  refine lv_topi (fun x37 ex37 => ?_)
                  have tx37 : x37.toInt = 30 * a1.toInt := z_tmul ex37 z_l30 rfl (by omega) (by omega)
                  refine lv_iload hx hb dX12_judged_80 (lv_at hl 1 rfl) ?_
                  refine lv_iadd hx hb dX12_judged_82 ?_
                  refine lv_topi (fun x38 ex38 => ?_)
                  have tx38 : x38.toInt = x37.toInt + y19.toInt := z_tadd ex38 rfl rfl (by omega) (by omega)
                  refine z_cl hW hS hA (va_runV (As := [.int x38]) (rest := [.long w36]) ⟨hx, hb, hml, hown, hts⟩ (sx_X12_highOf l G ad I J ⟨(by show 0 ≤ (I 0 0).toInt ∧ (I 0 0).toInt ≤ 719; exact hma.1), (by show 0 ≤ (I 0 1).toInt ∧ (I 0 1).toInt ≤ 30; exact hma.2.1), (by show 0 ≤ (I 0 2).toInt ∧ (I 0 2).toInt ≤ 200; exact hma.2.2)⟩ ⟨(by show 0 ≤ (I 0 13).toInt ∧ (I 0 13).toInt ≤ 12; exact hmb.1), (by show 0 ≤ (I 0 14).toInt ∧ (I 0 14).toInt ≤ 288; exact hmb.2)⟩ hAtf hAtm x38 (by omega) _) (cwV 1 hts gX12_judged_X12_highOf rfl rfl rfl hy_X12_highOf ⟨Nat.le_of_ble_eq_true rfl, Nat.le_of_ble_eq_true rfl⟩) (z_preV (i := 0) hK hW rfl rfl) rfl rfl hl.1 rfl (lv_room (Nat.le_of_ble_eq_true rfl)) dX12_judged_83 ⟨Nat.le_of_ble_eq_true rfl, Nat.le_of_ble_eq_true rfl⟩) (fun r u1 H locs hp hW hS => ?_)
                  rw [hp] at hW
                  refine lv_topl (fun x39 ex39 => ?_)
                  refine W.lcmp hx hb dX12_judged_86 ?_
                  refine lv_topi (fun x40 ex40 => ?_)
                  have tx40 := z_tcmp ex40
                  refine lv_if_le (tgt := 94) hx hb dX12_judged_87 (by decide) (fun c41 => ?_) (fun c41 => ?_)
                  · have g42 := z_f_le rfl z_l0 c41
                    refine lv_iload hx hb dX12_judged_94 (lv_at hl 1 rfl) ?_
                    refine lv_iload_n hx hb dX12_judged_96 rfl (lv_at hl 6 rfl) ?_
                    refine lv_icmp_ne (tgt := 103) hx hb dX12_judged_97 (by decide) (fun c43 => ?_) (fun c43 => ?_)
                    · have g44 := z_f_ne rfl rfl c43
                      refine lv_aload_n hx hb dX12_judged_103 rfl (lv_at hl 3 rfl) ?_
                      refine lv_iload_n hx hb dX12_judged_104 rfl (lv_at hl 4 rfl) ?_
                      refine lv_iload hx hb dX12_judged_105 (lv_at hl 1 rfl) ?_
                      refine z_cl hW hS hA (va_runV (As := [.int a1, .int y19]) (rest := []) ⟨hx, hb, hml, hown, hts⟩ (sx_X12_inOf l G ad I J ⟨(by show 0 ≤ (I 0 54).toInt ∧ (I 0 54).toInt ≤ 10; exact hms.1), (by show 0 ≤ (I 0 55).toInt ∧ (I 0 55).toInt ≤ 300; exact hms.2)⟩ ⟨(by show 0 ≤ (I 0 0).toInt ∧ (I 0 0).toInt ≤ 719; exact hma.1), (by show 0 ≤ (I 0 1).toInt ∧ (I 0 1).toInt ≤ 30; exact hma.2.1), (by show 0 ≤ (I 0 2).toInt ∧ (I 0 2).toInt ≤ 200; exact hma.2.2)⟩ hAgm ⟨(by show 0 ≤ (I 0 13).toInt ∧ (I 0 13).toInt ≤ 12; exact hmb.1), (by show 0 ≤ (I 0 14).toInt ∧ (I 0 14).toInt ≤ 288; exact hmb.2)⟩ hAtf hAtm a1 y19 (by omega) (by omega) _) (cwV 2 hts gX12_judged_X12_inOf rfl rfl rfl hy_X12_inOf ⟨Nat.le_of_ble_eq_true rfl, Nat.le_of_ble_eq_true rfl⟩) (z_preV (i := 0) hK hW rfl rfl) rfl rfl hl.1 rfl (lv_room (Nat.le_of_ble_eq_true rfl)) dX12_judged_107 ⟨Nat.le_of_ble_eq_true rfl, Nat.le_of_ble_eq_true rfl⟩) (fun r u1 H locs hp hW hS => ?_)
                      rw [hp] at hW
                      refine lv_topl (fun x45 ex45 => ?_)
                      refine lv_iload hx hb dX12_judged_110 (lv_at hl 0 rfl) ?_
                      refine lv_i2l (v := x27.toInt64) hx hb dX12_judged_112 rfl ?_
                      refine lv_topl (fun w46 ew46 => ?_)
                      refine lv_ladd hx hb dX12_judged_113 ?_
                      refine lv_topl (fun w47 ew47 => ?_)
                      refine lv_aload_n hx hb dX12_judged_114 rfl (lv_at hl 3 rfl) ?_
                      refine z_get (T := TX12) (N := 96) (ci := 12) (i := 0) (v := .ref (ad 51)) hx hb hts zj_X12_judged_X12 hown hK hW rfl rfl 74 (by decide) (hts (.fieldLink RX12 169 "PetrolBoardModel" "levels" "[I") (me_s (me_l (me_l (List.mem_of_getElem? (i := 2) rfl))))) (fun _ h => h) rfl dX12_judged_115 ?_
                      refine lv_iload hx hb dX12_judged_118 (lv_at hl 1 rfl) ?_
                      refine lv_iload_n hx hb dX12_judged_120 rfl (lv_at hl 5 rfl) ?_
                      refine lv_isub hx hb dX12_judged_121 ?_
                      refine lv_topi (fun x48 ex48 => ?_)
                      have tx48 : x48.toInt = y19.toInt - a2.toInt := z_tsub ex48 rfl rfl (by omega) (by omega)
                      refine lv_iconst (v := 1) hx hb dX12_judged_122 (by decide) ?_
                      refine lv_iadd hx hb dX12_judged_123 ?_
                      refine lv_topi (fun x49 ex49 => ?_)
                      have tx49 : x49.toInt = x48.toInt + 1 := z_tadd ex49 rfl z_l1 (by omega) (by omega)
                      refine z_iald (i := 51) hx hb hK hW rfl (z_ix rfl (by omega) (by omega)) dX12_judged_124 ?_
                      refine lv_topi (fun x50 ex50 => ?_)
                      refine lv_i2l (v := x50.toInt64) hx hb dX12_judged_125 rfl ?_
                      refine lv_topl (fun w51 ew51 => ?_)
                      refine lv_lsub hx hb dX12_judged_126 ?_
                      refine lv_topl (fun w52 ew52 => ?_)
                      refine lv_lstore (lv' := [(8, .long w52), (7, .int x27), (6, .int y19), (4, .long w20), (0, .ref (ad 0)), (1, .int a1), (2, .int a2), (3, .int a3)]) hx hb dX12_judged_127 hl (by decide) rfl (fun ls hl => ?_)
                      refine lv_lload hx hb dX12_judged_129 (lv_at hl 0 rfl) ?_
                      refine lv_lconst (v := 0) hx hb dX12_judged_131 (by decide) ?_
                      refine W.lcmp hx hb dX12_judged_132 ?_
                      refine lv_topi (fun x53 ex53 => ?_)
                      have tx53 := z_tcmp ex53
                      refine lv_if_ge (tgt := 140) hx hb dX12_judged_133 (by decide) (fun c54 => ?_) (fun c54 => ?_)
                      · have g55 := z_f_ge rfl z_l0 c54
                        refine lv_lload hx hb dX12_judged_140 (lv_at hl 3 rfl) ?_
                        refine lv_lload hx hb dX12_judged_142 (lv_at hl 0 rfl) ?_
                        refine lv_ladd hx hb dX12_judged_144 ?_
                        refine lv_topl (fun w56 ew56 => ?_)
                        refine lv_lstore (lv' := [(4, .long w56), (8, .long w52), (7, .int x27), (6, .int y19), (0, .ref (ad 0)), (1, .int a1), (2, .int a2), (3, .int a3)]) hx hb dX12_judged_145 hl (by decide) rfl (fun ls hl => ?_)
                        obtain ⟨x57, ex57⟩ : ∃ y : Int32, y = y19 + 1 := ⟨_, rfl⟩
                        have tx57 : x57.toInt = y19.toInt + 1 := z_tadd ex57 rfl z_l1 (by omega) (by omega)
                        refine lv_iinc (v := x57) (lv' := [(6, .int x57), (4, .long w56), (8, .long w52), (7, .int x27), (0, .ref (ad 0)), (1, .int a1), (2, .int a2), (3, .int a3)]) hx hb dX12_judged_147 hl (k := 3) rfl (by rw [ex57]; rfl) (by decide) rfl (fun ls hl => ?_)
                        refine lv_goto (tgt := 37) hx hb dX12_judged_150 (by decide) ?_
                        exact lp18ih x57 w56 _ _ _ (by omega) (by omega) (by omega) hW hS (lv_sub hl [0, 1, 4, 5, 6, 7] rfl)
                      · have g58 := z_f_nge rfl z_l0 c54
                        refine lv_ldc2 (v := (-1)) hx hb hown (hts (.constantLong RX12 269 (-1)) (me_s (me_l (me_l (List.mem_of_getElem? (i := 1) rfl))))) dX12_judged_136 ?_
                        exact z_lret hx hb hr hK hS (Nat.le_of_ble_eq_true rfl) (Nat.le_of_ble_eq_true rfl) hlocks dX12_judged_139 (shM, ad, I, J, PM ad) hW rfl
                    · have g59 := z_f_eq rfl rfl c43
                      refine lv_goto (tgt := 147) hx hb dX12_judged_100 (by decide) ?_
                      obtain ⟨x60, ex60⟩ : ∃ y : Int32, y = y19 + 1 := ⟨_, rfl⟩
                      have tx60 : x60.toInt = y19.toInt + 1 := z_tadd ex60 rfl z_l1 (by omega) (by omega)
                      refine lv_iinc (v := x60) (lv' := [(6, .int x60), (7, .int x27), (4, .long w20), (0, .ref (ad 0)), (1, .int a1), (2, .int a2), (3, .int a3)]) hx hb dX12_judged_147 hl (k := 1) rfl (by rw [ex60]; rfl) (by decide) rfl (fun ls hl => ?_)
                      refine lv_goto (tgt := 37) hx hb dX12_judged_150 (by decide) ?_
                      exact lp18ih x60 w20 _ _ _ (by omega) (by omega) (by omega) hW hS (lv_sub hl [0, 2, 3, 4, 5, 6] rfl)
                  · have g61 := z_f_nle rfl z_l0 c41
                    refine lv_ldc2 (v := (-1)) hx hb hown (hts (.constantLong RX12 269 (-1)) (me_s (me_l (me_l (List.mem_of_getElem? (i := 1) rfl))))) dX12_judged_90 ?_
                    exact z_lret hx hb hr hK hS (Nat.le_of_ble_eq_true rfl) (Nat.le_of_ble_eq_true rfl) hlocks dX12_judged_93 (shM, ad, I, J, PM ad) hW rfl
          exact lp18 4294967296 a2 0 _ _ _ (z_m0u _) (by omega) (by omega) hW hS (lv_sub hl [0, 1, 2, 3, 4, 5] rfl)
        · have g62 := z_f_nlt rfl rfl c16
          refine lv_ldc2 (v := (-1)) hx hb hown (hts (.constantLong RX12 269 (-1)) (me_s (me_l (me_l (List.mem_of_getElem? (i := 1) rfl))))) dX12_judged_27 ?_
          exact z_lret hx hb hr hK hS (Nat.le_of_ble_eq_true rfl) (Nat.le_of_ble_eq_true rfl) hlocks dX12_judged_30 (shM, ad, I, J, PM ad) hW rfl
  · refine lv_if_eq (tgt := 27) hx hb dX12_judged_5 (by decide) (fun c63 => ?_) (fun c63 => absurd (by decide) c63)
    refine lv_ldc2 (v := (-1)) hx hb hown (hts (.constantLong RX12 269 (-1)) (me_s (me_l (me_l (List.mem_of_getElem? (i := 1) rfl))))) dX12_judged_27 ?_
    exact z_lret hx hb hr hK hS (Nat.le_of_ble_eq_true rfl) (Nat.le_of_ble_eq_true rfl) hlocks dX12_judged_30 (shM, ad, I, J, PM ad) hW rfl
theorem zj_X12_count_X12 : ∀ w ∈ wsX120, w ∈ wsX12_count := fun w h => (List.mem_cons_of_mem _ (List.mem_append_right _ h))
set_option maxHeartbeats 8000000 in
set_option maxRecDepth 100000 in
theorem sx_X12_count (l : Launch) (G : z_G) (ad : Nat → Nat) (I : z_I) (J : z_J) (hma : z_ima I) (hmb : z_imb I) (hmp : z_imp I) (hms : z_ims I) (hmr : z_imr I) (hmj : z_imj I) (a1 : Int32) : z_M l yX12_count wsX12_count { frames := 1, cells := 0, slots := 0, locals := 12 } [.ref (ad 0), .int a1] G (shM, ad, I, J, PM ad) (fun r u1 => u1 = (shM, ad, I, J, PM ad)) 0 0 := by
  intro sz
  refine z_headQ (cc := cX12_count) (maxL := 5) (ret := (some .int)) (by decide) rfl (Nat.le_of_ble_eq_true rfl) ?_
  intro p e s m below meth c0 ls hIn hK hsz hW hl
  obtain ⟨hx, hb, hr, hml, hown, hts, hlocks, hname⟩ := hIn
  subst hsz
  have hown : s.vm.findClass RX12 = some m.cls := hown
  have hA : ∀ q : Nat, s.heap.size ≤ q → z_A (shM, ad, I, J, PM ad) s.heap.size q := fun q h => Or.inr h
  generalize hAe : z_A (shM, ad, I, J, PM ad) s.heap.size = A at *
  have hS : va_S A s.heap s.heap [] := va_S.rf
  have hl : lv_has ls 5 [(0, .ref (ad 0)), (1, .int a1)] := hl
  refine lv_iconst (v := 0) hx hb dX12_count_0 (by decide) ?_
  refine lv_istore_n (lv' := [(2, .int 0), (0, .ref (ad 0)), (1, .int a1)]) hx hb dX12_count_1 rfl hl (by decide) rfl (fun ls hl => ?_)
  refine lv_iconst (v := 0) hx hb dX12_count_2 (by decide) ?_
  refine lv_istore_n (lv' := [(3, .int 0), (2, .int 0), (0, .ref (ad 0)), (1, .int a1)]) hx hb dX12_count_3 rfl hl (by decide) rfl (fun ls hl => ?_)
  refine lv_iconst (v := 0) hx hb dX12_count_4 (by decide) ?_
  refine lv_istore (lv' := [(4, .int 0), (3, .int 0), (2, .int 0), (0, .ref (ad 0)), (1, .int a1)]) hx hb dX12_count_5 hl (by decide) rfl (fun ls hl => ?_)
  have lp1 : ∀ (f : Nat) (y2 : Int32) (y3 : Int32) (y4 : Int32) (H : Heap) (locs : List Loc) (ls : Array Slot), (2147483647 < y2.toInt + (f : Int)) → (0 ≤ y2.toInt) → z_W G A (shM, ad, I, J, PM ad) H → va_S A s.heap H locs → lv_has ls 5 [(4, .int y2), (3, .int y3), (2, .int y4), (0, .ref (ad 0)), (1, .int a1)] → W p l e (headSpec wsX12_count { frames := 1, cells := 0, slots := 0, locals := 12 }).room s m ([.ref (ad 0), .int a1] : List Value).toArray below meth c0 H locs 0 0 (MQ below (va_Qi (fun (r : Int32) (u1 : z_U) => u1 = (shM, ad, I, J, PM ad)) (z_B G A) A) ([.ref (ad 0), .int a1] : List Value).toArray s 0 0 A) (F0 m 7 ls []) := by
    intro f
    induction f with
    | zero => intro y2 y3 y4 H locs ls lp1m lp1l4 hW hS hl; exact absurd lp1m (by have := Int32.toInt_lt y2; have := Int32.le_toInt y2; omega)
    | succ f lp1ih =>
      intro y2 y3 y4 H locs ls lp1m lp1l4 hW hS hl
      refine lv_iload hx hb dX12_count_7 (lv_at hl 0 rfl) ?_
      refine lv_aload_n hx hb dX12_count_9 rfl (lv_at hl 3 rfl) ?_
      have r5 : 0 ≤ (I 0 55).toInt ∧ (I 0 55).toInt ≤ 300 := hms.2
      refine z_get (T := TX12) (N := 96) (ci := 12) (i := 0) (v := .int (I 0 55)) hx hb hts zj_X12_count_X12 hown hK hW rfl rfl 55 (by decide) (hts (.fieldLink RX12 468 "PetrolBoardModel" "pours" "I") (me_s (me_l (List.mem_of_getElem? (i := 0) rfl)))) (fun _ h => h) rfl dX12_count_10 ?_
      refine lv_icmp_ge (tgt := 48) hx hb dX12_count_13 (by decide) (fun c6 => ?_) (fun c6 => ?_)
      · have g7 := z_f_ge rfl rfl c6
        have b8 := Int32.toInt_lt y2
        refine lv_iload_n hx hb dX12_count_48 rfl (lv_at hl 4 rfl) ?_
        by_cases q9 : a1 = 0
        · refine lv_tableIn (tgt := 116) hx hb dX12_count_49 (by rw [q9]; decide) (by rw [q9]; decide) (by rw [q9]; rfl) (by decide) ?_
          refine lv_aload_n hx hb dX12_count_116 rfl (lv_at hl 3 rfl) ?_
          have r10 : 0 ≤ (I 0 0).toInt ∧ (I 0 0).toInt ≤ 719 := hma.1
          refine z_get (T := TX12) (N := 96) (ci := 12) (i := 0) (v := .int (I 0 0)) hx hb hts zj_X12_count_X12 hown hK hW rfl rfl 0 (by decide) (hts (.fieldLink RX12 232 "PetrolBoardModel" "today" "I") (me_s (me_l (List.mem_of_getElem? (i := 2) rfl)))) (fun _ h => h) rfl dX12_count_117 ?_
          exact z_iret hx hb hr hK hS (Nat.le_of_ble_eq_true rfl) (Nat.le_of_ble_eq_true rfl) hlocks dX12_count_120 (shM, ad, I, J, PM ad) hW rfl
        by_cases q11 : a1 = 1
        · refine lv_tableIn (tgt := 121) hx hb dX12_count_49 (by rw [q11]; decide) (by rw [q11]; decide) (by rw [q11]; rfl) (by decide) ?_
          refine lv_aload_n hx hb dX12_count_121 rfl (lv_at hl 3 rfl) ?_
          have r12 : 0 ≤ (I 0 1).toInt ∧ (I 0 1).toInt ≤ 30 := hma.2.1
          refine z_get (T := TX12) (N := 96) (ci := 12) (i := 0) (v := .int (I 0 1)) hx hb hts zj_X12_count_X12 hown hK hW rfl rfl 1 (by decide) (hts (.fieldLink RX12 229 "PetrolBoardModel" "holders" "I") (me_s (me_l (List.mem_of_getElem? (i := 3) rfl)))) (fun _ h => h) rfl dX12_count_122 ?_
          exact z_iret hx hb hr hK hS (Nat.le_of_ble_eq_true rfl) (Nat.le_of_ble_eq_true rfl) hlocks dX12_count_125 (shM, ad, I, J, PM ad) hW rfl
        by_cases q13 : a1 = 2
        · refine lv_tableIn (tgt := 126) hx hb dX12_count_49 (by rw [q13]; decide) (by rw [q13]; decide) (by rw [q13]; rfl) (by decide) ?_
          refine lv_aload_n hx hb dX12_count_126 rfl (lv_at hl 3 rfl) ?_
          have r14 : 0 ≤ (I 0 2).toInt ∧ (I 0 2).toInt ≤ 200 := hma.2.2
          refine z_get (T := TX12) (N := 96) (ci := 12) (i := 0) (v := .int (I 0 2)) hx hb hts zj_X12_count_X12 hown hK hW rfl rfl 2 (by decide) (hts (.fieldLink RX12 246 "PetrolBoardModel" "notes" "I") (me_s (me_l (List.mem_of_getElem? (i := 4) rfl)))) (fun _ h => h) rfl dX12_count_127 ?_
          exact z_iret hx hb hr hK hS (Nat.le_of_ble_eq_true rfl) (Nat.le_of_ble_eq_true rfl) hlocks dX12_count_130 (shM, ad, I, J, PM ad) hW rfl
        by_cases q15 : a1 = 3
        · refine lv_tableIn (tgt := 131) hx hb dX12_count_49 (by rw [q15]; decide) (by rw [q15]; decide) (by rw [q15]; rfl) (by decide) ?_
          refine lv_aload_n hx hb dX12_count_131 rfl (lv_at hl 3 rfl) ?_
          have r16 : 0 ≤ (I 0 13).toInt ∧ (I 0 13).toInt ≤ 12 := hmb.1
          refine z_get (T := TX12) (N := 96) (ci := 12) (i := 0) (v := .int (I 0 13)) hx hb hts zj_X12_count_X12 hown hK hW rfl rfl 13 (by decide) (hts (.fieldLink RX12 408 "PetrolBoardModel" "texts" "I") (me_s (me_l (List.mem_of_getElem? (i := 5) rfl)))) (fun _ h => h) rfl dX12_count_132 ?_
          exact z_iret hx hb hr hK hS (Nat.le_of_ble_eq_true rfl) (Nat.le_of_ble_eq_true rfl) hlocks dX12_count_135 (shM, ad, I, J, PM ad) hW rfl
        by_cases q17 : a1 = 4
        · refine lv_tableIn (tgt := 136) hx hb dX12_count_49 (by rw [q17]; decide) (by rw [q17]; decide) (by rw [q17]; rfl) (by decide) ?_
          refine lv_aload_n hx hb dX12_count_136 rfl (lv_at hl 3 rfl) ?_
          refine z_get (T := TX12) (N := 96) (ci := 12) (i := 0) (v := .int (I 0 50)) hx hb hts zj_X12_count_X12 hown hK hW rfl rfl 50 (by decide) (hts (.fieldLink RX12 449 "PetrolBoardModel" "books" "I") (me_s (me_l (List.mem_of_getElem? (i := 6) rfl)))) (fun _ h => h) rfl dX12_count_137 ?_
          exact z_iret hx hb hr hK hS (Nat.le_of_ble_eq_true rfl) (Nat.le_of_ble_eq_true rfl) hlocks dX12_count_140 (shM, ad, I, J, PM ad) hW rfl
        by_cases q18 : a1 = 5
        · refine lv_tableIn (tgt := 141) hx hb dX12_count_49 (by rw [q18]; decide) (by rw [q18]; decide) (by rw [q18]; rfl) (by decide) ?_
          refine lv_aload_n hx hb dX12_count_141 rfl (lv_at hl 3 rfl) ?_
          have r19 : 0 ≤ (I 0 54).toInt ∧ (I 0 54).toInt ≤ 10 := hms.1
          refine z_get (T := TX12) (N := 96) (ci := 12) (i := 0) (v := .int (I 0 54)) hx hb hts zj_X12_count_X12 hown hK hW rfl rfl 54 (by decide) (hts (.fieldLink RX12 461 "PetrolBoardModel" "stations" "I") (me_s (me_l (List.mem_of_getElem? (i := 7) rfl)))) (fun _ h => h) rfl dX12_count_142 ?_
          exact z_iret hx hb hr hK hS (Nat.le_of_ble_eq_true rfl) (Nat.le_of_ble_eq_true rfl) hlocks dX12_count_145 (shM, ad, I, J, PM ad) hW rfl
        by_cases q20 : a1 = 6
        · refine lv_tableIn (tgt := 146) hx hb dX12_count_49 (by rw [q20]; decide) (by rw [q20]; decide) (by rw [q20]; rfl) (by decide) ?_
          refine lv_aload_n hx hb dX12_count_146 rfl (lv_at hl 3 rfl) ?_
          refine z_get (T := TX12) (N := 96) (ci := 12) (i := 0) (v := .int (I 0 55)) hx hb hts zj_X12_count_X12 hown hK hW rfl rfl 55 (by decide) (hts (.fieldLink RX12 468 "PetrolBoardModel" "pours" "I") (me_s (me_l (List.mem_of_getElem? (i := 0) rfl)))) (fun _ h => h) rfl dX12_count_147 ?_
          exact z_iret hx hb hr hK hS (Nat.le_of_ble_eq_true rfl) (Nat.le_of_ble_eq_true rfl) hlocks dX12_count_150 (shM, ad, I, J, PM ad) hW rfl
        by_cases q21 : a1 = 7
        · refine lv_tableIn (tgt := 151) hx hb dX12_count_49 (by rw [q21]; decide) (by rw [q21]; decide) (by rw [q21]; rfl) (by decide) ?_
          refine lv_iload_n hx hb dX12_count_151 rfl (lv_at hl 2 rfl) ?_
          exact z_iret hx hb hr hK hS (Nat.le_of_ble_eq_true rfl) (Nat.le_of_ble_eq_true rfl) hlocks dX12_count_152 (shM, ad, I, J, PM ad) hW rfl
        by_cases q22 : a1 = 8
        · refine lv_tableIn (tgt := 153) hx hb dX12_count_49 (by rw [q22]; decide) (by rw [q22]; decide) (by rw [q22]; rfl) (by decide) ?_
          refine lv_iload_n hx hb dX12_count_153 rfl (lv_at hl 1 rfl) ?_
          exact z_iret hx hb hr hK hS (Nat.le_of_ble_eq_true rfl) (Nat.le_of_ble_eq_true rfl) hlocks dX12_count_154 (shM, ad, I, J, PM ad) hW rfl
        by_cases q23 : a1 = 9
        · refine lv_tableIn (tgt := 155) hx hb dX12_count_49 (by rw [q23]; decide) (by rw [q23]; decide) (by rw [q23]; rfl) (by decide) ?_
          refine lv_aload_n hx hb dX12_count_155 rfl (lv_at hl 3 rfl) ?_
          refine z_get (T := TX12) (N := 96) (ci := 12) (i := 0) (v := .int (I 0 51)) hx hb hts zj_X12_count_X12 hown hK hW rfl rfl 51 (by decide) (hts (.fieldLink RX12 455 "PetrolBoardModel" "lentAll" "I") (me_s (me_l (List.mem_of_getElem? (i := 8) rfl)))) (fun _ h => h) rfl dX12_count_156 ?_
          exact z_iret hx hb hr hK hS (Nat.le_of_ble_eq_true rfl) (Nat.le_of_ble_eq_true rfl) hlocks dX12_count_159 (shM, ad, I, J, PM ad) hW rfl
        by_cases q24 : a1 = 10
        · refine lv_tableIn (tgt := 160) hx hb dX12_count_49 (by rw [q24]; decide) (by rw [q24]; decide) (by rw [q24]; rfl) (by decide) ?_
          refine lv_aload_n hx hb dX12_count_160 rfl (lv_at hl 3 rfl) ?_
          have r25 : 0 ≤ (I 0 75).toInt ∧ (I 0 75).toInt ≤ 4 := hmr
          refine z_get (T := TX12) (N := 96) (ci := 12) (i := 0) (v := .int (I 0 75)) hx hb hts zj_X12_count_X12 hown hK hW rfl rfl 75 (by decide) (hts (.fieldLink RX12 493 "PetrolBoardModel" "ports" "I") (me_s (me_l (List.mem_of_getElem? (i := 9) rfl)))) (fun _ h => h) rfl dX12_count_161 ?_
          exact z_iret hx hb hr hK hS (Nat.le_of_ble_eq_true rfl) (Nat.le_of_ble_eq_true rfl) hlocks dX12_count_164 (shM, ad, I, J, PM ad) hW rfl
        by_cases q26 : a1 = 11
        · refine lv_tableIn (tgt := 165) hx hb dX12_count_49 (by rw [q26]; decide) (by rw [q26]; decide) (by rw [q26]; rfl) (by decide) ?_
          refine lv_aload_n hx hb dX12_count_165 rfl (lv_at hl 3 rfl) ?_
          have r27 : 0 ≤ (I 0 83).toInt ∧ (I 0 83).toInt ≤ 60 := hmj
          refine z_get (T := TX12) (N := 96) (ci := 12) (i := 0) (v := .int (I 0 83)) hx hb hts zj_X12_count_X12 hown hK hW rfl rfl 83 (by decide) (hts (.fieldLink RX12 505 "PetrolBoardModel" "journeys" "I") (me_s (me_l (List.mem_of_getElem? (i := 10) rfl)))) (fun _ h => h) rfl dX12_count_166 ?_
          exact z_iret hx hb hr hK hS (Nat.le_of_ble_eq_true rfl) (Nat.le_of_ble_eq_true rfl) hlocks dX12_count_169 (shM, ad, I, J, PM ad) hW rfl
        by_cases q28 : a1 = 12
        · refine lv_tableIn (tgt := 170) hx hb dX12_count_49 (by rw [q28]; decide) (by rw [q28]; decide) (by rw [q28]; rfl) (by decide) ?_
          refine lv_aload_n hx hb dX12_count_170 rfl (lv_at hl 3 rfl) ?_
          have r29 : 0 ≤ (I 0 31).toInt ∧ (I 0 31).toInt ≤ 500 := hmp.1
          refine z_get (T := TX12) (N := 96) (ci := 12) (i := 0) (v := .int (I 0 31)) hx hb hts zj_X12_count_X12 hown hK hW rfl rfl 31 (by decide) (hts (.fieldLink RX12 253 "PetrolBoardModel" "taped" "I") (me_s (me_l (List.mem_of_getElem? (i := 11) rfl)))) (fun _ h => h) rfl dX12_count_171 ?_
          exact z_iret hx hb hr hK hS (Nat.le_of_ble_eq_true rfl) (Nat.le_of_ble_eq_true rfl) hlocks dX12_count_174 (shM, ad, I, J, PM ad) hW rfl
        have q9 := z_f_ne rfl z_l0 q9
        have q11 := z_f_ne rfl z_l1 q11
        have q13 := z_f_ne rfl z_l2 q13
        have q15 := z_f_ne rfl z_l3 q15
        have q17 := z_f_ne rfl z_l4 q17
        have q18 := z_f_ne rfl z_l5 q18
        have q20 := z_f_ne rfl z_l6 q20
        have q21 := z_f_ne rfl z_l7 q21
        have q22 := z_f_ne rfl z_l8 q22
        have q23 := z_f_ne rfl z_l9 q23
        have q24 := z_f_ne rfl z_l10 q24
        have q26 := z_f_ne rfl z_l11 q26
        have q28 := z_f_ne rfl z_l12 q28
        refine lv_tableOut (tgt := 175) hx hb dX12_count_49 (by omega) (by decide) ?_
        refine lv_iconst (v := (-1)) hx hb dX12_count_175 (by decide) ?_
        exact z_iret hx hb hr hK hS (Nat.le_of_ble_eq_true rfl) (Nat.le_of_ble_eq_true rfl) hlocks dX12_count_176 (shM, ad, I, J, PM ad) hW rfl
      · have g30 := z_f_nge rfl rfl c6
        have b31 := Int32.toInt_lt y2
        refine lv_aload_n hx hb dX12_count_16 rfl (lv_at hl 3 rfl) ?_
        refine z_get (T := TX12) (N := 96) (ci := 12) (i := 0) (v := .ref (ad 40)) hx hb hts zj_X12_count_X12 hown hK hW rfl rfl 63 (by decide) (hts (.fieldLink RX12 136 "PetrolBoardModel" "pourJudged" "[I") (me_s (me_l (List.mem_of_getElem? (i := 1) rfl)))) (fun _ h => h) rfl dX12_count_17 ?_
        refine lv_iload hx hb dX12_count_20 (lv_at hl 0 rfl) ?_
        refine z_iald (i := 40) hx hb hK hW rfl (z_ix rfl (by omega) (by omega)) dX12_count_22 ?_
        refine lv_topi (fun x32 ex32 => ?_)
        refine lv_if_ne (tgt := 29) hx hb dX12_count_23 (by decide) (fun c33 => ?_) (fun c33 => ?_)
        · have g34 := z_f_ne rfl z_l0 c33
          have b35 := Int32.toInt_lt x32
          refine lv_aload_n hx hb dX12_count_29 rfl (lv_at hl 3 rfl) ?_
          refine z_get (T := TX12) (N := 96) (ci := 12) (i := 0) (v := .ref (ad 40)) hx hb hts zj_X12_count_X12 hown hK hW rfl rfl 63 (by decide) (hts (.fieldLink RX12 136 "PetrolBoardModel" "pourJudged" "[I") (me_s (me_l (List.mem_of_getElem? (i := 1) rfl)))) (fun _ h => h) rfl dX12_count_30 ?_
          refine lv_iload hx hb dX12_count_33 (lv_at hl 0 rfl) ?_
          refine z_iald (i := 40) hx hb hK hW rfl (z_ix rfl (by omega) (by omega)) dX12_count_35 ?_
          refine z_topi (v := x32) ex32.symm ?_
          refine lv_if_le (tgt := 42) hx hb dX12_count_36 (by decide) (fun c36 => ?_) (fun c36 => ?_)
          · have g37 := z_f_le rfl z_l0 c36
            obtain ⟨x38, ex38⟩ : ∃ y : Int32, y = y2 + 1 := ⟨_, rfl⟩
            have tx38 : x38.toInt = y2.toInt + 1 := z_tadd ex38 rfl z_l1 (by omega) (by omega)
            refine lv_iinc (v := x38) (lv' := [(4, .int x38), (3, .int y3), (2, .int y4), (0, .ref (ad 0)), (1, .int a1)]) hx hb dX12_count_42 hl (k := 0) rfl (by rw [ex38]; rfl) (by decide) rfl (fun ls hl => ?_)
            refine lv_goto (tgt := 7) hx hb dX12_count_45 (by decide) ?_
            exact lp1ih x38 y3 y4 _ _ _ (by omega) (by omega) hW hS (lv_sub hl [0, 1, 2, 3, 4] rfl)
          · have g39 := z_f_nle rfl z_l0 c36
            obtain ⟨x40, ex40⟩ : ∃ y : Int32, y = y3 + 1 := ⟨_, rfl⟩
            refine lv_iinc (v := x40) (lv' := [(3, .int x40), (4, .int y2), (2, .int y4), (0, .ref (ad 0)), (1, .int a1)]) hx hb dX12_count_39 hl (k := 1) rfl (by rw [ex40]; rfl) (by decide) rfl (fun ls hl => ?_)
            obtain ⟨x41, ex41⟩ : ∃ y : Int32, y = y2 + 1 := ⟨_, rfl⟩
            have tx41 : x41.toInt = y2.toInt + 1 := z_tadd ex41 rfl z_l1 (by omega) (by omega)
            refine lv_iinc (v := x41) (lv' := [(4, .int x41), (3, .int x40), (2, .int y4), (0, .ref (ad 0)), (1, .int a1)]) hx hb dX12_count_42 hl (k := 1) rfl (by rw [ex41]; rfl) (by decide) rfl (fun ls hl => ?_)
            refine lv_goto (tgt := 7) hx hb dX12_count_45 (by decide) ?_
            exact lp1ih x41 x40 y4 _ _ _ (by omega) (by omega) hW hS (lv_sub hl [0, 1, 2, 3, 4] rfl)
        · have g42 := z_f_eq rfl z_l0 c33
          have b43 := Int32.toInt_lt x32
          obtain ⟨x44, ex44⟩ : ∃ y : Int32, y = y4 + 1 := ⟨_, rfl⟩
          refine lv_iinc (v := x44) (lv' := [(2, .int x44), (4, .int y2), (3, .int y3), (0, .ref (ad 0)), (1, .int a1)]) hx hb dX12_count_26 hl (k := 2) rfl (by rw [ex44]; rfl) (by decide) rfl (fun ls hl => ?_)
          refine lv_aload_n hx hb dX12_count_29 rfl (lv_at hl 3 rfl) ?_
          refine z_get (T := TX12) (N := 96) (ci := 12) (i := 0) (v := .ref (ad 40)) hx hb hts zj_X12_count_X12 hown hK hW rfl rfl 63 (by decide) (hts (.fieldLink RX12 136 "PetrolBoardModel" "pourJudged" "[I") (me_s (me_l (List.mem_of_getElem? (i := 1) rfl)))) (fun _ h => h) rfl dX12_count_30 ?_
          refine lv_iload hx hb dX12_count_33 (lv_at hl 1 rfl) ?_
          refine z_iald (i := 40) hx hb hK hW rfl (z_ix rfl (by omega) (by omega)) dX12_count_35 ?_
          refine z_topi (v := x32) ex32.symm ?_
          refine lv_if_le (tgt := 42) hx hb dX12_count_36 (by decide) (fun c45 => ?_) (fun c45 => (by have g := z_f_nle rfl z_l0 c45; omega))
          have g46 := z_f_le rfl z_l0 c45
          obtain ⟨x47, ex47⟩ : ∃ y : Int32, y = y2 + 1 := ⟨_, rfl⟩
          have tx47 : x47.toInt = y2.toInt + 1 := z_tadd ex47 rfl z_l1 (by omega) (by omega)
          refine lv_iinc (v := x47) (lv' := [(4, .int x47), (2, .int x44), (3, .int y3), (0, .ref (ad 0)), (1, .int a1)]) hx hb dX12_count_42 hl (k := 1) rfl (by rw [ex47]; rfl) (by decide) rfl (fun ls hl => ?_)
          refine lv_goto (tgt := 7) hx hb dX12_count_45 (by decide) ?_
          exact lp1ih x47 y3 x44 _ _ _ (by omega) (by omega) hW hS (lv_sub hl [0, 2, 1, 3, 4] rfl)
  exact lp1 4294967296 (0) (0) (0) _ _ _ (z_m0u _) (by rw [z_l0]; omega) hW hS (lv_sub hl [0, 1, 2, 3, 4] rfl)
theorem zj_X12_isLike_X12 : ∀ w ∈ wsX120, w ∈ wsX12_isLike := fun w h => (List.mem_cons_of_mem _ (List.mem_append_right _ h))
set_option maxHeartbeats 8000000 in
set_option maxRecDepth 100000 in
theorem sx_X12_isLike (l : Launch) (G : z_G) (ad : Nat → Nat) (I : z_I) (J : z_J) (hma : z_ima I) (hmj : z_imj I) (a1 : Int32) (a2 : Int32) (q1 : 0 ≤ a1.toInt ∧ a1.toInt ≤ 59) (q2 : 0 ≤ a2.toInt ∧ a2.toInt ≤ 59) : z_M l yX12_isLike wsX12_isLike { frames := 2, cells := 0, slots := 0, locals := 37 } [.ref (ad 0), .int a1, .int a2] G (shM, ad, I, J, PM ad) (fun r u1 => u1 = (shM, ad, I, J, PM ad) ∧ (r = 1 ∨ r = 0)) 0 0 := by
  intro sz
  refine z_headQ (cc := cX12_isLike) (maxL := 3) (ret := (some .boolean)) (by decide) rfl (Nat.le_of_ble_eq_true rfl) ?_
  intro p e s m below meth c0 ls hIn hK hsz hW hl
  obtain ⟨hx, hb, hr, hml, hown, hts, hlocks, hname⟩ := hIn
  subst hsz
  have hown : s.vm.findClass RX12 = some m.cls := hown
  have hA : ∀ q : Nat, s.heap.size ≤ q → z_A (shM, ad, I, J, PM ad) s.heap.size q := fun q h => Or.inr h
  generalize hAe : z_A (shM, ad, I, J, PM ad) s.heap.size = A at *
  have hS : va_S A s.heap s.heap [] := va_S.rf
  have hl : lv_has ls 3 [(0, .ref (ad 0)), (1, .int a1), (2, .int a2)] := hl
  refine lv_iload_n hx hb dX12_isLike_0 rfl (lv_at hl 2 rfl) ?_
  refine lv_iload_n hx hb dX12_isLike_1 rfl (lv_at hl 1 rfl) ?_
  refine lv_icmp_eq (tgt := 78) hx hb dX12_isLike_2 (by decide) (fun c1 => ?_) (fun c1 => ?_)
  · have g2 := z_f_eq rfl rfl c1
    refine lv_iconst (v := 0) hx hb dX12_isLike_78 (by decide) ?_
    exact z_zret hx hb hr (by decide) hK hS (Nat.le_of_ble_eq_true rfl) (Nat.le_of_ble_eq_true rfl) hlocks dX12_isLike_79 (shM, ad, I, J, PM ad) hW ⟨rfl, Or.inr rfl⟩
  · have g3 := z_f_ne rfl rfl c1
    refine lv_aload_n hx hb dX12_isLike_5 rfl (lv_at hl 0 rfl) ?_
    refine z_get (T := TX12) (N := 96) (ci := 12) (i := 0) (v := .ref (ad 62)) hx hb hts zj_X12_isLike_X12 hown hK hW rfl rfl 87 (by decide) (hts (.fieldLink RX12 202 "PetrolBoardModel" "jReason" "[I") (me_s (me_l (List.mem_of_getElem? (i := 0) rfl)))) (fun _ h => h) rfl dX12_isLike_6 ?_
    refine lv_iload_n hx hb dX12_isLike_9 rfl (lv_at hl 2 rfl) ?_
    refine z_iald (i := 62) hx hb hK hW rfl (z_ix rfl (by omega) (by omega)) dX12_isLike_10 ?_
    refine lv_topi (fun x4 ex4 => ?_)
    refine lv_aload_n hx hb dX12_isLike_11 rfl (lv_at hl 0 rfl) ?_
    refine z_get (T := TX12) (N := 96) (ci := 12) (i := 0) (v := .ref (ad 62)) hx hb hts zj_X12_isLike_X12 hown hK hW rfl rfl 87 (by decide) (hts (.fieldLink RX12 202 "PetrolBoardModel" "jReason" "[I") (me_s (me_l (List.mem_of_getElem? (i := 0) rfl)))) (fun _ h => h) rfl dX12_isLike_12 ?_
    refine lv_iload_n hx hb dX12_isLike_15 rfl (lv_at hl 1 rfl) ?_
    refine z_iald (i := 62) hx hb hK hW rfl (z_ix rfl (by omega) (by omega)) dX12_isLike_16 ?_
    refine lv_topi (fun x5 ex5 => ?_)
    refine lv_icmp_ne (tgt := 78) hx hb dX12_isLike_17 (by decide) (fun c6 => ?_) (fun c6 => ?_)
    · have g7 := z_f_ne rfl rfl c6
      have b8 := Int32.toInt_lt x4
      have b9 := Int32.toInt_lt x5
      refine lv_iconst (v := 0) hx hb dX12_isLike_78 (by decide) ?_
      exact z_zret hx hb hr (by decide) hK hS (Nat.le_of_ble_eq_true rfl) (Nat.le_of_ble_eq_true rfl) hlocks dX12_isLike_79 (shM, ad, I, J, PM ad) hW ⟨rfl, Or.inr rfl⟩
    · have g10 := z_f_eq rfl rfl c6
      have b11 := Int32.toInt_lt x4
      have b12 := Int32.toInt_lt x5
      refine lv_aload_n hx hb dX12_isLike_20 rfl (lv_at hl 0 rfl) ?_
      refine z_get (T := TX12) (N := 96) (ci := 12) (i := 0) (v := .ref (ad 61)) hx hb hts zj_X12_isLike_X12 hown hK hW rfl rfl 86 (by decide) (hts (.fieldLink RX12 199 "PetrolBoardModel" "jPeople" "[I") (me_s (me_l (List.mem_of_getElem? (i := 1) rfl)))) (fun _ h => h) rfl dX12_isLike_21 ?_
      refine lv_iload_n hx hb dX12_isLike_24 rfl (lv_at hl 2 rfl) ?_
      refine z_iald (i := 61) hx hb hK hW rfl (z_ix rfl (by omega) (by omega)) dX12_isLike_25 ?_
      refine lv_topi (fun x13 ex13 => ?_)
      refine lv_aload_n hx hb dX12_isLike_26 rfl (lv_at hl 0 rfl) ?_
      refine z_get (T := TX12) (N := 96) (ci := 12) (i := 0) (v := .ref (ad 61)) hx hb hts zj_X12_isLike_X12 hown hK hW rfl rfl 86 (by decide) (hts (.fieldLink RX12 199 "PetrolBoardModel" "jPeople" "[I") (me_s (me_l (List.mem_of_getElem? (i := 1) rfl)))) (fun _ h => h) rfl dX12_isLike_27 ?_
      refine lv_iload_n hx hb dX12_isLike_30 rfl (lv_at hl 1 rfl) ?_
      refine z_iald (i := 61) hx hb hK hW rfl (z_ix rfl (by omega) (by omega)) dX12_isLike_31 ?_
      refine lv_topi (fun x14 ex14 => ?_)
      refine lv_icmp_ne (tgt := 78) hx hb dX12_isLike_32 (by decide) (fun c15 => ?_) (fun c15 => ?_)
      · have g16 := z_f_ne rfl rfl c15
        have b17 := Int32.toInt_lt x13
        have b18 := Int32.toInt_lt x14
        refine lv_iconst (v := 0) hx hb dX12_isLike_78 (by decide) ?_
        exact z_zret hx hb hr (by decide) hK hS (Nat.le_of_ble_eq_true rfl) (Nat.le_of_ble_eq_true rfl) hlocks dX12_isLike_79 (shM, ad, I, J, PM ad) hW ⟨rfl, Or.inr rfl⟩
      · have g19 := z_f_eq rfl rfl c15
        have b20 := Int32.toInt_lt x13
        have b21 := Int32.toInt_lt x14
        refine lv_aload_n hx hb dX12_isLike_35 rfl (lv_at hl 0 rfl) ?_
        refine z_get (T := TX12) (N := 96) (ci := 12) (i := 0) (v := .ref (ad 60)) hx hb hts zj_X12_isLike_X12 hown hK hW rfl rfl 85 (by decide) (hts (.fieldLink RX12 196 "PetrolBoardModel" "jMiles" "[I") (me_s (me_l (List.mem_of_getElem? (i := 2) rfl)))) (fun _ h => h) rfl dX12_isLike_36 ?_
        refine lv_iload_n hx hb dX12_isLike_39 rfl (lv_at hl 2 rfl) ?_
        refine z_iald (i := 60) hx hb hK hW rfl (z_ix rfl (by omega) (by omega)) dX12_isLike_40 ?_
        refine lv_topi (fun x22 ex22 => ?_)
        refine lv_aload_n hx hb dX12_isLike_41 rfl (lv_at hl 0 rfl) ?_
        refine z_get (T := TX12) (N := 96) (ci := 12) (i := 0) (v := .ref (ad 60)) hx hb hts zj_X12_isLike_X12 hown hK hW rfl rfl 85 (by decide) (hts (.fieldLink RX12 196 "PetrolBoardModel" "jMiles" "[I") (me_s (me_l (List.mem_of_getElem? (i := 2) rfl)))) (fun _ h => h) rfl dX12_isLike_42 ?_
        refine lv_iload_n hx hb dX12_isLike_45 rfl (lv_at hl 1 rfl) ?_
        refine z_iald (i := 60) hx hb hK hW rfl (z_ix rfl (by omega) (by omega)) dX12_isLike_46 ?_
        refine lv_topi (fun x23 ex23 => ?_)
        refine lv_isub hx hb dX12_isLike_47 ?_
        refine lv_topi (fun x24 ex24 => ?_)
        refine z_ci hW hS hA (va_runS (As := [.int x24]) (rest := []) ⟨hx, hb, hml, hown, hts⟩ (sx_X12_abs l G ad I J  x24 _) (va_cwS 1 hts gX12_isLike_X12_abs rfl rfl rfl hy_X12_abs.2 ⟨Nat.le_of_ble_eq_true rfl, Nat.le_of_ble_eq_true rfl⟩) (z_preS hK hW) rfl rfl hl.1 rfl (lv_room (Nat.le_of_ble_eq_true rfl)) dX12_isLike_48 ⟨Nat.le_of_ble_eq_true rfl, Nat.le_of_ble_eq_true rfl⟩) (fun r u1 H locs hp hW hS => ?_)
        rw [hp] at hW
        refine lv_topi (fun x25 ex25 => ?_)
        refine lv_aload_n hx hb dX12_isLike_51 rfl (lv_at hl 0 rfl) ?_
        refine z_get (T := TX12) (N := 96) (ci := 12) (i := 0) (v := .ref (ad 60)) hx hb hts zj_X12_isLike_X12 hown hK hW rfl rfl 85 (by decide) (hts (.fieldLink RX12 196 "PetrolBoardModel" "jMiles" "[I") (me_s (me_l (List.mem_of_getElem? (i := 2) rfl)))) (fun _ h => h) rfl dX12_isLike_52 ?_
        refine lv_iload_n hx hb dX12_isLike_55 rfl (lv_at hl 1 rfl) ?_
        refine z_iald (i := 60) hx hb hK hW rfl (z_ix rfl (by omega) (by omega)) dX12_isLike_56 ?_
        refine z_topi (v := x23) ex23.symm ?_
        refine lv_bipush (v := 10) hx hb dX12_isLike_57 (by decide) ?_
        refine lv_idiv hx hb dX12_isLike_59 (by decide) ?_
        refine lv_topi (fun x26 ex26 => ?_)
        have tx26 := z_tdiv ex26 rfl z_l10 (by decide)
        refine lv_icmp_gt (tgt := 78) hx hb dX12_isLike_60 (by decide) (fun c27 => ?_) (fun c27 => ?_)
        · have g28 := z_f_gt rfl rfl c27
          have b29 := Int32.toInt_lt x25
          have b30 := Int32.toInt_lt x26
          refine lv_iconst (v := 0) hx hb dX12_isLike_78 (by decide) ?_
          exact z_zret hx hb hr (by decide) hK hS (Nat.le_of_ble_eq_true rfl) (Nat.le_of_ble_eq_true rfl) hlocks dX12_isLike_79 (shM, ad, I, J, PM ad) hW ⟨rfl, Or.inr rfl⟩
        · have g31 := z_f_ngt rfl rfl c27
          have b32 := Int32.toInt_lt x25
          have b33 := Int32.toInt_lt x26
          refine lv_aload_n hx hb dX12_isLike_63 rfl (lv_at hl 0 rfl) ?_
          refine z_get (T := TX12) (N := 96) (ci := 12) (i := 0) (v := .ref (ad 66)) hx hb hts zj_X12_isLike_X12 hown hK hW rfl rfl 91 (by decide) (hts (.fieldLink RX12 214 "PetrolBoardModel" "jGranted" "[I") (me_s (me_l (List.mem_of_getElem? (i := 3) rfl)))) (fun _ h => h) rfl dX12_isLike_64 ?_
          refine lv_iload_n hx hb dX12_isLike_67 rfl (lv_at hl 2 rfl) ?_
          refine z_iald (i := 66) hx hb hK hW rfl (z_ix rfl (by omega) (by omega)) dX12_isLike_68 ?_
          refine lv_topi (fun x34 ex34 => ?_)
          refine lv_aload_n hx hb dX12_isLike_69 rfl (lv_at hl 0 rfl) ?_
          refine z_get (T := TX12) (N := 96) (ci := 12) (i := 0) (v := .ref (ad 66)) hx hb hts zj_X12_isLike_X12 hown hK hW rfl rfl 91 (by decide) (hts (.fieldLink RX12 214 "PetrolBoardModel" "jGranted" "[I") (me_s (me_l (List.mem_of_getElem? (i := 3) rfl)))) (fun _ h => h) rfl dX12_isLike_70 ?_
          refine lv_iload_n hx hb dX12_isLike_73 rfl (lv_at hl 1 rfl) ?_
          refine z_iald (i := 66) hx hb hK hW rfl (z_ix rfl (by omega) (by omega)) dX12_isLike_74 ?_
          refine lv_topi (fun x35 ex35 => ?_)
          refine lv_icmp_ne (tgt := 80) hx hb dX12_isLike_75 (by decide) (fun c36 => ?_) (fun c36 => ?_)
          · have g37 := z_f_ne rfl rfl c36
            have b38 := Int32.toInt_lt x34
            have b39 := Int32.toInt_lt x35
            refine lv_aload_n hx hb dX12_isLike_80 rfl (lv_at hl 0 rfl) ?_
            refine lv_aload_n hx hb dX12_isLike_81 rfl (lv_at hl 0 rfl) ?_
            refine z_get (T := TX12) (N := 96) (ci := 12) (i := 0) (v := .ref (ad 59)) hx hb hts zj_X12_isLike_X12 hown hK hW rfl rfl 84 (by decide) (hts (.fieldLink RX12 193 "PetrolBoardModel" "jWho" "[I") (me_s (me_l (List.mem_of_getElem? (i := 4) rfl)))) (fun _ h => h) rfl dX12_isLike_82 ?_
            refine lv_iload_n hx hb dX12_isLike_85 rfl (lv_at hl 2 rfl) ?_
            refine z_iald (i := 59) hx hb hK hW rfl (z_ix rfl (by omega) (by omega)) dX12_isLike_86 ?_
            refine lv_topi (fun x40 ex40 => ?_)
            refine lv_aload_n hx hb dX12_isLike_87 rfl (lv_at hl 0 rfl) ?_
            refine z_get (T := TX12) (N := 96) (ci := 12) (i := 0) (v := .ref (ad 63)) hx hb hts zj_X12_isLike_X12 hown hK hW rfl rfl 88 (by decide) (hts (.fieldLink RX12 205 "PetrolBoardModel" "jDay" "[I") (me_s (me_l (List.mem_of_getElem? (i := 5) rfl)))) (fun _ h => h) rfl dX12_isLike_88 ?_
            refine lv_iload_n hx hb dX12_isLike_91 rfl (lv_at hl 2 rfl) ?_
            refine z_iald (i := 63) hx hb hK hW rfl (z_ix rfl (by omega) (by omega)) dX12_isLike_92 ?_
            refine lv_topi (fun x41 ex41 => ?_)
            refine lv_aload_n hx hb dX12_isLike_93 rfl (lv_at hl 0 rfl) ?_
            have r42 : 0 ≤ (I 0 0).toInt ∧ (I 0 0).toInt ≤ 719 := hma.1
            refine z_get (T := TX12) (N := 96) (ci := 12) (i := 0) (v := .int (I 0 0)) hx hb hts zj_X12_isLike_X12 hown hK hW rfl rfl 0 (by decide) (hts (.fieldLink RX12 232 "PetrolBoardModel" "today" "I") (me_s (me_l (List.mem_of_getElem? (i := 6) rfl)))) (fun _ h => h) rfl dX12_isLike_94 ?_
            refine z_ci hW hS hA (va_runV (As := [.int x40, .int x41, .int (I 0 0)]) (rest := []) ⟨hx, hb, hml, hown, hts⟩ (sx_X12_kindOn l G ad I J ⟨(by show 0 ≤ (I 0 0).toInt ∧ (I 0 0).toInt ≤ 719; exact hma.1), (by show 0 ≤ (I 0 1).toInt ∧ (I 0 1).toInt ≤ 30; exact hma.2.1), (by show 0 ≤ (I 0 2).toInt ∧ (I 0 2).toInt ≤ 200; exact hma.2.2)⟩ x40 x41 (I 0 0) _) (cwV 3 hts gX12_isLike_X12_kindOn rfl rfl rfl hy_X12_kindOn ⟨Nat.le_of_ble_eq_true rfl, Nat.le_of_ble_eq_true rfl⟩) (z_preV (i := 0) hK hW rfl rfl) rfl rfl hl.1 rfl (lv_room (Nat.le_of_ble_eq_true rfl)) dX12_isLike_97 ⟨Nat.le_of_ble_eq_true rfl, Nat.le_of_ble_eq_true rfl⟩) (fun r u1 H locs hp hW hS => ?_)
            rw [hp] at hW
            refine lv_topi (fun x43 ex43 => ?_)
            refine lv_aload_n hx hb dX12_isLike_100 rfl (lv_at hl 0 rfl) ?_
            refine lv_aload_n hx hb dX12_isLike_101 rfl (lv_at hl 0 rfl) ?_
            refine z_get (T := TX12) (N := 96) (ci := 12) (i := 0) (v := .ref (ad 59)) hx hb hts zj_X12_isLike_X12 hown hK hW rfl rfl 84 (by decide) (hts (.fieldLink RX12 193 "PetrolBoardModel" "jWho" "[I") (me_s (me_l (List.mem_of_getElem? (i := 4) rfl)))) (fun _ h => h) rfl dX12_isLike_102 ?_
            refine lv_iload_n hx hb dX12_isLike_105 rfl (lv_at hl 1 rfl) ?_
            refine z_iald (i := 59) hx hb hK hW rfl (z_ix rfl (by omega) (by omega)) dX12_isLike_106 ?_
            refine lv_topi (fun x44 ex44 => ?_)
            refine lv_aload_n hx hb dX12_isLike_107 rfl (lv_at hl 0 rfl) ?_
            refine z_get (T := TX12) (N := 96) (ci := 12) (i := 0) (v := .ref (ad 63)) hx hb hts zj_X12_isLike_X12 hown hK hW rfl rfl 88 (by decide) (hts (.fieldLink RX12 205 "PetrolBoardModel" "jDay" "[I") (me_s (me_l (List.mem_of_getElem? (i := 5) rfl)))) (fun _ h => h) rfl dX12_isLike_108 ?_
            refine lv_iload_n hx hb dX12_isLike_111 rfl (lv_at hl 1 rfl) ?_
            refine z_iald (i := 63) hx hb hK hW rfl (z_ix rfl (by omega) (by omega)) dX12_isLike_112 ?_
            refine lv_topi (fun x45 ex45 => ?_)
            refine lv_aload_n hx hb dX12_isLike_113 rfl (lv_at hl 0 rfl) ?_
            refine z_get (T := TX12) (N := 96) (ci := 12) (i := 0) (v := .int (I 0 0)) hx hb hts zj_X12_isLike_X12 hown hK hW rfl rfl 0 (by decide) (hts (.fieldLink RX12 232 "PetrolBoardModel" "today" "I") (me_s (me_l (List.mem_of_getElem? (i := 6) rfl)))) (fun _ h => h) rfl dX12_isLike_114 ?_
            refine z_ci hW hS hA (va_runV (As := [.int x44, .int x45, .int (I 0 0)]) (rest := [.int x43]) ⟨hx, hb, hml, hown, hts⟩ (sx_X12_kindOn l G ad I J ⟨(by show 0 ≤ (I 0 0).toInt ∧ (I 0 0).toInt ≤ 719; exact hma.1), (by show 0 ≤ (I 0 1).toInt ∧ (I 0 1).toInt ≤ 30; exact hma.2.1), (by show 0 ≤ (I 0 2).toInt ∧ (I 0 2).toInt ≤ 200; exact hma.2.2)⟩ x44 x45 (I 0 0) _) (cwV 3 hts gX12_isLike_X12_kindOn rfl rfl rfl hy_X12_kindOn ⟨Nat.le_of_ble_eq_true rfl, Nat.le_of_ble_eq_true rfl⟩) (z_preV (i := 0) hK hW rfl rfl) rfl rfl hl.1 rfl (lv_room (Nat.le_of_ble_eq_true rfl)) dX12_isLike_117 ⟨Nat.le_of_ble_eq_true rfl, Nat.le_of_ble_eq_true rfl⟩) (fun r u1 H locs hp hW hS => ?_)
            rw [hp] at hW
            refine lv_topi (fun x46 ex46 => ?_)
            refine lv_icmp_ne (tgt := 127) hx hb dX12_isLike_120 (by decide) (fun c47 => ?_) (fun c47 => ?_)
            · have g48 := z_f_ne rfl rfl c47
              have b49 := Int32.toInt_lt x43
              have b50 := Int32.toInt_lt x46
              refine lv_iconst (v := 0) hx hb dX12_isLike_127 (by decide) ?_
              exact z_zret hx hb hr (by decide) hK hS (Nat.le_of_ble_eq_true rfl) (Nat.le_of_ble_eq_true rfl) hlocks dX12_isLike_128 (shM, ad, I, J, PM ad) hW ⟨rfl, Or.inr rfl⟩
            · have g51 := z_f_eq rfl rfl c47
              have b52 := Int32.toInt_lt x43
              have b53 := Int32.toInt_lt x46
              refine lv_iconst (v := 1) hx hb dX12_isLike_123 (by decide) ?_
              refine lv_goto (tgt := 128) hx hb dX12_isLike_124 (by decide) ?_
              exact z_zret hx hb hr (by decide) hK hS (Nat.le_of_ble_eq_true rfl) (Nat.le_of_ble_eq_true rfl) hlocks dX12_isLike_128 (shM, ad, I, J, PM ad) hW ⟨rfl, Or.inl rfl⟩
          · have g54 := z_f_eq rfl rfl c36
            have b55 := Int32.toInt_lt x34
            have b56 := Int32.toInt_lt x35
            refine lv_iconst (v := 0) hx hb dX12_isLike_78 (by decide) ?_
            exact z_zret hx hb hr (by decide) hK hS (Nat.le_of_ble_eq_true rfl) (Nat.le_of_ble_eq_true rfl) hlocks dX12_isLike_79 (shM, ad, I, J, PM ad) hW ⟨rfl, Or.inr rfl⟩
theorem zj_X12_journey_X12 : ∀ w ∈ wsX120, w ∈ wsX12_journey := fun w h => (List.mem_cons_of_mem _ (List.mem_append_right _ h))
set_option maxHeartbeats 8000000 in
set_option maxRecDepth 100000 in
theorem sx_X12_journey (l : Launch) (G : z_G) (ad : Nat → Nat) (I : z_I) (J : z_J) (hma : z_ima I) (hmj : z_imj I) (a1 : Int32) (a2 : Int32) : z_M l yX12_journey wsX12_journey { frames := 3, cells := 0, slots := 0, locals := 59 } [.ref (ad 0), .int a1, .int a2] G (shM, ad, I, J, PM ad) (fun r u1 => u1 = (shM, ad, I, J, PM ad)) 0 0 := by
  intro sz
  refine z_headQ (cc := cX12_journey) (maxL := 5) (ret := (some .int)) (by decide) rfl (Nat.le_of_ble_eq_true rfl) ?_
  intro p e s m below meth c0 ls hIn hK hsz hW hl
  obtain ⟨hx, hb, hr, hml, hown, hts, hlocks, hname⟩ := hIn
  subst hsz
  have hown : s.vm.findClass RX12 = some m.cls := hown
  have hA : ∀ q : Nat, s.heap.size ≤ q → z_A (shM, ad, I, J, PM ad) s.heap.size q := fun q h => Or.inr h
  generalize hAe : z_A (shM, ad, I, J, PM ad) s.heap.size = A at *
  have hS : va_S A s.heap s.heap [] := va_S.rf
  have hl : lv_has ls 5 [(0, .ref (ad 0)), (1, .int a1), (2, .int a2)] := hl
  refine lv_iload_n hx hb dX12_journey_0 rfl (lv_at hl 1 rfl) ?_
  refine lv_if_lt (tgt := 12) hx hb dX12_journey_1 (by decide) (fun c1 => ?_) (fun c1 => ?_)
  · have g2 := z_f_lt rfl z_l0 c1
    have b3 := Int32.toInt_lt a1
    refine lv_iconst (v := (-1)) hx hb dX12_journey_12 (by decide) ?_
    exact z_iret hx hb hr hK hS (Nat.le_of_ble_eq_true rfl) (Nat.le_of_ble_eq_true rfl) hlocks dX12_journey_13 (shM, ad, I, J, PM ad) hW rfl
  · have g4 := z_f_nlt rfl z_l0 c1
    have b5 := Int32.toInt_lt a1
    refine lv_iload_n hx hb dX12_journey_4 rfl (lv_at hl 1 rfl) ?_
    refine lv_aload_n hx hb dX12_journey_5 rfl (lv_at hl 0 rfl) ?_
    have r6 : 0 ≤ (I 0 83).toInt ∧ (I 0 83).toInt ≤ 60 := hmj
    refine z_get (T := TX12) (N := 96) (ci := 12) (i := 0) (v := .int (I 0 83)) hx hb hts zj_X12_journey_X12 hown hK hW rfl rfl 83 (by decide) (hts (.fieldLink RX12 505 "PetrolBoardModel" "journeys" "I") (me_s (me_l (me_l (List.mem_of_getElem? (i := 0) rfl))))) (fun _ h => h) rfl dX12_journey_6 ?_
    refine lv_icmp_lt (tgt := 14) hx hb dX12_journey_9 (by decide) (fun c7 => ?_) (fun c7 => ?_)
    · have g8 := z_f_lt rfl rfl c7
      refine lv_iload_n hx hb dX12_journey_14 rfl (lv_at hl 2 rfl) ?_
      refine lv_bipush (v := 100) hx hb dX12_journey_15 (by decide) ?_
      refine lv_icmp_lt (tgt := 69) hx hb dX12_journey_17 (by decide) (fun c9 => ?_) (fun c9 => ?_)
      · have g10 := z_f_lt rfl z_l100 c9
        have b11 := Int32.toInt_lt a2
        refine lv_iload_n hx hb dX12_journey_69 rfl (lv_at hl 2 rfl) ?_
        by_cases q12 : a2 = 0
        · refine lv_tableIn (tgt := 116) hx hb dX12_journey_70 (by rw [q12]; decide) (by rw [q12]; decide) (by rw [q12]; rfl) (by decide) ?_
          refine lv_aload_n hx hb dX12_journey_116 rfl (lv_at hl 0 rfl) ?_
          refine z_get (T := TX12) (N := 96) (ci := 12) (i := 0) (v := .ref (ad 59)) hx hb hts zj_X12_journey_X12 hown hK hW rfl rfl 84 (by decide) (hts (.fieldLink RX12 193 "PetrolBoardModel" "jWho" "[I") (me_s (me_l (me_l (List.mem_of_getElem? (i := 1) rfl))))) (fun _ h => h) rfl dX12_journey_117 ?_
          refine lv_iload_n hx hb dX12_journey_120 rfl (lv_at hl 1 rfl) ?_
          refine z_iald (i := 59) hx hb hK hW rfl (z_ix rfl (by omega) (by omega)) dX12_journey_121 ?_
          refine lv_topi (fun x13 ex13 => ?_)
          exact z_iret hx hb hr hK hS (Nat.le_of_ble_eq_true rfl) (Nat.le_of_ble_eq_true rfl) hlocks dX12_journey_122 (shM, ad, I, J, PM ad) hW rfl
        by_cases q14 : a2 = 1
        · refine lv_tableIn (tgt := 123) hx hb dX12_journey_70 (by rw [q14]; decide) (by rw [q14]; decide) (by rw [q14]; rfl) (by decide) ?_
          refine lv_aload_n hx hb dX12_journey_123 rfl (lv_at hl 0 rfl) ?_
          refine z_get (T := TX12) (N := 96) (ci := 12) (i := 0) (v := .ref (ad 60)) hx hb hts zj_X12_journey_X12 hown hK hW rfl rfl 85 (by decide) (hts (.fieldLink RX12 196 "PetrolBoardModel" "jMiles" "[I") (me_s (me_l (me_l (List.mem_of_getElem? (i := 2) rfl))))) (fun _ h => h) rfl dX12_journey_124 ?_
          refine lv_iload_n hx hb dX12_journey_127 rfl (lv_at hl 1 rfl) ?_
          refine z_iald (i := 60) hx hb hK hW rfl (z_ix rfl (by omega) (by omega)) dX12_journey_128 ?_
          refine lv_topi (fun x15 ex15 => ?_)
          exact z_iret hx hb hr hK hS (Nat.le_of_ble_eq_true rfl) (Nat.le_of_ble_eq_true rfl) hlocks dX12_journey_129 (shM, ad, I, J, PM ad) hW rfl
        by_cases q16 : a2 = 2
        · refine lv_tableIn (tgt := 130) hx hb dX12_journey_70 (by rw [q16]; decide) (by rw [q16]; decide) (by rw [q16]; rfl) (by decide) ?_
          refine lv_aload_n hx hb dX12_journey_130 rfl (lv_at hl 0 rfl) ?_
          refine z_get (T := TX12) (N := 96) (ci := 12) (i := 0) (v := .ref (ad 61)) hx hb hts zj_X12_journey_X12 hown hK hW rfl rfl 86 (by decide) (hts (.fieldLink RX12 199 "PetrolBoardModel" "jPeople" "[I") (me_s (me_l (me_l (List.mem_of_getElem? (i := 3) rfl))))) (fun _ h => h) rfl dX12_journey_131 ?_
          refine lv_iload_n hx hb dX12_journey_134 rfl (lv_at hl 1 rfl) ?_
          refine z_iald (i := 61) hx hb hK hW rfl (z_ix rfl (by omega) (by omega)) dX12_journey_135 ?_
          refine lv_topi (fun x17 ex17 => ?_)
          exact z_iret hx hb hr hK hS (Nat.le_of_ble_eq_true rfl) (Nat.le_of_ble_eq_true rfl) hlocks dX12_journey_136 (shM, ad, I, J, PM ad) hW rfl
        by_cases q18 : a2 = 3
        · refine lv_tableIn (tgt := 137) hx hb dX12_journey_70 (by rw [q18]; decide) (by rw [q18]; decide) (by rw [q18]; rfl) (by decide) ?_
          refine lv_aload_n hx hb dX12_journey_137 rfl (lv_at hl 0 rfl) ?_
          refine z_get (T := TX12) (N := 96) (ci := 12) (i := 0) (v := .ref (ad 62)) hx hb hts zj_X12_journey_X12 hown hK hW rfl rfl 87 (by decide) (hts (.fieldLink RX12 202 "PetrolBoardModel" "jReason" "[I") (me_s (me_l (me_l (List.mem_of_getElem? (i := 4) rfl))))) (fun _ h => h) rfl dX12_journey_138 ?_
          refine lv_iload_n hx hb dX12_journey_141 rfl (lv_at hl 1 rfl) ?_
          refine z_iald (i := 62) hx hb hK hW rfl (z_ix rfl (by omega) (by omega)) dX12_journey_142 ?_
          refine lv_topi (fun x19 ex19 => ?_)
          exact z_iret hx hb hr hK hS (Nat.le_of_ble_eq_true rfl) (Nat.le_of_ble_eq_true rfl) hlocks dX12_journey_143 (shM, ad, I, J, PM ad) hW rfl
        by_cases q20 : a2 = 4
        · refine lv_tableIn (tgt := 144) hx hb dX12_journey_70 (by rw [q20]; decide) (by rw [q20]; decide) (by rw [q20]; rfl) (by decide) ?_
          refine lv_aload_n hx hb dX12_journey_144 rfl (lv_at hl 0 rfl) ?_
          refine z_get (T := TX12) (N := 96) (ci := 12) (i := 0) (v := .ref (ad 63)) hx hb hts zj_X12_journey_X12 hown hK hW rfl rfl 88 (by decide) (hts (.fieldLink RX12 205 "PetrolBoardModel" "jDay" "[I") (me_s (me_l (me_l (List.mem_of_getElem? (i := 5) rfl))))) (fun _ h => h) rfl dX12_journey_145 ?_
          refine lv_iload_n hx hb dX12_journey_148 rfl (lv_at hl 1 rfl) ?_
          refine z_iald (i := 63) hx hb hK hW rfl (z_ix rfl (by omega) (by omega)) dX12_journey_149 ?_
          refine lv_topi (fun x21 ex21 => ?_)
          exact z_iret hx hb hr hK hS (Nat.le_of_ble_eq_true rfl) (Nat.le_of_ble_eq_true rfl) hlocks dX12_journey_150 (shM, ad, I, J, PM ad) hW rfl
        by_cases q22 : a2 = 5
        · refine lv_tableIn (tgt := 151) hx hb dX12_journey_70 (by rw [q22]; decide) (by rw [q22]; decide) (by rw [q22]; rfl) (by decide) ?_
          refine lv_aload_n hx hb dX12_journey_151 rfl (lv_at hl 0 rfl) ?_
          refine z_get (T := TX12) (N := 96) (ci := 12) (i := 0) (v := .ref (ad 64)) hx hb hts zj_X12_journey_X12 hown hK hW rfl rfl 89 (by decide) (hts (.fieldLink RX12 208 "PetrolBoardModel" "jWay" "[I") (me_s (me_l (me_l (List.mem_of_getElem? (i := 6) rfl))))) (fun _ h => h) rfl dX12_journey_152 ?_
          refine lv_iload_n hx hb dX12_journey_155 rfl (lv_at hl 1 rfl) ?_
          refine z_iald (i := 64) hx hb hK hW rfl (z_ix rfl (by omega) (by omega)) dX12_journey_156 ?_
          refine lv_topi (fun x23 ex23 => ?_)
          exact z_iret hx hb hr hK hS (Nat.le_of_ble_eq_true rfl) (Nat.le_of_ble_eq_true rfl) hlocks dX12_journey_157 (shM, ad, I, J, PM ad) hW rfl
        by_cases q24 : a2 = 6
        · refine lv_tableIn (tgt := 158) hx hb dX12_journey_70 (by rw [q24]; decide) (by rw [q24]; decide) (by rw [q24]; rfl) (by decide) ?_
          refine lv_aload_n hx hb dX12_journey_158 rfl (lv_at hl 0 rfl) ?_
          refine z_get (T := TX12) (N := 96) (ci := 12) (i := 0) (v := .ref (ad 66)) hx hb hts zj_X12_journey_X12 hown hK hW rfl rfl 91 (by decide) (hts (.fieldLink RX12 214 "PetrolBoardModel" "jGranted" "[I") (me_s (me_l (me_l (List.mem_of_getElem? (i := 7) rfl))))) (fun _ h => h) rfl dX12_journey_159 ?_
          refine lv_iload_n hx hb dX12_journey_162 rfl (lv_at hl 1 rfl) ?_
          refine z_iald (i := 66) hx hb hK hW rfl (z_ix rfl (by omega) (by omega)) dX12_journey_163 ?_
          refine lv_topi (fun x25 ex25 => ?_)
          exact z_iret hx hb hr hK hS (Nat.le_of_ble_eq_true rfl) (Nat.le_of_ble_eq_true rfl) hlocks dX12_journey_164 (shM, ad, I, J, PM ad) hW rfl
        by_cases q26 : a2 = 7
        · refine lv_tableIn (tgt := 165) hx hb dX12_journey_70 (by rw [q26]; decide) (by rw [q26]; decide) (by rw [q26]; rfl) (by decide) ?_
          refine lv_aload_n hx hb dX12_journey_165 rfl (lv_at hl 0 rfl) ?_
          refine z_get (T := TX12) (N := 96) (ci := 12) (i := 0) (v := .ref (ad 67)) hx hb hts zj_X12_journey_X12 hown hK hW rfl rfl 92 (by decide) (hts (.fieldLink RX12 217 "PetrolBoardModel" "jFirst" "[I") (me_s (me_l (me_l (List.mem_of_getElem? (i := 8) rfl))))) (fun _ h => h) rfl dX12_journey_166 ?_
          refine lv_iload_n hx hb dX12_journey_169 rfl (lv_at hl 1 rfl) ?_
          refine z_iald (i := 67) hx hb hK hW rfl (z_ix rfl (by omega) (by omega)) dX12_journey_170 ?_
          refine lv_topi (fun x27 ex27 => ?_)
          exact z_iret hx hb hr hK hS (Nat.le_of_ble_eq_true rfl) (Nat.le_of_ble_eq_true rfl) hlocks dX12_journey_171 (shM, ad, I, J, PM ad) hW rfl
        have q12 := z_f_ne rfl z_l0 q12
        have q14 := z_f_ne rfl z_l1 q14
        have q16 := z_f_ne rfl z_l2 q16
        have q18 := z_f_ne rfl z_l3 q18
        have q20 := z_f_ne rfl z_l4 q20
        have q22 := z_f_ne rfl z_l5 q22
        have q24 := z_f_ne rfl z_l6 q24
        have q26 := z_f_ne rfl z_l7 q26
        refine lv_tableOut (tgt := 172) hx hb dX12_journey_70 (by omega) (by decide) ?_
        refine lv_iconst (v := (-1)) hx hb dX12_journey_172 (by decide) ?_
        exact z_iret hx hb hr hK hS (Nat.le_of_ble_eq_true rfl) (Nat.le_of_ble_eq_true rfl) hlocks dX12_journey_173 (shM, ad, I, J, PM ad) hW rfl
      · have g28 := z_f_nlt rfl z_l100 c9
        have b29 := Int32.toInt_lt a2
        refine lv_iconst (v := 0) hx hb dX12_journey_20 (by decide) ?_
        refine lv_istore_n (lv' := [(3, .int 0), (0, .ref (ad 0)), (1, .int a1), (2, .int a2)]) hx hb dX12_journey_21 rfl hl (by decide) rfl (fun ls hl => ?_)
        refine lv_iconst (v := 0) hx hb dX12_journey_22 (by decide) ?_
        refine lv_istore (lv' := [(4, .int 0), (3, .int 0), (0, .ref (ad 0)), (1, .int a1), (2, .int a2)]) hx hb dX12_journey_23 hl (by decide) rfl (fun ls hl => ?_)
        have lp30 : ∀ (f : Nat) (y31 : Int32) (y32 : Int32) (H : Heap) (locs : List Loc) (ls : Array Slot), (2147483647 < y31.toInt + (f : Int)) → (0 ≤ y31.toInt) → z_W G A (shM, ad, I, J, PM ad) H → va_S A s.heap H locs → lv_has ls 5 [(4, .int y31), (3, .int y32), (0, .ref (ad 0)), (1, .int a1), (2, .int a2)] → W p l e (headSpec wsX12_journey { frames := 3, cells := 0, slots := 0, locals := 59 }).room s m ([.ref (ad 0), .int a1, .int a2] : List Value).toArray below meth c0 H locs 0 0 (MQ below (va_Qi (fun (r : Int32) (u1 : z_U) => u1 = (shM, ad, I, J, PM ad)) (z_B G A) A) ([.ref (ad 0), .int a1, .int a2] : List Value).toArray s 0 0 A) (F0 m 25 ls []) := by
          intro f
          induction f with
          | zero => intro y31 y32 H locs ls lp30m lp30l4 hW hS hl; exact absurd lp30m (by have := Int32.toInt_lt y31; have := Int32.le_toInt y31; omega)
          | succ f lp30ih =>
            intro y31 y32 H locs ls lp30m lp30l4 hW hS hl
            refine lv_iload hx hb dX12_journey_25 (lv_at hl 0 rfl) ?_
            refine lv_aload_n hx hb dX12_journey_27 rfl (lv_at hl 2 rfl) ?_
            refine z_get (T := TX12) (N := 96) (ci := 12) (i := 0) (v := .int (I 0 83)) hx hb hts zj_X12_journey_X12 hown hK hW rfl rfl 83 (by decide) (hts (.fieldLink RX12 505 "PetrolBoardModel" "journeys" "I") (me_s (me_l (me_l (List.mem_of_getElem? (i := 0) rfl))))) (fun _ h => h) rfl dX12_journey_28 ?_
            refine lv_icmp_ge (tgt := 67) hx hb dX12_journey_31 (by decide) (fun c33 => ?_) (fun c33 => ?_)
            · have g34 := z_f_ge rfl rfl c33
              have b35 := Int32.toInt_lt y31
              refine lv_iconst (v := (-1)) hx hb dX12_journey_67 (by decide) ?_
              exact z_iret hx hb hr hK hS (Nat.le_of_ble_eq_true rfl) (Nat.le_of_ble_eq_true rfl) hlocks dX12_journey_68 (shM, ad, I, J, PM ad) hW rfl
            · have g36 := z_f_nge rfl rfl c33
              have b37 := Int32.toInt_lt y31
              refine lv_aload_n hx hb dX12_journey_34 rfl (lv_at hl 2 rfl) ?_
              refine lv_iload_n hx hb dX12_journey_35 rfl (lv_at hl 3 rfl) ?_
              refine lv_iload hx hb dX12_journey_36 (lv_at hl 0 rfl) ?_
              refine z_ci hW hS hA (va_runV (As := [.int a1, .int y31]) (rest := []) ⟨hx, hb, hml, hown, hts⟩ (sx_X12_isLike l G ad I J ⟨(by show 0 ≤ (I 0 0).toInt ∧ (I 0 0).toInt ≤ 719; exact hma.1), (by show 0 ≤ (I 0 1).toInt ∧ (I 0 1).toInt ≤ 30; exact hma.2.1), (by show 0 ≤ (I 0 2).toInt ∧ (I 0 2).toInt ≤ 200; exact hma.2.2)⟩ (by show 0 ≤ (I 0 83).toInt ∧ (I 0 83).toInt ≤ 60; exact hmj) a1 y31 (by omega) (by omega) _) (cwV 2 hts gX12_journey_X12_isLike rfl rfl rfl hy_X12_isLike ⟨Nat.le_of_ble_eq_true rfl, Nat.le_of_ble_eq_true rfl⟩) (z_preV (i := 0) hK hW rfl rfl) rfl rfl hl.1 rfl (lv_room (Nat.le_of_ble_eq_true rfl)) dX12_journey_38 ⟨Nat.le_of_ble_eq_true rfl, Nat.le_of_ble_eq_true rfl⟩) (fun r u1 H locs hp hW hS => ?_)
              obtain ⟨e9, hp⟩ := hp
              rw [e9] at hW
              rcases hp with rfl | rfl
              · refine lv_if_ne (tgt := 47) hx hb dX12_journey_41 (by decide) (fun c38 => ?_) (fun c38 => absurd c38 (by decide))
                refine lv_iload_n hx hb dX12_journey_47 rfl (lv_at hl 1 rfl) ?_
                refine lv_iload_n hx hb dX12_journey_48 rfl (lv_at hl 4 rfl) ?_
                refine lv_bipush (v := 100) hx hb dX12_journey_49 (by decide) ?_
                refine lv_isub hx hb dX12_journey_51 ?_
                refine lv_topi (fun x39 ex39 => ?_)
                have tx39 : x39.toInt = a2.toInt - 100 := z_tsub ex39 rfl z_l100 (by have := Int32.le_toInt a2; have := Int32.toInt_lt a2; omega) (by have := Int32.le_toInt a2; have := Int32.toInt_lt a2; omega)
                refine lv_icmp_ne (tgt := 58) hx hb dX12_journey_52 (by decide) (fun c40 => ?_) (fun c40 => ?_)
                · have g41 := z_f_ne rfl rfl c40
                  have b42 := Int32.toInt_lt y32
                  obtain ⟨x43, ex43⟩ : ∃ y : Int32, y = y32 + 1 := ⟨_, rfl⟩
                  refine lv_iinc (v := x43) (lv' := [(3, .int x43), (4, .int y31), (0, .ref (ad 0)), (1, .int a1), (2, .int a2)]) hx hb dX12_journey_58 hl (k := 1) rfl (by rw [ex43]; rfl) (by decide) rfl (fun ls hl => ?_)
                  obtain ⟨x44, ex44⟩ : ∃ y : Int32, y = y31 + 1 := ⟨_, rfl⟩
                  have tx44 : x44.toInt = y31.toInt + 1 := z_tadd ex44 rfl z_l1 (by omega) (by omega)
                  refine lv_iinc (v := x44) (lv' := [(4, .int x44), (3, .int x43), (0, .ref (ad 0)), (1, .int a1), (2, .int a2)]) hx hb dX12_journey_61 hl (k := 1) rfl (by rw [ex44]; rfl) (by decide) rfl (fun ls hl => ?_)
                  refine lv_goto (tgt := 25) hx hb dX12_journey_64 (by decide) ?_
                  exact lp30ih x44 x43 _ _ _ (by omega) (by omega) hW hS (lv_sub hl [0, 1, 2, 3, 4] rfl)
                · have g45 := z_f_eq rfl rfl c40
                  have b46 := Int32.toInt_lt y32
                  refine lv_iload hx hb dX12_journey_55 (lv_at hl 0 rfl) ?_
                  exact z_iret hx hb hr hK hS (Nat.le_of_ble_eq_true rfl) (Nat.le_of_ble_eq_true rfl) hlocks dX12_journey_57 (shM, ad, I, J, PM ad) hW rfl
              · refine lv_if_ne (tgt := 47) hx hb dX12_journey_41 (by decide) (fun c47 => absurd (by decide) c47) (fun c47 => ?_)
                refine lv_goto (tgt := 61) hx hb dX12_journey_44 (by decide) ?_
                obtain ⟨x48, ex48⟩ : ∃ y : Int32, y = y31 + 1 := ⟨_, rfl⟩
                have tx48 : x48.toInt = y31.toInt + 1 := z_tadd ex48 rfl z_l1 (by omega) (by omega)
                refine lv_iinc (v := x48) (lv' := [(4, .int x48), (3, .int y32), (0, .ref (ad 0)), (1, .int a1), (2, .int a2)]) hx hb dX12_journey_61 hl (k := 0) rfl (by rw [ex48]; rfl) (by decide) rfl (fun ls hl => ?_)
                refine lv_goto (tgt := 25) hx hb dX12_journey_64 (by decide) ?_
                exact lp30ih x48 y32 _ _ _ (by omega) (by omega) hW hS (lv_sub hl [0, 1, 2, 3, 4] rfl)
        exact lp30 4294967296 (0) (0) _ _ _ (z_m0u _) (by rw [z_l0]; omega) hW hS (lv_sub hl [0, 1, 2, 3, 4] rfl)
    · have g49 := z_f_nlt rfl rfl c7
      refine lv_iconst (v := (-1)) hx hb dX12_journey_12 (by decide) ?_
      exact z_iret hx hb hr hK hS (Nat.le_of_ble_eq_true rfl) (Nat.le_of_ble_eq_true rfl) hlocks dX12_journey_13 (shM, ad, I, J, PM ad) hW rfl
