theorem dX9_read_0 : decode cX9_read 0 = .ok (.aload_n 0, 1) := by decide +kernel
theorem dX9_read_1 : decode cX9_read 1 = .ok (.iload_n 1, 1) := by decide +kernel
theorem dX9_read_2 : decode cX9_read 2 = .ok (.aload_n 0, 1) := by decide +kernel
theorem dX9_read_3 : decode cX9_read 3 = .ok (.getfield 36, 3) := by decide +kernel
theorem dX9_read_6 : decode cX9_read 6 = .ok (.invokestatic 40, 3) := by decide +kernel
set_option maxRecDepth 20000 in
theorem ggX9_read_X9_scan : GoodIn wsX9_read wsX9_scan := goodIn_r _ [14, 15, 2, 3, 4, 5, 16, 17, 18, 19, 20, 21, 22, 13, 23, 24, 25, 26, 27, 28, 29, 30, 31, 32, 33, 34, 35, 36, 37, 38, 39, 40, 41, 42, 43, 44, 45, 46, 47, 48, 49, 50, 51, 52, 53, 54, 55, 56, 57, 58, 59, 60, 61, 62, 63, 64, 65, 66, 67, 68, 69, 70, 71, 72, 73, 74, 75, 76, 77, 78, 79, 80, 81, 82, 83, 84, 85, 86, 87, 88, 89, 90, 91, 92, 93, 94, 95, 96, 97, 98, 99, 100, 101, 102, 103, 104, 105, 106, 107, 108, 109, 110, 175, 176, 177, 178, 179, 180, 181, 182, 183, 184, 185, 186, 187, 188] rfl (by decide +kernel)
set_option maxRecDepth 20000 in
theorem gX9_read_X9_scan : GoodIn wsX9_read (wsV RX9 46 RX9 yX9_scan wsX9_scan) := goodIn_app (goodIn_r _ [10, 11, 12, 13] rfl (by decide +kernel)) ggX9_read_X9_scan
theorem dX9_read_9 : decode cX9_read 9 = .ok (.invokevirtual 46, 3) := by decide +kernel
theorem dX9_read_12 : decode cX9_read 12 = .ok (.aload_n 0, 1) := by decide +kernel
theorem dX9_read_13 : decode cX9_read 13 = .ok (.iconst 0, 1) := by decide +kernel
theorem dX9_read_14 : decode cX9_read 14 = .ok (.putfield 36, 3) := by decide +kernel
theorem dX9_read_17 : decode cX9_read 17 = .ok (.aload_n 0, 1) := by decide +kernel
theorem dX9_read_18 : decode cX9_read 18 = .ok (.iconst 0, 1) := by decide +kernel
theorem dX9_read_19 : decode cX9_read 19 = .ok (.putfield 50, 3) := by decide +kernel
theorem dX9_read_22 : decode cX9_read 22 = .ok (.aload_n 0, 1) := by decide +kernel
theorem dX9_read_23 : decode cX9_read 23 = .ok (.iconst 0, 1) := by decide +kernel
theorem dX9_read_24 : decode cX9_read 24 = .ok (.putfield 53, 3) := by decide +kernel
theorem dX9_read_27 : decode cX9_read 27 = .ok (.aload_n 0, 1) := by decide +kernel
theorem dX9_read_28 : decode cX9_read 28 = .ok (.iconst (-1), 1) := by decide +kernel
theorem dX9_read_29 : decode cX9_read 29 = .ok (.putfield 56, 3) := by decide +kernel
theorem dX9_read_32 : decode cX9_read 32 = .ok (.aload_n 0, 1) := by decide +kernel
set_option maxRecDepth 20000 in
theorem ggX9_read_X9_step : GoodIn wsX9_read wsX9_step := goodIn_r _ [114, 8, 16, 108, 9, 175, 176, 177, 178, 179, 180, 181, 182, 183, 184, 185, 186, 187, 188] rfl (by decide +kernel)
set_option maxRecDepth 20000 in
theorem gX9_read_X9_step : GoodIn wsX9_read (wsV RX9 59 RX9 yX9_step wsX9_step) := goodIn_app (goodIn_r _ [111, 112, 113, 13] rfl (by decide +kernel)) ggX9_read_X9_step
theorem dX9_read_33 : decode cX9_read 33 = .ok (.invokevirtual 59, 3) := by decide +kernel
theorem dX9_read_36 : decode cX9_read 36 = .ok (.iconst 0, 1) := by decide +kernel
theorem dX9_read_37 : decode cX9_read 37 = .ok (.istore_n 2, 1) := by decide +kernel
theorem dX9_read_38 : decode cX9_read 38 = .ok (.iload_n 2, 1) := by decide +kernel
theorem dX9_read_39 : decode cX9_read 39 = .ok (.bipush 24, 2) := by decide +kernel
theorem dX9_read_41 : decode cX9_read 41 = .ok (.if_icmp .ge 48, 3) := by decide +kernel
theorem dX9_read_89 : decode cX9_read 89 = .ok (.aload_n 0, 1) := by decide +kernel
theorem dX9_read_90 : decode cX9_read 90 = .ok (.getfield 62, 3) := by decide +kernel
theorem dX9_read_93 : decode cX9_read 93 = .ok (.sipush 401, 3) := by decide +kernel
theorem dX9_read_96 : decode cX9_read 96 = .ok (.if_icmp .ne 7, 3) := by decide +kernel
theorem dX9_read_103 : decode cX9_read 103 = .ok (.aload_n 0, 1) := by decide +kernel
set_option maxRecDepth 20000 in
theorem ggX9_read_X9_place : GoodIn wsX9_read wsX9_place := goodIn_r _ [174, 8, 16, 109, 175, 176, 177, 178, 179, 180, 181, 182, 183, 184, 185, 186, 187, 188] rfl (by decide +kernel)
set_option maxRecDepth 20000 in
theorem gX9_read_X9_place : GoodIn wsX9_read (wsV RX9 72 RX9 yX9_place wsX9_place) := goodIn_app (goodIn_r _ [171, 172, 173, 13] rfl (by decide +kernel)) ggX9_read_X9_place
theorem dX9_read_104 : decode cX9_read 104 = .ok (.invokevirtual 72, 3) := by decide +kernel
theorem dX9_read_107 : decode cX9_read 107 = .ok (.ireturn, 1) := by decide +kernel
theorem dX9_read_99 : decode cX9_read 99 = .ok (.iconst (-1), 1) := by decide +kernel
theorem dX9_read_100 : decode cX9_read 100 = .ok (.goto 7, 3) := by decide +kernel
theorem dX9_read_44 : decode cX9_read 44 = .ok (.aload_n 0, 1) := by decide +kernel
theorem dX9_read_45 : decode cX9_read 45 = .ok (.getfield 62, 3) := by decide +kernel
theorem dX9_read_48 : decode cX9_read 48 = .ok (.sipush 401, 3) := by decide +kernel
theorem dX9_read_51 : decode cX9_read 51 = .ok (.if_icmp .eq 38, 3) := by decide +kernel
theorem dX9_read_54 : decode cX9_read 54 = .ok (.aload_n 0, 1) := by decide +kernel
theorem dX9_read_55 : decode cX9_read 55 = .ok (.iload_n 2, 1) := by decide +kernel
set_option maxRecDepth 20000 in
theorem ggX9_read_X9_statement : GoodIn wsX9_read wsX9_statement := goodIn_r _ [118, 119, 9, 120, 6, 121, 111, 112, 113, 13, 114, 8, 16, 108, 122, 123, 124, 125, 126, 127, 128, 129, 130, 131, 132, 133, 134, 135, 136, 137, 138, 110, 139, 140, 141, 142, 143, 144, 145, 146, 147, 148, 149, 150, 151, 152, 153, 154, 155, 156, 157, 158, 159, 160, 161, 162, 163, 164, 165, 166, 167, 168, 169, 170, 175, 176, 177, 178, 179, 180, 181, 182, 183, 184, 185, 186, 187, 188] rfl (by decide +kernel)
set_option maxRecDepth 20000 in
theorem gX9_read_X9_statement : GoodIn wsX9_read (wsV RX9 65 RX9 yX9_statement wsX9_statement) := goodIn_app (goodIn_r _ [115, 116, 117, 13] rfl (by decide +kernel)) ggX9_read_X9_statement
theorem dX9_read_56 : decode cX9_read 56 = .ok (.invokevirtual 65, 3) := by decide +kernel
theorem dX9_read_59 : decode cX9_read 59 = .ok (.ifCond .eq 12, 3) := by decide +kernel
theorem dX9_read_62 : decode cX9_read 62 = .ok (.aload_n 0, 1) := by decide +kernel
theorem dX9_read_63 : decode cX9_read 63 = .ok (.bipush 59, 2) := by decide +kernel
set_option maxRecDepth 20000 in
theorem ggX9_read_X9_taken : GoodIn wsX9_read wsX9_taken := goodIn_r _ [142, 9, 111, 112, 113, 13, 114, 8, 16, 108, 175, 176, 177, 178, 179, 180, 181, 182, 183, 184, 185, 186, 187, 188] rfl (by decide +kernel)
set_option maxRecDepth 20000 in
theorem gX9_read_X9_taken : GoodIn wsX9_read (wsV RX9 69 RX9 yX9_taken wsX9_taken) := goodIn_app (goodIn_r _ [139, 140, 141, 13] rfl (by decide +kernel)) ggX9_read_X9_taken
theorem dX9_read_65 : decode cX9_read 65 = .ok (.invokevirtual 69, 3) := by decide +kernel
theorem dX9_read_68 : decode cX9_read 68 = .ok (.ifCond .ne 8, 3) := by decide +kernel
theorem dX9_read_76 : decode cX9_read 76 = .ok (.aload_n 0, 1) := by decide +kernel
theorem dX9_read_77 : decode cX9_read 77 = .ok (.iload_n 2, 1) := by decide +kernel
theorem dX9_read_78 : decode cX9_read 78 = .ok (.iconst 1, 1) := by decide +kernel
theorem dX9_read_79 : decode cX9_read 79 = .ok (.iadd, 1) := by decide +kernel
theorem dX9_read_80 : decode cX9_read 80 = .ok (.putfield 53, 3) := by decide +kernel
theorem dX9_read_83 : decode cX9_read 83 = .ok (.iinc 2 1, 3) := by decide +kernel
theorem dX9_read_86 : decode cX9_read 86 = .ok (.goto (-48), 3) := by decide +kernel
theorem dX9_read_71 : decode cX9_read 71 = .ok (.aload_n 0, 1) := by decide +kernel
theorem dX9_read_72 : decode cX9_read 72 = .ok (.invokevirtual 72, 3) := by decide +kernel
theorem dX9_read_75 : decode cX9_read 75 = .ok (.ireturn, 1) := by decide +kernel

theorem zj_X9_read_X9 : ∀ w ∈ wsX90, w ∈ wsX9_read := fun w h => (List.mem_cons_of_mem _ (List.mem_append_right _ h))