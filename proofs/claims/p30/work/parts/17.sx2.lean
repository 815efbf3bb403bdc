theorem dX0_holderOf_0 : decode cX0_holderOf 0 = .ok (.iload_n 0, 1) := z_dd_26 (by decide +kernel)
theorem dX0_holderOf_1 : decode cX0_holderOf 1 = .ok (.bipush 100, 2) := z_dd_16 (by decide +kernel)
theorem dX0_holderOf_3 : decode cX0_holderOf 3 = .ok (.idiv, 1) := z_dd_108 (by decide +kernel)
theorem dX0_holderOf_4 : decode cX0_holderOf 4 = .ok (.bipush 24, 2) := z_dd_16 (by decide +kernel)
theorem dX0_holderOf_6 : decode cX0_holderOf 6 = .ok (.idiv, 1) := z_dd_108 (by decide +kernel)
theorem dX0_holderOf_7 : decode cX0_holderOf 7 = .ok (.ireturn, 1) := z_dd_172 (by decide +kernel)
theorem dX0_monthOf_0 : decode cX0_monthOf 0 = .ok (.iload_n 0, 1) := z_dd_26 (by decide +kernel)
theorem dX0_monthOf_1 : decode cX0_monthOf 1 = .ok (.bipush 100, 2) := z_dd_16 (by decide +kernel)
theorem dX0_monthOf_3 : decode cX0_monthOf 3 = .ok (.idiv, 1) := z_dd_108 (by decide +kernel)
theorem dX0_monthOf_4 : decode cX0_monthOf 4 = .ok (.bipush 24, 2) := z_dd_16 (by decide +kernel)
theorem dX0_monthOf_6 : decode cX0_monthOf 6 = .ok (.irem, 1) := z_dd_112 (by decide +kernel)
theorem dX0_monthOf_7 : decode cX0_monthOf 7 = .ok (.ireturn, 1) := z_dd_172 (by decide +kernel)
theorem dX0_isIssued_0 : decode cX0_isIssued 0 = .ok (.bipush 24, 2) := z_dd_16 (by decide +kernel)
theorem dX0_isIssued_2 : decode cX0_isIssued 2 = .ok (.iload_n 1, 1) := z_dd_27 (by decide +kernel)
theorem dX0_isIssued_3 : decode cX0_isIssued 3 = .ok (.imul, 1) := z_dd_104 (by decide +kernel)
theorem dX0_isIssued_4 : decode cX0_isIssued 4 = .ok (.iload_n 2, 1) := z_dd_28 (by decide +kernel)
theorem dX0_isIssued_5 : decode cX0_isIssued 5 = .ok (.iadd, 1) := z_dd_96 (by decide +kernel)
theorem dX0_isIssued_6 : decode cX0_isIssued 6 = .ok (.istore_n 3, 1) := z_dd_62 (by decide +kernel)
theorem dX0_isIssued_7 : decode cX0_isIssued 7 = .ok (.iload_n 3, 1) := z_dd_29 (by decide +kernel)
theorem dX0_isIssued_8 : decode cX0_isIssued 8 = .ok (.ifCond .lt 26, 3) := z_dd_155 (by decide +kernel)
theorem dX0_isIssued_34 : decode cX0_isIssued 34 = .ok (.iconst 0, 1) := z_dd_3 (by decide +kernel)
theorem dX0_isIssued_35 : decode cX0_isIssued 35 = .ok (.ireturn, 1) := z_dd_172 (by decide +kernel)
theorem dX0_isIssued_11 : decode cX0_isIssued 11 = .ok (.iload_n 3, 1) := z_dd_29 (by decide +kernel)
theorem dX0_isIssued_12 : decode cX0_isIssued 12 = .ok (.aload_n 0, 1) := z_dd_42 (by decide +kernel)
theorem dX0_isIssued_13 : decode cX0_isIssued 13 = .ok (.getfield 9, 3) := z_dd_180 (by decide +kernel)
theorem dX0_isIssued_16 : decode cX0_isIssued 16 = .ok (.arraylength, 1) := z_dd_190 (by decide +kernel)
theorem dX0_isIssued_17 : decode cX0_isIssued 17 = .ok (.if_icmp .ge 17, 3) := z_dd_162 (by decide +kernel)
theorem dX0_isIssued_20 : decode cX0_isIssued 20 = .ok (.aload_n 0, 1) := z_dd_42 (by decide +kernel)
theorem dX0_isIssued_21 : decode cX0_isIssued 21 = .ok (.getfield 9, 3) := z_dd_180 (by decide +kernel)
theorem dX0_isIssued_24 : decode cX0_isIssued 24 = .ok (.iload_n 3, 1) := z_dd_29 (by decide +kernel)
theorem dX0_isIssued_25 : decode cX0_isIssued 25 = .ok (.iaload, 1) := z_dd_46 (by decide +kernel)
theorem dX0_isIssued_26 : decode cX0_isIssued 26 = .ok (.iconst (-1), 1) := z_dd_2 (by decide +kernel)
theorem dX0_isIssued_27 : decode cX0_isIssued 27 = .ok (.if_icmp .eq 7, 3) := z_dd_159 (by decide +kernel)
theorem dX0_isIssued_30 : decode cX0_isIssued 30 = .ok (.iconst 1, 1) := z_dd_4 (by decide +kernel)
theorem dX0_isIssued_31 : decode cX0_isIssued 31 = .ok (.goto 4, 3) := z_dd_167 (by decide +kernel)
theorem dX0_add_0 : decode cX0_add 0 = .ok (.bipush 24, 2) := z_dd_16 (by decide +kernel)
theorem dX0_add_2 : decode cX0_add 2 = .ok (.iload_n 1, 1) := z_dd_27 (by decide +kernel)
theorem dX0_add_3 : decode cX0_add 3 = .ok (.imul, 1) := z_dd_104 (by decide +kernel)
theorem dX0_add_4 : decode cX0_add 4 = .ok (.iload_n 2, 1) := z_dd_28 (by decide +kernel)
theorem dX0_add_5 : decode cX0_add 5 = .ok (.iadd, 1) := z_dd_96 (by decide +kernel)
theorem dX0_add_6 : decode cX0_add 6 = .ok (.istore 4, 2) := z_dd_54 (by decide +kernel)
theorem dX0_add_8 : decode cX0_add 8 = .ok (.iload 4, 2) := z_dd_21 (by decide +kernel)
theorem dX0_add_10 : decode cX0_add 10 = .ok (.ifCond .lt 13, 3) := z_dd_155 (by decide +kernel)
theorem dX0_add_23 : decode cX0_add 23 = .ok (.iconst (-1), 1) := z_dd_2 (by decide +kernel)
theorem dX0_add_24 : decode cX0_add 24 = .ok (.ireturn, 1) := z_dd_172 (by decide +kernel)
theorem dX0_add_13 : decode cX0_add 13 = .ok (.iload 4, 2) := z_dd_21 (by decide +kernel)
theorem dX0_add_15 : decode cX0_add 15 = .ok (.aload_n 0, 1) := z_dd_42 (by decide +kernel)
theorem dX0_add_16 : decode cX0_add 16 = .ok (.getfield 9, 3) := z_dd_180 (by decide +kernel)
theorem dX0_add_19 : decode cX0_add 19 = .ok (.arraylength, 1) := z_dd_190 (by decide +kernel)
theorem dX0_add_20 : decode cX0_add 20 = .ok (.if_icmp .lt 5, 3) := z_dd_161 (by decide +kernel)
theorem dX0_add_25 : decode cX0_add 25 = .ok (.aload_n 0, 1) := z_dd_42 (by decide +kernel)
theorem dX0_add_26 : decode cX0_add 26 = .ok (.getfield 9, 3) := z_dd_180 (by decide +kernel)
theorem dX0_add_29 : decode cX0_add 29 = .ok (.iload 4, 2) := z_dd_21 (by decide +kernel)
theorem dX0_add_31 : decode cX0_add 31 = .ok (.iload_n 3, 1) := z_dd_29 (by decide +kernel)
theorem dX0_add_32 : decode cX0_add 32 = .ok (.iastore, 1) := z_dd_79 (by decide +kernel)
theorem dX0_add_33 : decode cX0_add 33 = .ok (.aload_n 0, 1) := z_dd_42 (by decide +kernel)
theorem dX0_add_34 : decode cX0_add 34 = .ok (.dup, 1) := z_dd_89 (by decide +kernel)
theorem dX0_add_35 : decode cX0_add 35 = .ok (.getfield 27, 3) := z_dd_180 (by decide +kernel)
theorem dX0_add_38 : decode cX0_add 38 = .ok (.iconst 1, 1) := z_dd_4 (by decide +kernel)
theorem dX0_add_39 : decode cX0_add 39 = .ok (.iadd, 1) := z_dd_96 (by decide +kernel)
theorem dX0_add_40 : decode cX0_add 40 = .ok (.putfield 27, 3) := z_dd_181 (by decide +kernel)
theorem dX0_add_43 : decode cX0_add 43 = .ok (.iload_n 3, 1) := z_dd_29 (by decide +kernel)
theorem dX0_add_44 : decode cX0_add 44 = .ok (.ireturn, 1) := z_dd_172 (by decide +kernel)
theorem dX0_has_31 : decode cX0_has 31 = .ok (.iconst 1, 1) := z_dd_4 (by decide +kernel)
theorem dX0_has_32 : decode cX0_has 32 = .ok (.goto 4, 3) := z_dd_167 (by decide +kernel)
theorem dX0_lentAs_0 : decode cX0_lentAs 0 = .ok (.iconst 0, 1) := z_dd_3 (by decide +kernel)
theorem dX0_lentAs_1 : decode cX0_lentAs 1 = .ok (.istore_n 2, 1) := z_dd_61 (by decide +kernel)
theorem dX0_lentAs_2 : decode cX0_lentAs 2 = .ok (.iload_n 2, 1) := z_dd_28 (by decide +kernel)
theorem dX0_lentAs_3 : decode cX0_lentAs 3 = .ok (.aload_n 0, 1) := z_dd_42 (by decide +kernel)
theorem dX0_lentAs_4 : decode cX0_lentAs 4 = .ok (.getfield 31, 3) := z_dd_180 (by decide +kernel)
theorem dX0_lentAs_7 : decode cX0_lentAs 7 = .ok (.if_icmp .ge 28, 3) := z_dd_162 (by decide +kernel)
theorem dX0_lentAs_35 : decode cX0_lentAs 35 = .ok (.iconst (-1), 1) := z_dd_2 (by decide +kernel)
theorem dX0_lentAs_36 : decode cX0_lentAs 36 = .ok (.ireturn, 1) := z_dd_172 (by decide +kernel)
theorem dX0_lentAs_10 : decode cX0_lentAs 10 = .ok (.iload_n 2, 1) := z_dd_28 (by decide +kernel)
theorem dX0_lentAs_11 : decode cX0_lentAs 11 = .ok (.sipush 512, 3) := z_dd_17 (by decide +kernel)
theorem dX0_lentAs_14 : decode cX0_lentAs 14 = .ok (.if_icmp .ge 21, 3) := z_dd_162 (by decide +kernel)
theorem dX0_lentAs_17 : decode cX0_lentAs 17 = .ok (.aload_n 0, 1) := z_dd_42 (by decide +kernel)
theorem dX0_lentAs_18 : decode cX0_lentAs 18 = .ok (.getfield 15, 3) := z_dd_180 (by decide +kernel)
theorem dX0_lentAs_21 : decode cX0_lentAs 21 = .ok (.iload_n 2, 1) := z_dd_28 (by decide +kernel)
theorem dX0_lentAs_22 : decode cX0_lentAs 22 = .ok (.iaload, 1) := z_dd_46 (by decide +kernel)
theorem dX0_lentAs_23 : decode cX0_lentAs 23 = .ok (.iload_n 1, 1) := z_dd_27 (by decide +kernel)
theorem dX0_lentAs_24 : decode cX0_lentAs 24 = .ok (.if_icmp .ne 5, 3) := z_dd_160 (by decide +kernel)
theorem dX0_lentAs_29 : decode cX0_lentAs 29 = .ok (.iinc 2 1, 3) := z_dd_132 (by decide +kernel)
theorem dX0_lentAs_32 : decode cX0_lentAs 32 = .ok (.goto (-30), 3) := z_dd_167 (by decide +kernel)
theorem dX0_lentAs_27 : decode cX0_lentAs 27 = .ok (.iload_n 2, 1) := z_dd_28 (by decide +kernel)
theorem dX0_lentAs_28 : decode cX0_lentAs 28 = .ok (.ireturn, 1) := z_dd_172 (by decide +kernel)
theorem dX0_isLent_0 : decode cX0_isLent 0 = .ok (.aload_n 0, 1) := z_dd_42 (by decide +kernel)
theorem dX0_isLent_1 : decode cX0_isLent 1 = .ok (.iload_n 1, 1) := z_dd_27 (by decide +kernel)
set_option maxRecDepth 20000 in
theorem ggX0_isLent_X0_lentAs : GoodIn wsX0_isLent wsX0_lentAs := goodIn_sub (fa_c (me_s (me_l (List.mem_of_getElem? (i := 4) rfl))) (fa_a (fa_c (me_s (me_l (List.mem_of_getElem? (i := 5) rfl))) (fa_c (me_s (me_l (List.mem_of_getElem? (i := 6) rfl))) fa_n)) (fun w h => (me_s (me_r h))))) (by decide +kernel)
set_option maxRecDepth 20000 in
theorem gX0_isLent_X0_lentAs : GoodIn wsX0_isLent (wsV RX0 34 RX0 yX0_lentAs wsX0_lentAs) := goodIn_app (goodIn_sub (fa_c (me_s (me_l (List.mem_of_getElem? (i := 0) rfl))) (fa_c (me_s (me_l (List.mem_of_getElem? (i := 1) rfl))) (fa_c (me_s (me_l (List.mem_of_getElem? (i := 2) rfl))) (fa_c (me_s (me_l (List.mem_of_getElem? (i := 3) rfl))) fa_n)))) (by decide +kernel)) ggX0_isLent_X0_lentAs
theorem dX0_isLent_2 : decode cX0_isLent 2 = .ok (.invokevirtual 34, 3) := z_dd_182 (by decide +kernel)
theorem dX0_isLent_5 : decode cX0_isLent 5 = .ok (.iconst (-1), 1) := z_dd_2 (by decide +kernel)
theorem dX0_isLent_6 : decode cX0_isLent 6 = .ok (.if_icmp .eq 7, 3) := z_dd_159 (by decide +kernel)
theorem dX0_isLent_13 : decode cX0_isLent 13 = .ok (.iconst 0, 1) := z_dd_3 (by decide +kernel)
theorem dX0_isLent_14 : decode cX0_isLent 14 = .ok (.ireturn, 1) := z_dd_172 (by decide +kernel)
theorem dX0_isLent_9 : decode cX0_isLent 9 = .ok (.iconst 1, 1) := z_dd_4 (by decide +kernel)
theorem dX0_isLent_10 : decode cX0_isLent 10 = .ok (.goto 4, 3) := z_dd_167 (by decide +kernel)
theorem dX0_lentOfBook_0 : decode cX0_lentOfBook 0 = .ok (.iconst 0, 1) := z_dd_3 (by decide +kernel)
theorem dX0_lentOfBook_1 : decode cX0_lentOfBook 1 = .ok (.istore_n 2, 1) := z_dd_61 (by decide +kernel)
theorem dX0_lentOfBook_2 : decode cX0_lentOfBook 2 = .ok (.iconst 0, 1) := z_dd_3 (by decide +kernel)
theorem dX0_lentOfBook_3 : decode cX0_lentOfBook 3 = .ok (.istore_n 3, 1) := z_dd_62 (by decide +kernel)
theorem dX0_lentOfBook_4 : decode cX0_lentOfBook 4 = .ok (.iload_n 3, 1) := z_dd_29 (by decide +kernel)
theorem dX0_lentOfBook_5 : decode cX0_lentOfBook 5 = .ok (.aload_n 0, 1) := z_dd_42 (by decide +kernel)
theorem dX0_lentOfBook_6 : decode cX0_lentOfBook 6 = .ok (.getfield 31, 3) := z_dd_180 (by decide +kernel)
theorem dX0_lentOfBook_9 : decode cX0_lentOfBook 9 = .ok (.if_icmp .ge 40, 3) := z_dd_162 (by decide +kernel)
theorem dX0_lentOfBook_49 : decode cX0_lentOfBook 49 = .ok (.iload_n 2, 1) := z_dd_28 (by decide +kernel)
theorem dX0_lentOfBook_50 : decode cX0_lentOfBook 50 = .ok (.ireturn, 1) := z_dd_172 (by decide +kernel)
theorem dX0_lentOfBook_12 : decode cX0_lentOfBook 12 = .ok (.iload_n 3, 1) := z_dd_29 (by decide +kernel)
theorem dX0_lentOfBook_13 : decode cX0_lentOfBook 13 = .ok (.sipush 512, 3) := z_dd_17 (by decide +kernel)
theorem dX0_lentOfBook_16 : decode cX0_lentOfBook 16 = .ok (.if_icmp .ge 33, 3) := z_dd_162 (by decide +kernel)
theorem dX0_lentOfBook_19 : decode cX0_lentOfBook 19 = .ok (.iload_n 2, 1) := z_dd_28 (by decide +kernel)
theorem dX0_lentOfBook_20 : decode cX0_lentOfBook 20 = .ok (.aload_n 0, 1) := z_dd_42 (by decide +kernel)
theorem dX0_lentOfBook_21 : decode cX0_lentOfBook 21 = .ok (.getfield 15, 3) := z_dd_180 (by decide +kernel)
theorem dX0_lentOfBook_24 : decode cX0_lentOfBook 24 = .ok (.iload_n 3, 1) := z_dd_29 (by decide +kernel)
theorem dX0_lentOfBook_25 : decode cX0_lentOfBook 25 = .ok (.iaload, 1) := z_dd_46 (by decide +kernel)
theorem dX0_lentOfBook_26 : decode cX0_lentOfBook 26 = .ok (.bipush 100, 2) := z_dd_16 (by decide +kernel)
theorem dX0_lentOfBook_28 : decode cX0_lentOfBook 28 = .ok (.idiv, 1) := z_dd_108 (by decide +kernel)
theorem dX0_lentOfBook_29 : decode cX0_lentOfBook 29 = .ok (.iload_n 1, 1) := z_dd_27 (by decide +kernel)
theorem dX0_lentOfBook_30 : decode cX0_lentOfBook 30 = .ok (.bipush 100, 2) := z_dd_16 (by decide +kernel)
theorem dX0_lentOfBook_32 : decode cX0_lentOfBook 32 = .ok (.idiv, 1) := z_dd_108 (by decide +kernel)
theorem dX0_lentOfBook_33 : decode cX0_lentOfBook 33 = .ok (.if_icmp .ne 7, 3) := z_dd_160 (by decide +kernel)
theorem dX0_lentOfBook_40 : decode cX0_lentOfBook 40 = .ok (.iconst 0, 1) := z_dd_3 (by decide +kernel)
theorem dX0_lentOfBook_41 : decode cX0_lentOfBook 41 = .ok (.iadd, 1) := z_dd_96 (by decide +kernel)
theorem dX0_lentOfBook_42 : decode cX0_lentOfBook 42 = .ok (.istore_n 2, 1) := z_dd_61 (by decide +kernel)
theorem dX0_lentOfBook_43 : decode cX0_lentOfBook 43 = .ok (.iinc 3 1, 3) := z_dd_132 (by decide +kernel)
theorem dX0_lentOfBook_46 : decode cX0_lentOfBook 46 = .ok (.goto (-42), 3) := z_dd_167 (by decide +kernel)
theorem dX0_lentOfBook_36 : decode cX0_lentOfBook 36 = .ok (.iconst 1, 1) := z_dd_4 (by decide +kernel)
theorem dX0_lentOfBook_37 : decode cX0_lentOfBook 37 = .ok (.goto 4, 3) := z_dd_167 (by decide +kernel)
theorem dX0_addLent_0 : decode cX0_addLent 0 = .ok (.aload_n 0, 1) := z_dd_42 (by decide +kernel)
theorem dX0_addLent_1 : decode cX0_addLent 1 = .ok (.getfield 31, 3) := z_dd_180 (by decide +kernel)
theorem dX0_addLent_4 : decode cX0_addLent 4 = .ok (.sipush 512, 3) := z_dd_17 (by decide +kernel)
theorem dX0_addLent_7 : decode cX0_addLent 7 = .ok (.if_icmp .lt 5, 3) := z_dd_161 (by decide +kernel)
theorem dX0_addLent_12 : decode cX0_addLent 12 = .ok (.aload_n 0, 1) := z_dd_42 (by decide +kernel)
theorem dX0_addLent_13 : decode cX0_addLent 13 = .ok (.getfield 15, 3) := z_dd_180 (by decide +kernel)
theorem dX0_addLent_16 : decode cX0_addLent 16 = .ok (.aload_n 0, 1) := z_dd_42 (by decide +kernel)
theorem dX0_addLent_17 : decode cX0_addLent 17 = .ok (.getfield 31, 3) := z_dd_180 (by decide +kernel)
theorem dX0_addLent_20 : decode cX0_addLent 20 = .ok (.iload_n 1, 1) := z_dd_27 (by decide +kernel)
theorem dX0_addLent_21 : decode cX0_addLent 21 = .ok (.iastore, 1) := z_dd_79 (by decide +kernel)
theorem dX0_addLent_22 : decode cX0_addLent 22 = .ok (.aload_n 0, 1) := z_dd_42 (by decide +kernel)
theorem dX0_addLent_23 : decode cX0_addLent 23 = .ok (.getfield 18, 3) := z_dd_180 (by decide +kernel)
theorem dX0_addLent_26 : decode cX0_addLent 26 = .ok (.aload_n 0, 1) := z_dd_42 (by decide +kernel)
theorem dX0_addLent_27 : decode cX0_addLent 27 = .ok (.getfield 31, 3) := z_dd_180 (by decide +kernel)
theorem dX0_addLent_30 : decode cX0_addLent 30 = .ok (.iload_n 2, 1) := z_dd_28 (by decide +kernel)
theorem dX0_addLent_31 : decode cX0_addLent 31 = .ok (.iastore, 1) := z_dd_79 (by decide +kernel)
theorem dX0_addLent_32 : decode cX0_addLent 32 = .ok (.aload_n 0, 1) := z_dd_42 (by decide +kernel)
theorem dX0_addLent_33 : decode cX0_addLent 33 = .ok (.dup, 1) := z_dd_89 (by decide +kernel)
theorem dX0_addLent_34 : decode cX0_addLent 34 = .ok (.getfield 31, 3) := z_dd_180 (by decide +kernel)
theorem dX0_addLent_37 : decode cX0_addLent 37 = .ok (.iconst 1, 1) := z_dd_4 (by decide +kernel)
theorem dX0_addLent_38 : decode cX0_addLent 38 = .ok (.iadd, 1) := z_dd_96 (by decide +kernel)
theorem dX0_addLent_39 : decode cX0_addLent 39 = .ok (.putfield 31, 3) := z_dd_181 (by decide +kernel)
theorem dX0_addLent_42 : decode cX0_addLent 42 = .ok (.iconst 1, 1) := z_dd_4 (by decide +kernel)
theorem dX0_addLent_43 : decode cX0_addLent 43 = .ok (.ireturn, 1) := z_dd_172 (by decide +kernel)
theorem dX0_addLent_10 : decode cX0_addLent 10 = .ok (.iconst 0, 1) := z_dd_3 (by decide +kernel)
theorem dX0_addLent_11 : decode cX0_addLent 11 = .ok (.ireturn, 1) := z_dd_172 (by decide +kernel)
theorem dX0_ownerOf_10 : decode cX0_ownerOf 10 = .ok (.aload_n 0, 1) := z_dd_42 (by decide +kernel)
theorem dX0_ownerOf_11 : decode cX0_ownerOf 11 = .ok (.iload_n 1, 1) := z_dd_27 (by decide +kernel)
set_option maxRecDepth 20000 in
theorem ggX0_ownerOf_X0_lentAs : GoodIn wsX0_ownerOf wsX0_lentAs := goodIn_sub (fa_c (me_s (me_l (List.mem_of_getElem? (i := 10) rfl))) (fa_a (fa_c (me_s (me_l (List.mem_of_getElem? (i := 11) rfl))) (fa_c (me_s (me_l (List.mem_of_getElem? (i := 12) rfl))) fa_n)) (fun w h => (me_s (me_r h))))) (by decide +kernel)
set_option maxRecDepth 20000 in
theorem gX0_ownerOf_X0_lentAs : GoodIn wsX0_ownerOf (wsV RX0 34 RX0 yX0_lentAs wsX0_lentAs) := goodIn_app (goodIn_sub (fa_c (me_s (me_l (List.mem_of_getElem? (i := 7) rfl))) (fa_c (me_s (me_l (List.mem_of_getElem? (i := 8) rfl))) (fa_c (me_s (me_l (List.mem_of_getElem? (i := 9) rfl))) (fa_c (me_s (me_l (List.mem_of_getElem? (i := 4) rfl))) fa_n)))) (by decide +kernel)) ggX0_ownerOf_X0_lentAs
theorem dX0_ownerOf_12 : decode cX0_ownerOf 12 = .ok (.invokevirtual 34, 3) := z_dd_182 (by decide +kernel)
theorem dX0_ownerOf_15 : decode cX0_ownerOf 15 = .ok (.istore_n 2, 1) := z_dd_61 (by decide +kernel)
theorem dX0_ownerOf_16 : decode cX0_ownerOf 16 = .ok (.iload_n 2, 1) := z_dd_28 (by decide +kernel)
theorem dX0_ownerOf_17 : decode cX0_ownerOf 17 = .ok (.ifCond .lt 19, 3) := z_dd_155 (by decide +kernel)
theorem dX0_ownerOf_36 : decode cX0_ownerOf 36 = .ok (.iload_n 1, 1) := z_dd_27 (by decide +kernel)
set_option maxRecDepth 20000 in
theorem ggX0_ownerOf_X0_holderOf : GoodIn wsX0_ownerOf wsX0_holderOf := goodIn_sub (fa_c (me_s (me_l (List.mem_of_getElem? (i := 15) rfl))) fa_n) (by decide +kernel)
set_option maxRecDepth 20000 in
theorem gX0_ownerOf_X0_holderOf : GoodIn wsX0_ownerOf (va_wsS RX0 42 yX0_holderOf wsX0_holderOf) := goodIn_app (goodIn_sub (fa_c (me_s (me_l (List.mem_of_getElem? (i := 13) rfl))) (fa_c (me_s (me_l (List.mem_of_getElem? (i := 14) rfl))) (fa_c (me_s (me_l (List.mem_of_getElem? (i := 4) rfl))) fa_n))) (by decide +kernel)) ggX0_ownerOf_X0_holderOf
theorem dX0_ownerOf_37 : decode cX0_ownerOf 37 = .ok (.invokestatic 42, 3) := z_dd_184 (by decide +kernel)
theorem dX0_ownerOf_40 : decode cX0_ownerOf 40 = .ok (.ireturn, 1) := z_dd_172 (by decide +kernel)
theorem dX0_ownerOf_20 : decode cX0_ownerOf 20 = .ok (.iload_n 2, 1) := z_dd_28 (by decide +kernel)
theorem dX0_ownerOf_21 : decode cX0_ownerOf 21 = .ok (.sipush 512, 3) := z_dd_17 (by decide +kernel)
theorem dX0_ownerOf_24 : decode cX0_ownerOf 24 = .ok (.if_icmp .ge 12, 3) := z_dd_162 (by decide +kernel)
theorem dX0_ownerOf_27 : decode cX0_ownerOf 27 = .ok (.aload_n 0, 1) := z_dd_42 (by decide +kernel)
theorem dX0_ownerOf_28 : decode cX0_ownerOf 28 = .ok (.getfield 18, 3) := z_dd_180 (by decide +kernel)
theorem dX0_ownerOf_31 : decode cX0_ownerOf 31 = .ok (.iload_n 2, 1) := z_dd_28 (by decide +kernel)
theorem dX0_ownerOf_32 : decode cX0_ownerOf 32 = .ok (.iaload, 1) := z_dd_46 (by decide +kernel)
theorem dX0_ownerOf_33 : decode cX0_ownerOf 33 = .ok (.goto 7, 3) := z_dd_167 (by decide +kernel)
theorem dX8_has_12 : decode cX8_has 12 = .ok (.iload_n 1, 1) := z_dd_27 (by decide +kernel)
theorem dX8_has_13 : decode cX8_has 13 = .ok (.sipush 300, 3) := z_dd_17 (by decide +kernel)
theorem dX8_has_16 : decode cX8_has 16 = .ok (.if_icmp .ge 7, 3) := z_dd_162 (by decide +kernel)
theorem dX8_has_19 : decode cX8_has 19 = .ok (.iconst 1, 1) := z_dd_4 (by decide +kernel)
theorem dX8_has_20 : decode cX8_has 20 = .ok (.goto 4, 3) := z_dd_167 (by decide +kernel)
theorem dX8_add_0 : decode cX8_add 0 = .ok (.aload_n 0, 1) := z_dd_42 (by decide +kernel)
theorem dX8_add_1 : decode cX8_add 1 = .ok (.getfield 36, 3) := z_dd_180 (by decide +kernel)
theorem dX8_add_4 : decode cX8_add 4 = .ok (.sipush 300, 3) := z_dd_17 (by decide +kernel)
theorem dX8_add_7 : decode cX8_add 7 = .ok (.if_icmp .lt 5, 3) := z_dd_161 (by decide +kernel)
theorem dX8_add_12 : decode cX8_add 12 = .ok (.aload_n 0, 1) := z_dd_42 (by decide +kernel)
theorem dX8_add_13 : decode cX8_add 13 = .ok (.getfield 9, 3) := z_dd_180 (by decide +kernel)
theorem dX8_add_16 : decode cX8_add 16 = .ok (.aload_n 0, 1) := z_dd_42 (by decide +kernel)
theorem dX8_add_17 : decode cX8_add 17 = .ok (.getfield 36, 3) := z_dd_180 (by decide +kernel)
theorem dX8_add_20 : decode cX8_add 20 = .ok (.iload_n 1, 1) := z_dd_27 (by decide +kernel)
theorem dX8_add_21 : decode cX8_add 21 = .ok (.iastore, 1) := z_dd_79 (by decide +kernel)
theorem dX8_add_22 : decode cX8_add 22 = .ok (.aload_n 0, 1) := z_dd_42 (by decide +kernel)
theorem dX8_add_23 : decode cX8_add 23 = .ok (.getfield 15, 3) := z_dd_180 (by decide +kernel)
theorem dX8_add_26 : decode cX8_add 26 = .ok (.aload_n 0, 1) := z_dd_42 (by decide +kernel)
theorem dX8_add_27 : decode cX8_add 27 = .ok (.getfield 36, 3) := z_dd_180 (by decide +kernel)
theorem dX8_add_30 : decode cX8_add 30 = .ok (.iload_n 2, 1) := z_dd_28 (by decide +kernel)
theorem dX8_add_31 : decode cX8_add 31 = .ok (.iastore, 1) := z_dd_79 (by decide +kernel)
theorem dX8_add_32 : decode cX8_add 32 = .ok (.aload_n 0, 1) := z_dd_42 (by decide +kernel)
theorem dX8_add_33 : decode cX8_add 33 = .ok (.getfield 18, 3) := z_dd_180 (by decide +kernel)
theorem dX8_add_36 : decode cX8_add 36 = .ok (.aload_n 0, 1) := z_dd_42 (by decide +kernel)
theorem dX8_add_37 : decode cX8_add 37 = .ok (.getfield 36, 3) := z_dd_180 (by decide +kernel)
theorem dX8_add_40 : decode cX8_add 40 = .ok (.iload_n 3, 1) := z_dd_29 (by decide +kernel)
theorem dX8_add_41 : decode cX8_add 41 = .ok (.iastore, 1) := z_dd_79 (by decide +kernel)
theorem dX8_add_42 : decode cX8_add 42 = .ok (.aload_n 0, 1) := z_dd_42 (by decide +kernel)
theorem dX8_add_43 : decode cX8_add 43 = .ok (.getfield 21, 3) := z_dd_180 (by decide +kernel)
theorem dX8_add_46 : decode cX8_add 46 = .ok (.aload_n 0, 1) := z_dd_42 (by decide +kernel)
theorem dX8_add_47 : decode cX8_add 47 = .ok (.getfield 36, 3) := z_dd_180 (by decide +kernel)
theorem dX8_add_50 : decode cX8_add 50 = .ok (.iload 4, 2) := z_dd_21 (by decide +kernel)
theorem dX8_add_52 : decode cX8_add 52 = .ok (.iastore, 1) := z_dd_79 (by decide +kernel)
theorem dX8_add_53 : decode cX8_add 53 = .ok (.aload_n 0, 1) := z_dd_42 (by decide +kernel)
theorem dX8_add_54 : decode cX8_add 54 = .ok (.getfield 27, 3) := z_dd_180 (by decide +kernel)
theorem dX8_add_57 : decode cX8_add 57 = .ok (.aload_n 0, 1) := z_dd_42 (by decide +kernel)
theorem dX8_add_58 : decode cX8_add 58 = .ok (.getfield 36, 3) := z_dd_180 (by decide +kernel)
theorem dX8_add_61 : decode cX8_add 61 = .ok (.iconst (-1), 1) := z_dd_2 (by decide +kernel)
theorem dX8_add_62 : decode cX8_add 62 = .ok (.iastore, 1) := z_dd_79 (by decide +kernel)
theorem dX8_add_63 : decode cX8_add 63 = .ok (.aload_n 0, 1) := z_dd_42 (by decide +kernel)
theorem dX8_add_64 : decode cX8_add 64 = .ok (.dup, 1) := z_dd_89 (by decide +kernel)
theorem dX8_add_65 : decode cX8_add 65 = .ok (.getfield 36, 3) := z_dd_180 (by decide +kernel)
theorem dX8_add_68 : decode cX8_add 68 = .ok (.iconst 1, 1) := z_dd_4 (by decide +kernel)
theorem dX8_add_69 : decode cX8_add 69 = .ok (.iadd, 1) := z_dd_96 (by decide +kernel)
theorem dX8_add_70 : decode cX8_add 70 = .ok (.putfield 36, 3) := z_dd_181 (by decide +kernel)
theorem dX8_add_73 : decode cX8_add 73 = .ok (.aload_n 0, 1) := z_dd_42 (by decide +kernel)
theorem dX8_add_74 : decode cX8_add 74 = .ok (.getfield 36, 3) := z_dd_180 (by decide +kernel)
theorem dX8_add_77 : decode cX8_add 77 = .ok (.iconst 1, 1) := z_dd_4 (by decide +kernel)
theorem dX8_add_78 : decode cX8_add 78 = .ok (.isub, 1) := z_dd_100 (by decide +kernel)
theorem dX8_add_79 : decode cX8_add 79 = .ok (.ireturn, 1) := z_dd_172 (by decide +kernel)
theorem dX8_add_10 : decode cX8_add 10 = .ok (.iconst (-1), 1) := z_dd_2 (by decide +kernel)
theorem dX8_add_11 : decode cX8_add 11 = .ok (.ireturn, 1) := z_dd_172 (by decide +kernel)
theorem dX8_wasHandedIn_0 : decode cX8_wasHandedIn 0 = .ok (.iconst 0, 1) := z_dd_3 (by decide +kernel)
theorem dX8_wasHandedIn_1 : decode cX8_wasHandedIn 1 = .ok (.istore_n 2, 1) := z_dd_61 (by decide +kernel)
theorem dX8_wasHandedIn_2 : decode cX8_wasHandedIn 2 = .ok (.iload_n 2, 1) := z_dd_28 (by decide +kernel)
theorem dX8_wasHandedIn_3 : decode cX8_wasHandedIn 3 = .ok (.aload_n 0, 1) := z_dd_42 (by decide +kernel)
theorem dX8_wasHandedIn_4 : decode cX8_wasHandedIn 4 = .ok (.getfield 36, 3) := z_dd_180 (by decide +kernel)
theorem dX8_wasHandedIn_7 : decode cX8_wasHandedIn 7 = .ok (.if_icmp .ge 38, 3) := z_dd_162 (by decide +kernel)
theorem dX8_wasHandedIn_45 : decode cX8_wasHandedIn 45 = .ok (.iconst 0, 1) := z_dd_3 (by decide +kernel)
theorem dX8_wasHandedIn_46 : decode cX8_wasHandedIn 46 = .ok (.ireturn, 1) := z_dd_172 (by decide +kernel)
theorem dX8_wasHandedIn_10 : decode cX8_wasHandedIn 10 = .ok (.iload_n 2, 1) := z_dd_28 (by decide +kernel)
theorem dX8_wasHandedIn_11 : decode cX8_wasHandedIn 11 = .ok (.sipush 300, 3) := z_dd_17 (by decide +kernel)
theorem dX8_wasHandedIn_14 : decode cX8_wasHandedIn 14 = .ok (.if_icmp .ge 31, 3) := z_dd_162 (by decide +kernel)
theorem dX8_wasHandedIn_17 : decode cX8_wasHandedIn 17 = .ok (.aload_n 0, 1) := z_dd_42 (by decide +kernel)
theorem dX8_wasHandedIn_18 : decode cX8_wasHandedIn 18 = .ok (.getfield 18, 3) := z_dd_180 (by decide +kernel)
theorem dX8_wasHandedIn_21 : decode cX8_wasHandedIn 21 = .ok (.iload_n 2, 1) := z_dd_28 (by decide +kernel)
theorem dX8_wasHandedIn_22 : decode cX8_wasHandedIn 22 = .ok (.iaload, 1) := z_dd_46 (by decide +kernel)
theorem dX8_wasHandedIn_23 : decode cX8_wasHandedIn 23 = .ok (.iload_n 1, 1) := z_dd_27 (by decide +kernel)
theorem dX8_wasHandedIn_24 : decode cX8_wasHandedIn 24 = .ok (.if_icmp .ne 15, 3) := z_dd_160 (by decide +kernel)
theorem dX8_wasHandedIn_39 : decode cX8_wasHandedIn 39 = .ok (.iinc 2 1, 3) := z_dd_132 (by decide +kernel)
theorem dX8_wasHandedIn_42 : decode cX8_wasHandedIn 42 = .ok (.goto (-40), 3) := z_dd_167 (by decide +kernel)
theorem dX8_wasHandedIn_27 : decode cX8_wasHandedIn 27 = .ok (.aload_n 0, 1) := z_dd_42 (by decide +kernel)
theorem dX8_wasHandedIn_28 : decode cX8_wasHandedIn 28 = .ok (.getfield 27, 3) := z_dd_180 (by decide +kernel)
theorem dX8_wasHandedIn_31 : decode cX8_wasHandedIn 31 = .ok (.iload_n 2, 1) := z_dd_28 (by decide +kernel)
theorem dX8_wasHandedIn_32 : decode cX8_wasHandedIn 32 = .ok (.iaload, 1) := z_dd_46 (by decide +kernel)
theorem dX8_wasHandedIn_33 : decode cX8_wasHandedIn 33 = .ok (.iconst (-1), 1) := z_dd_2 (by decide +kernel)
theorem dX8_wasHandedIn_34 : decode cX8_wasHandedIn 34 = .ok (.if_icmp .eq 5, 3) := z_dd_159 (by decide +kernel)
theorem dX8_wasHandedIn_37 : decode cX8_wasHandedIn 37 = .ok (.iconst 1, 1) := z_dd_4 (by decide +kernel)
theorem dX8_wasHandedIn_38 : decode cX8_wasHandedIn 38 = .ok (.ireturn, 1) := z_dd_172 (by decide +kernel)
theorem dX8_tell_10 : decode cX8_tell 10 = .ok (.iload_n 2, 1) := z_dd_28 (by decide +kernel)
theorem dX8_tell_11 : decode cX8_tell 11 = .ok (.tableswitch 90 0 6 #[41, 48, 55, 62, 69, 76, 83], 41) := by decide +kernel
theorem dX8_tell_52 : decode cX8_tell 52 = .ok (.aload_n 0, 1) := z_dd_42 (by decide +kernel)
theorem dX8_tell_53 : decode cX8_tell 53 = .ok (.getfield 9, 3) := z_dd_180 (by decide +kernel)
theorem dX8_tell_56 : decode cX8_tell 56 = .ok (.iload_n 1, 1) := z_dd_27 (by decide +kernel)
theorem dX8_tell_57 : decode cX8_tell 57 = .ok (.iaload, 1) := z_dd_46 (by decide +kernel)
theorem dX8_tell_58 : decode cX8_tell 58 = .ok (.ireturn, 1) := z_dd_172 (by decide +kernel)
theorem dX8_tell_59 : decode cX8_tell 59 = .ok (.aload_n 0, 1) := z_dd_42 (by decide +kernel)
theorem dX8_tell_60 : decode cX8_tell 60 = .ok (.getfield 15, 3) := z_dd_180 (by decide +kernel)
theorem dX8_tell_63 : decode cX8_tell 63 = .ok (.iload_n 1, 1) := z_dd_27 (by decide +kernel)
theorem dX8_tell_64 : decode cX8_tell 64 = .ok (.iaload, 1) := z_dd_46 (by decide +kernel)
theorem dX8_tell_65 : decode cX8_tell 65 = .ok (.ireturn, 1) := z_dd_172 (by decide +kernel)
theorem dX8_tell_66 : decode cX8_tell 66 = .ok (.aload_n 0, 1) := z_dd_42 (by decide +kernel)
theorem dX8_tell_67 : decode cX8_tell 67 = .ok (.getfield 18, 3) := z_dd_180 (by decide +kernel)
theorem dX8_tell_70 : decode cX8_tell 70 = .ok (.iload_n 1, 1) := z_dd_27 (by decide +kernel)
theorem dX8_tell_71 : decode cX8_tell 71 = .ok (.iaload, 1) := z_dd_46 (by decide +kernel)
theorem dX8_tell_72 : decode cX8_tell 72 = .ok (.ireturn, 1) := z_dd_172 (by decide +kernel)
theorem dX8_tell_73 : decode cX8_tell 73 = .ok (.aload_n 0, 1) := z_dd_42 (by decide +kernel)
theorem dX8_tell_74 : decode cX8_tell 74 = .ok (.getfield 21, 3) := z_dd_180 (by decide +kernel)
theorem dX8_tell_77 : decode cX8_tell 77 = .ok (.iload_n 1, 1) := z_dd_27 (by decide +kernel)
theorem dX8_tell_78 : decode cX8_tell 78 = .ok (.iaload, 1) := z_dd_46 (by decide +kernel)
theorem dX8_tell_79 : decode cX8_tell 79 = .ok (.ireturn, 1) := z_dd_172 (by decide +kernel)
theorem dX8_tell_80 : decode cX8_tell 80 = .ok (.aload_n 0, 1) := z_dd_42 (by decide +kernel)
theorem dX8_tell_81 : decode cX8_tell 81 = .ok (.getfield 24, 3) := z_dd_180 (by decide +kernel)
theorem dX8_tell_84 : decode cX8_tell 84 = .ok (.iload_n 1, 1) := z_dd_27 (by decide +kernel)
theorem dX8_tell_85 : decode cX8_tell 85 = .ok (.iaload, 1) := z_dd_46 (by decide +kernel)
theorem dX8_tell_86 : decode cX8_tell 86 = .ok (.ireturn, 1) := z_dd_172 (by decide +kernel)
theorem dX8_tell_87 : decode cX8_tell 87 = .ok (.aload_n 0, 1) := z_dd_42 (by decide +kernel)
theorem dX8_tell_88 : decode cX8_tell 88 = .ok (.getfield 27, 3) := z_dd_180 (by decide +kernel)
theorem dX8_tell_91 : decode cX8_tell 91 = .ok (.iload_n 1, 1) := z_dd_27 (by decide +kernel)
theorem dX8_tell_92 : decode cX8_tell 92 = .ok (.iaload, 1) := z_dd_46 (by decide +kernel)
theorem dX8_tell_93 : decode cX8_tell 93 = .ok (.ireturn, 1) := z_dd_172 (by decide +kernel)
theorem dX8_tell_94 : decode cX8_tell 94 = .ok (.aload_n 0, 1) := z_dd_42 (by decide +kernel)
theorem dX8_tell_95 : decode cX8_tell 95 = .ok (.getfield 30, 3) := z_dd_180 (by decide +kernel)
theorem dX8_tell_98 : decode cX8_tell 98 = .ok (.iload_n 1, 1) := z_dd_27 (by decide +kernel)
theorem dX8_tell_99 : decode cX8_tell 99 = .ok (.iaload, 1) := z_dd_46 (by decide +kernel)
theorem dX8_tell_100 : decode cX8_tell 100 = .ok (.ireturn, 1) := z_dd_172 (by decide +kernel)
theorem dX8_tell_101 : decode cX8_tell 101 = .ok (.iconst (-1), 1) := z_dd_2 (by decide +kernel)
theorem dX8_tell_102 : decode cX8_tell 102 = .ok (.ireturn, 1) := z_dd_172 (by decide +kernel)
theorem dX8_lastWasDyed_0 : decode cX8_lastWasDyed 0 = .ok (.aload_n 0, 1) := z_dd_42 (by decide +kernel)
theorem dX8_lastWasDyed_1 : decode cX8_lastWasDyed 1 = .ok (.getfield 36, 3) := z_dd_180 (by decide +kernel)
theorem dX8_lastWasDyed_4 : decode cX8_lastWasDyed 4 = .ok (.sipush 300, 3) := z_dd_17 (by decide +kernel)
theorem dX8_lastWasDyed_7 : decode cX8_lastWasDyed 7 = .ok (.invokestatic 44, 3) := z_dd_184 (by decide +kernel)
theorem dX8_lastWasDyed_10 : decode cX8_lastWasDyed 10 = .ok (.iconst 1, 1) := z_dd_4 (by decide +kernel)
theorem dX8_lastWasDyed_11 : decode cX8_lastWasDyed 11 = .ok (.isub, 1) := z_dd_100 (by decide +kernel)
theorem dX8_lastWasDyed_12 : decode cX8_lastWasDyed 12 = .ok (.istore_n 2, 1) := z_dd_61 (by decide +kernel)
theorem dX8_lastWasDyed_13 : decode cX8_lastWasDyed 13 = .ok (.iload_n 2, 1) := z_dd_28 (by decide +kernel)
theorem dX8_lastWasDyed_14 : decode cX8_lastWasDyed 14 = .ok (.ifCond .lt 35, 3) := z_dd_155 (by decide +kernel)
theorem dX8_lastWasDyed_49 : decode cX8_lastWasDyed 49 = .ok (.iconst 0, 1) := z_dd_3 (by decide +kernel)
theorem dX8_lastWasDyed_50 : decode cX8_lastWasDyed 50 = .ok (.ireturn, 1) := z_dd_172 (by decide +kernel)
theorem dX8_lastWasDyed_17 : decode cX8_lastWasDyed 17 = .ok (.aload_n 0, 1) := z_dd_42 (by decide +kernel)
theorem dX8_lastWasDyed_18 : decode cX8_lastWasDyed 18 = .ok (.getfield 15, 3) := z_dd_180 (by decide +kernel)
theorem dX8_lastWasDyed_21 : decode cX8_lastWasDyed 21 = .ok (.iload_n 2, 1) := z_dd_28 (by decide +kernel)
theorem dX8_lastWasDyed_22 : decode cX8_lastWasDyed 22 = .ok (.iaload, 1) := z_dd_46 (by decide +kernel)
theorem dX8_lastWasDyed_23 : decode cX8_lastWasDyed 23 = .ok (.iload_n 1, 1) := z_dd_27 (by decide +kernel)
theorem dX8_lastWasDyed_24 : decode cX8_lastWasDyed 24 = .ok (.if_icmp .ne 19, 3) := z_dd_160 (by decide +kernel)
theorem dX8_lastWasDyed_43 : decode cX8_lastWasDyed 43 = .ok (.iinc 2 (-1), 3) := z_dd_132 (by decide +kernel)
theorem dX8_lastWasDyed_46 : decode cX8_lastWasDyed 46 = .ok (.goto (-33), 3) := z_dd_167 (by decide +kernel)
theorem dX8_lastWasDyed_27 : decode cX8_lastWasDyed 27 = .ok (.aload_n 0, 1) := z_dd_42 (by decide +kernel)
theorem dX8_lastWasDyed_28 : decode cX8_lastWasDyed 28 = .ok (.getfield 30, 3) := z_dd_180 (by decide +kernel)
theorem dX8_lastWasDyed_31 : decode cX8_lastWasDyed 31 = .ok (.iload_n 2, 1) := z_dd_28 (by decide +kernel)
theorem dX8_lastWasDyed_32 : decode cX8_lastWasDyed 32 = .ok (.iaload, 1) := z_dd_46 (by decide +kernel)
theorem dX8_lastWasDyed_33 : decode cX8_lastWasDyed 33 = .ok (.iconst 1, 1) := z_dd_4 (by decide +kernel)
theorem dX8_lastWasDyed_34 : decode cX8_lastWasDyed 34 = .ok (.if_icmp .ne 7, 3) := z_dd_160 (by decide +kernel)
theorem dX8_lastWasDyed_41 : decode cX8_lastWasDyed 41 = .ok (.iconst 0, 1) := z_dd_3 (by decide +kernel)
theorem dX8_lastWasDyed_42 : decode cX8_lastWasDyed 42 = .ok (.ireturn, 1) := z_dd_172 (by decide +kernel)
theorem dX8_lastWasDyed_37 : decode cX8_lastWasDyed 37 = .ok (.iconst 1, 1) := z_dd_4 (by decide +kernel)
theorem dX8_lastWasDyed_38 : decode cX8_lastWasDyed 38 = .ok (.goto 4, 3) := z_dd_167 (by decide +kernel)
theorem dX8_counts_0 : decode cX8_counts 0 = .ok (.iload_n 0, 1) := z_dd_26 (by decide +kernel)
theorem dX8_counts_1 : decode cX8_counts 1 = .ok (.iconst 1, 1) := z_dd_4 (by decide +kernel)
theorem dX8_counts_2 : decode cX8_counts 2 = .ok (.if_icmp .eq 17, 3) := z_dd_159 (by decide +kernel)
theorem dX8_counts_19 : decode cX8_counts 19 = .ok (.iconst 0, 1) := z_dd_3 (by decide +kernel)
theorem dX8_counts_20 : decode cX8_counts 20 = .ok (.ireturn, 1) := z_dd_172 (by decide +kernel)
theorem dX8_counts_5 : decode cX8_counts 5 = .ok (.iload_n 0, 1) := z_dd_26 (by decide +kernel)
theorem dX8_counts_6 : decode cX8_counts 6 = .ok (.iconst 2, 1) := z_dd_5 (by decide +kernel)
theorem dX8_counts_7 : decode cX8_counts 7 = .ok (.if_icmp .eq 12, 3) := z_dd_159 (by decide +kernel)
theorem dX8_counts_10 : decode cX8_counts 10 = .ok (.iload_n 0, 1) := z_dd_26 (by decide +kernel)
theorem dX8_counts_11 : decode cX8_counts 11 = .ok (.iconst 4, 1) := z_dd_7 (by decide +kernel)
theorem dX8_counts_12 : decode cX8_counts 12 = .ok (.if_icmp .eq 7, 3) := z_dd_159 (by decide +kernel)
theorem dX8_counts_15 : decode cX8_counts 15 = .ok (.iconst 1, 1) := z_dd_4 (by decide +kernel)
theorem dX8_counts_16 : decode cX8_counts 16 = .ok (.goto 4, 3) := z_dd_167 (by decide +kernel)
theorem dX8_given_0 : decode cX8_given 0 = .ok (.iconst 0, 1) := z_dd_3 (by decide +kernel)
theorem dX8_given_1 : decode cX8_given 1 = .ok (.istore 4, 2) := z_dd_54 (by decide +kernel)
theorem dX8_given_3 : decode cX8_given 3 = .ok (.iload_n 2, 1) := z_dd_28 (by decide +kernel)
theorem dX8_given_4 : decode cX8_given 4 = .ok (.iconst 0, 1) := z_dd_3 (by decide +kernel)
theorem dX8_given_5 : decode cX8_given 5 = .ok (.invokestatic 50, 3) := z_dd_184 (by decide +kernel)
theorem dX8_given_8 : decode cX8_given 8 = .ok (.istore 5, 2) := z_dd_54 (by decide +kernel)
theorem dX8_given_10 : decode cX8_given 10 = .ok (.iload 5, 2) := z_dd_21 (by decide +kernel)
theorem dX8_given_12 : decode cX8_given 12 = .ok (.iload_n 3, 1) := z_dd_29 (by decide +kernel)
theorem dX8_given_13 : decode cX8_given 13 = .ok (.if_icmp .ge 53, 3) := z_dd_162 (by decide +kernel)
theorem dX8_given_66 : decode cX8_given 66 = .ok (.iload 4, 2) := z_dd_21 (by decide +kernel)
theorem dX8_given_68 : decode cX8_given 68 = .ok (.ireturn, 1) := z_dd_172 (by decide +kernel)
theorem dX8_given_16 : decode cX8_given 16 = .ok (.iload 5, 2) := z_dd_21 (by decide +kernel)
theorem dX8_given_18 : decode cX8_given 18 = .ok (.sipush 300, 3) := z_dd_17 (by decide +kernel)
theorem dX8_given_21 : decode cX8_given 21 = .ok (.if_icmp .ge 45, 3) := z_dd_162 (by decide +kernel)
theorem dX8_given_24 : decode cX8_given 24 = .ok (.aload_n 0, 1) := z_dd_42 (by decide +kernel)
theorem dX8_given_25 : decode cX8_given 25 = .ok (.getfield 9, 3) := z_dd_180 (by decide +kernel)
theorem dX8_given_28 : decode cX8_given 28 = .ok (.iload 5, 2) := z_dd_21 (by decide +kernel)
theorem dX8_given_30 : decode cX8_given 30 = .ok (.iaload, 1) := z_dd_46 (by decide +kernel)
theorem dX8_given_31 : decode cX8_given 31 = .ok (.iload_n 1, 1) := z_dd_27 (by decide +kernel)
theorem dX8_given_32 : decode cX8_given 32 = .ok (.if_icmp .ne 28, 3) := z_dd_160 (by decide +kernel)
theorem dX8_given_60 : decode cX8_given 60 = .ok (.iinc 5 1, 3) := z_dd_132 (by decide +kernel)
theorem dX8_given_63 : decode cX8_given 63 = .ok (.goto (-53), 3) := z_dd_167 (by decide +kernel)
theorem dX8_given_35 : decode cX8_given 35 = .ok (.aload_n 0, 1) := z_dd_42 (by decide +kernel)
theorem dX8_given_36 : decode cX8_given 36 = .ok (.getfield 27, 3) := z_dd_180 (by decide +kernel)
theorem dX8_given_39 : decode cX8_given 39 = .ok (.iload 5, 2) := z_dd_21 (by decide +kernel)
theorem dX8_given_41 : decode cX8_given 41 = .ok (.iaload, 1) := z_dd_46 (by decide +kernel)
set_option maxRecDepth 20000 in
theorem ggX8_given_X8_counts : GoodIn wsX8_given wsX8_counts := goodIn_sub (fa_c (me_s (me_l (List.mem_of_getElem? (i := 10) rfl))) fa_n) (by decide +kernel)
set_option maxRecDepth 20000 in
theorem gX8_given_X8_counts : GoodIn wsX8_given (va_wsS RX8 53 yX8_counts wsX8_counts) := goodIn_app (goodIn_sub (fa_c (me_s (me_l (List.mem_of_getElem? (i := 7) rfl))) (fa_c (me_s (me_l (List.mem_of_getElem? (i := 8) rfl))) (fa_c (me_s (me_l (List.mem_of_getElem? (i := 9) rfl))) fa_n))) (by decide +kernel)) ggX8_given_X8_counts
theorem dX8_given_42 : decode cX8_given 42 = .ok (.invokestatic 53, 3) := z_dd_184 (by decide +kernel)
theorem dX8_given_45 : decode cX8_given 45 = .ok (.ifCond .eq 15, 3) := z_dd_153 (by decide +kernel)
theorem dX8_given_48 : decode cX8_given 48 = .ok (.iload 4, 2) := z_dd_21 (by decide +kernel)
theorem dX8_given_50 : decode cX8_given 50 = .ok (.aload_n 0, 1) := z_dd_42 (by decide +kernel)
theorem dX8_given_51 : decode cX8_given 51 = .ok (.getfield 24, 3) := z_dd_180 (by decide +kernel)
theorem dX8_given_54 : decode cX8_given 54 = .ok (.iload 5, 2) := z_dd_21 (by decide +kernel)
theorem dX8_given_56 : decode cX8_given 56 = .ok (.iaload, 1) := z_dd_46 (by decide +kernel)
theorem dX8_given_57 : decode cX8_given 57 = .ok (.iadd, 1) := z_dd_96 (by decide +kernel)
theorem dX8_given_58 : decode cX8_given 58 = .ok (.istore 4, 2) := z_dd_54 (by decide +kernel)
theorem dX8_judgedGood_12 : decode cX8_judgedGood 12 = .ok (.iload_n 2, 1) := z_dd_28 (by decide +kernel)
theorem dX8_judgedGood_13 : decode cX8_judgedGood 13 = .ok (.sipush 300, 3) := z_dd_17 (by decide +kernel)
theorem dX8_judgedGood_16 : decode cX8_judgedGood 16 = .ok (.if_icmp .ge 26, 3) := z_dd_162 (by decide +kernel)
theorem dX8_judgedGood_19 : decode cX8_judgedGood 19 = .ok (.iload_n 1, 1) := z_dd_27 (by decide +kernel)
theorem dX8_judgedGood_20 : decode cX8_judgedGood 20 = .ok (.aload_n 0, 1) := z_dd_42 (by decide +kernel)
theorem dX8_judgedGood_21 : decode cX8_judgedGood 21 = .ok (.getfield 27, 3) := z_dd_180 (by decide +kernel)
theorem dX8_judgedGood_24 : decode cX8_judgedGood 24 = .ok (.iload_n 2, 1) := z_dd_28 (by decide +kernel)
theorem dX8_judgedGood_25 : decode cX8_judgedGood 25 = .ok (.iaload, 1) := z_dd_46 (by decide +kernel)
theorem dX8_judgedGood_26 : decode cX8_judgedGood 26 = .ok (.ifCond .ne 7, 3) := z_dd_154 (by decide +kernel)
theorem dX8_judgedGood_33 : decode cX8_judgedGood 33 = .ok (.iconst 0, 1) := z_dd_3 (by decide +kernel)
theorem dX8_judgedGood_34 : decode cX8_judgedGood 34 = .ok (.iadd, 1) := z_dd_96 (by decide +kernel)
theorem dX8_judgedGood_35 : decode cX8_judgedGood 35 = .ok (.istore_n 1, 1) := z_dd_60 (by decide +kernel)
theorem dX8_judgedGood_36 : decode cX8_judgedGood 36 = .ok (.iinc 2 1, 3) := z_dd_132 (by decide +kernel)
theorem dX8_judgedGood_39 : decode cX8_judgedGood 39 = .ok (.goto (-35), 3) := z_dd_167 (by decide +kernel)
theorem dX8_judgedGood_29 : decode cX8_judgedGood 29 = .ok (.iconst 1, 1) := z_dd_4 (by decide +kernel)
theorem dX8_judgedGood_30 : decode cX8_judgedGood 30 = .ok (.goto 4, 3) := z_dd_167 (by decide +kernel)
theorem dX8_judgedOtherwise_12 : decode cX8_judgedOtherwise 12 = .ok (.iload_n 2, 1) := z_dd_28 (by decide +kernel)
theorem dX8_judgedOtherwise_13 : decode cX8_judgedOtherwise 13 = .ok (.sipush 300, 3) := z_dd_17 (by decide +kernel)
theorem dX8_judgedOtherwise_16 : decode cX8_judgedOtherwise 16 = .ok (.if_icmp .ge 26, 3) := z_dd_162 (by decide +kernel)
theorem dX8_judgedOtherwise_19 : decode cX8_judgedOtherwise 19 = .ok (.iload_n 1, 1) := z_dd_27 (by decide +kernel)
theorem dX8_judgedOtherwise_20 : decode cX8_judgedOtherwise 20 = .ok (.aload_n 0, 1) := z_dd_42 (by decide +kernel)
theorem dX8_judgedOtherwise_21 : decode cX8_judgedOtherwise 21 = .ok (.getfield 27, 3) := z_dd_180 (by decide +kernel)
theorem dX8_judgedOtherwise_24 : decode cX8_judgedOtherwise 24 = .ok (.iload_n 2, 1) := z_dd_28 (by decide +kernel)
theorem dX8_judgedOtherwise_25 : decode cX8_judgedOtherwise 25 = .ok (.iaload, 1) := z_dd_46 (by decide +kernel)
theorem dX8_judgedOtherwise_26 : decode cX8_judgedOtherwise 26 = .ok (.ifCond .le 7, 3) := z_dd_158 (by decide +kernel)
theorem dX8_judgedOtherwise_33 : decode cX8_judgedOtherwise 33 = .ok (.iconst 0, 1) := z_dd_3 (by decide +kernel)
theorem dX8_judgedOtherwise_34 : decode cX8_judgedOtherwise 34 = .ok (.iadd, 1) := z_dd_96 (by decide +kernel)
theorem dX8_judgedOtherwise_35 : decode cX8_judgedOtherwise 35 = .ok (.istore_n 1, 1) := z_dd_60 (by decide +kernel)
theorem dX8_judgedOtherwise_36 : decode cX8_judgedOtherwise 36 = .ok (.iinc 2 1, 3) := z_dd_132 (by decide +kernel)
theorem dX8_judgedOtherwise_39 : decode cX8_judgedOtherwise 39 = .ok (.goto (-35), 3) := z_dd_167 (by decide +kernel)
theorem dX8_judgedOtherwise_29 : decode cX8_judgedOtherwise 29 = .ok (.iconst 1, 1) := z_dd_4 (by decide +kernel)
theorem dX8_judgedOtherwise_30 : decode cX8_judgedOtherwise 30 = .ok (.goto 4, 3) := z_dd_167 (by decide +kernel)
theorem z_l24 : (24 : Int32).toInt = 24 := by decide
theorem z_l100 : (100 : Int32).toInt = 100 := by decide
theorem z_l300 : (300 : Int32).toInt = 300 := by decide
theorem z_l512 : (512 : Int32).toInt = 512 := by decide
theorem z_fi_n {I : z_I} {i a b : Nat} {v : Int32} (h : a ≠ i) : z_fi I i v a b = I a b := by simp [z_fi, h]
set_option maxHeartbeats 8000000 in
set_option maxRecDepth 100000 in
theorem sx_X0_holderOf (l : Launch) (G : z_G) (ad : Nat → Nat) (c : z_C) (I : z_I) (a1 : Int32) : z_M l yX0_holderOf wsX0_holderOf { frames := 1, cells := 0, slots := 0, locals := 12 } [.int a1] G (shC c, ad, I, JX, PC c ad) (fun r u1 => u1 = (shC c, ad, I, JX, PC c ad)) 0 0 := by
  intro sz
  refine z_headQ (cc := cX0_holderOf) (maxL := 1) (ret := (some .int)) (by decide) rfl (Nat.le_of_ble_eq_true rfl) ?_
  intro p e s m below meth c0 ls hIn hK hsz hW hl
  obtain ⟨hx, hb, hr, hml, hown, hts, hlocks, hname⟩ := hIn
  subst hsz
  have hown : s.vm.findClass RX0 = some m.cls := hown
  have hA : ∀ q : Nat, s.heap.size ≤ q → z_A (shC c, ad, I, JX, PC c ad) s.heap.size q := fun q h => Or.inr h
  generalize hAe : z_A (shC c, ad, I, JX, PC c ad) s.heap.size = A at *
  have hS : va_S A s.heap s.heap [] := va_S.rf
  have hl : lv_has ls 1 [(0, .int a1)] := hl
  refine lv_iload_n hx hb dX0_holderOf_0 rfl (lv_at hl 0 rfl) ?_
  refine lv_bipush (v := 100) hx hb dX0_holderOf_1 (by decide) ?_
  refine lv_idiv hx hb dX0_holderOf_3 (by decide) ?_
  refine lv_topi (fun x1 ex1 => ?_)
  have tx1 := z_tdiv ex1 rfl z_l100 (by decide)
  refine lv_bipush (v := 24) hx hb dX0_holderOf_4 (by decide) ?_
  refine lv_idiv hx hb dX0_holderOf_6 (by decide) ?_
  refine lv_topi (fun x2 ex2 => ?_)
  have tx2 := z_tdiv ex2 rfl z_l24 (by decide)
  exact z_iret hx hb hr hK hS (Nat.le_of_ble_eq_true rfl) (Nat.le_of_ble_eq_true rfl) hlocks dX0_holderOf_7 (shC c, ad, I, JX, PC c ad) hW rfl
set_option maxHeartbeats 8000000 in
set_option maxRecDepth 100000 in
theorem sx_X0_monthOf (l : Launch) (G : z_G) (ad : Nat → Nat) (c : z_C) (I : z_I) (a1 : Int32) : z_M l yX0_monthOf wsX0_monthOf { frames := 1, cells := 0, slots := 0, locals := 12 } [.int a1] G (shC c, ad, I, JX, PC c ad) (fun r u1 => u1 = (shC c, ad, I, JX, PC c ad)) 0 0 := by
  intro sz
  refine z_headQ (cc := cX0_monthOf) (maxL := 1) (ret := (some .int)) (by decide) rfl (Nat.le_of_ble_eq_true rfl) ?_
  intro p e s m below meth c0 ls hIn hK hsz hW hl
  obtain ⟨hx, hb, hr, hml, hown, hts, hlocks, hname⟩ := hIn
  subst hsz
  have hown : s.vm.findClass RX0 = some m.cls := hown
  have hA : ∀ q : Nat, s.heap.size ≤ q → z_A (shC c, ad, I, JX, PC c ad) s.heap.size q := fun q h => Or.inr h
  generalize hAe : z_A (shC c, ad, I, JX, PC c ad) s.heap.size = A at *
  have hS : va_S A s.heap s.heap [] := va_S.rf
  have hl : lv_has ls 1 [(0, .int a1)] := hl
  refine lv_iload_n hx hb dX0_monthOf_0 rfl (lv_at hl 0 rfl) ?_
  refine lv_bipush (v := 100) hx hb dX0_monthOf_1 (by decide) ?_
  refine lv_idiv hx hb dX0_monthOf_3 (by decide) ?_
  refine lv_topi (fun x1 ex1 => ?_)
  have tx1 := z_tdiv ex1 rfl z_l100 (by decide)
  refine lv_bipush (v := 24) hx hb dX0_monthOf_4 (by decide) ?_
  refine lv_irem hx hb dX0_monthOf_6 (by decide) ?_
  refine lv_topi (fun x2 ex2 => ?_)
  have tx2 := z_trem ex2 rfl z_l24 (by decide)
  exact z_iret hx hb hr hK hS (Nat.le_of_ble_eq_true rfl) (Nat.le_of_ble_eq_true rfl) hlocks dX0_monthOf_7 (shC c, ad, I, JX, PC c ad) hW rfl
theorem zj_X0_isIssued_X0 : ∀ w ∈ wsX00, w ∈ wsX0_isIssued := fun w h => (List.mem_cons_of_mem _ (List.mem_append_right _ h))
set_option maxHeartbeats 8000000 in
set_option maxRecDepth 100000 in
theorem sx_X0_isIssued (l : Launch) (G : z_G) (ad : Nat → Nat) (c : z_C) (I : z_I) (a1 : Int32) (a2 : Int32) : z_M l yX0_isIssued wsX0_isIssued { frames := 1, cells := 0, slots := 0, locals := 12 } [.ref (ad 26), .int a1, .int a2] G (shC c, ad, I, JX, PC c ad) (fun r u1 => u1 = (shC c, ad, I, JX, PC c ad) ∧ (r = 1 ∨ r = 0)) 0 0 := by
  intro sz
  refine z_headQ (cc := cX0_isIssued) (maxL := 4) (ret := (some .boolean)) (by decide) rfl (Nat.le_of_ble_eq_true rfl) ?_
  intro p e s m below meth c0 ls hIn hK hsz hW hl
  obtain ⟨hx, hb, hr, hml, hown, hts, hlocks, hname⟩ := hIn
  subst hsz
  have hown : s.vm.findClass RX0 = some m.cls := hown
  have hA : ∀ q : Nat, s.heap.size ≤ q → z_A (shC c, ad, I, JX, PC c ad) s.heap.size q := fun q h => Or.inr h
  generalize hAe : z_A (shC c, ad, I, JX, PC c ad) s.heap.size = A at *
  have hS : va_S A s.heap s.heap [] := va_S.rf
  have hl : lv_has ls 4 [(0, .ref (ad 26)), (1, .int a1), (2, .int a2)] := hl
  refine lv_bipush (v := 24) hx hb dX0_isIssued_0 (by decide) ?_
  refine lv_iload_n hx hb dX0_isIssued_2 rfl (lv_at hl 1 rfl) ?_
  refine lv_imul hx hb dX0_isIssued_3 ?_
  refine lv_topi (fun x1 ex1 => ?_)
  refine lv_iload_n hx hb dX0_isIssued_4 rfl (lv_at hl 2 rfl) ?_
  refine lv_iadd hx hb dX0_isIssued_5 ?_
  refine lv_topi (fun x2 ex2 => ?_)
  refine lv_istore_n (lv' := [(3, .int x2), (0, .ref (ad 26)), (1, .int a1), (2, .int a2)]) hx hb dX0_isIssued_6 rfl hl (by decide) rfl (fun ls hl => ?_)
  refine lv_iload_n hx hb dX0_isIssued_7 rfl (lv_at hl 0 rfl) ?_
  refine lv_if_lt (tgt := 34) hx hb dX0_isIssued_8 (by decide) (fun c3 => ?_) (fun c3 => ?_)
  · have g4 := z_f_lt rfl z_l0 c3
    refine lv_iconst (v := 0) hx hb dX0_isIssued_34 (by decide) ?_
    exact z_zret hx hb hr (by decide) hK hS (Nat.le_of_ble_eq_true rfl) (Nat.le_of_ble_eq_true rfl) hlocks dX0_isIssued_35 (shC c, ad, I, JX, PC c ad) hW ⟨rfl, Or.inr rfl⟩
  · have g5 := z_f_nlt rfl z_l0 c3
    refine lv_iload_n hx hb dX0_isIssued_11 rfl (lv_at hl 0 rfl) ?_
    refine lv_aload_n hx hb dX0_isIssued_12 rfl (lv_at hl 1 rfl) ?_
    refine z_get (T := TX0) (N := 5) (ci := 0) (i := 26) (v := .ref (ad 27)) hx hb hts zj_X0_isIssued_X0 hown hK hW rfl rfl 0 (by decide) (hts (.fieldLink RX0 9 "PetrolBoard$Coupons" "issued" "[I") (me_s (me_l (List.mem_of_getElem? (i := 0) rfl)))) (fun _ h => h) rfl dX0_isIssued_13 ?_
    refine z_alen (i := 27) (v := 720) hx hb hK hW rfl (by simp [z_tys]) (by rfl) dX0_isIssued_16 ?_
    refine lv_icmp_ge (tgt := 34) hx hb dX0_isIssued_17 (by decide) (fun c6 => ?_) (fun c6 => ?_)
    · have g7 := z_f_ge rfl z_l720 c6
      refine lv_iconst (v := 0) hx hb dX0_isIssued_34 (by decide) ?_
      exact z_zret hx hb hr (by decide) hK hS (Nat.le_of_ble_eq_true rfl) (Nat.le_of_ble_eq_true rfl) hlocks dX0_isIssued_35 (shC c, ad, I, JX, PC c ad) hW ⟨rfl, Or.inr rfl⟩
    · have g8 := z_f_nge rfl z_l720 c6
      refine lv_aload_n hx hb dX0_isIssued_20 rfl (lv_at hl 1 rfl) ?_
      refine z_get (T := TX0) (N := 5) (ci := 0) (i := 26) (v := .ref (ad 27)) hx hb hts zj_X0_isIssued_X0 hown hK hW rfl rfl 0 (by decide) (hts (.fieldLink RX0 9 "PetrolBoard$Coupons" "issued" "[I") (me_s (me_l (List.mem_of_getElem? (i := 0) rfl)))) (fun _ h => h) rfl dX0_isIssued_21 ?_
      refine lv_iload_n hx hb dX0_isIssued_24 rfl (lv_at hl 0 rfl) ?_
      refine z_iald (i := 27) hx hb hK hW rfl (z_ix rfl (by omega) (by omega)) dX0_isIssued_25 ?_
      refine lv_topi (fun x9 ex9 => ?_)
      refine lv_iconst (v := (-1)) hx hb dX0_isIssued_26 (by decide) ?_
      refine lv_icmp_eq (tgt := 34) hx hb dX0_isIssued_27 (by decide) (fun c10 => ?_) (fun c10 => ?_)
      · have g11 := z_f_eq rfl z_lm1 c10
        refine lv_iconst (v := 0) hx hb dX0_isIssued_34 (by decide) ?_
        exact z_zret hx hb hr (by decide) hK hS (Nat.le_of_ble_eq_true rfl) (Nat.le_of_ble_eq_true rfl) hlocks dX0_isIssued_35 (shC c, ad, I, JX, PC c ad) hW ⟨rfl, Or.inr rfl⟩
      · have g12 := z_f_ne rfl z_lm1 c10
        refine lv_iconst (v := 1) hx hb dX0_isIssued_30 (by decide) ?_
        refine lv_goto (tgt := 35) hx hb dX0_isIssued_31 (by decide) ?_
        exact z_zret hx hb hr (by decide) hK hS (Nat.le_of_ble_eq_true rfl) (Nat.le_of_ble_eq_true rfl) hlocks dX0_isIssued_35 (shC c, ad, I, JX, PC c ad) hW ⟨rfl, Or.inl rfl⟩
noncomputable def L_X0_add : z_L := [(27, 999), (26, 3)]
theorem zj_X0_add_X0 : ∀ w ∈ wsX00, w ∈ wsX0_add := fun w h => (List.mem_cons_of_mem _ (List.mem_append_right _ h))
set_option maxHeartbeats 8000000 in
set_option maxRecDepth 100000 in
theorem sx_X0_add (l : Launch) (G : z_G) (ad : Nat → Nat) (c : z_C) (I : z_I) (a1 : Int32) (a2 : Int32) (a3 : Int32) : z_M l yX0_add wsX0_add { frames := 1, cells := 0, slots := 0, locals := 12 } [.ref (ad 26), .int a1, .int a2, .int a3] G (shC c, ad, I, JX, PC c ad) (fun r u1 => ∃ I1 : z_I, u1 = (shC c, ad, I1, JX, PC c ad) ∧ z_fr L_X0_add I1 I) 0 0 := by
  intro sz
  refine z_headQ (cc := cX0_add) (maxL := 5) (ret := (some .int)) (by decide) rfl (Nat.le_of_ble_eq_true rfl) ?_
  intro p e s m below meth c0 ls hIn hK hsz hW hl
  obtain ⟨hx, hb, hr, hml, hown, hts, hlocks, hname⟩ := hIn
  subst hsz
  have hown : s.vm.findClass RX0 = some m.cls := hown
  have hA : ∀ q : Nat, s.heap.size ≤ q → z_A (shC c, ad, I, JX, PC c ad) s.heap.size q := fun q h => Or.inr h
  generalize hAe : z_A (shC c, ad, I, JX, PC c ad) s.heap.size = A at *
  have hS : va_S A s.heap s.heap [] := va_S.rf
  have hl : lv_has ls 5 [(0, .ref (ad 26)), (1, .int a1), (2, .int a2), (3, .int a3)] := hl
  refine lv_bipush (v := 24) hx hb dX0_add_0 (by decide) ?_
  refine lv_iload_n hx hb dX0_add_2 rfl (lv_at hl 1 rfl) ?_
  refine lv_imul hx hb dX0_add_3 ?_
  refine lv_topi (fun x1 ex1 => ?_)
  refine lv_iload_n hx hb dX0_add_4 rfl (lv_at hl 2 rfl) ?_
  refine lv_iadd hx hb dX0_add_5 ?_
  refine lv_topi (fun x2 ex2 => ?_)
  refine lv_istore (lv' := [(4, .int x2), (0, .ref (ad 26)), (1, .int a1), (2, .int a2), (3, .int a3)]) hx hb dX0_add_6 hl (by decide) rfl (fun ls hl => ?_)
  refine lv_iload hx hb dX0_add_8 (lv_at hl 0 rfl) ?_
  refine lv_if_lt (tgt := 23) hx hb dX0_add_10 (by decide) (fun c3 => ?_) (fun c3 => ?_)
  · have g4 := z_f_lt rfl z_l0 c3
    refine lv_iconst (v := (-1)) hx hb dX0_add_23 (by decide) ?_
    exact z_iret hx hb hr hK hS (Nat.le_of_ble_eq_true rfl) (Nat.le_of_ble_eq_true rfl) hlocks dX0_add_24 (shC c, ad, I, JX, PC c ad) hW ⟨I, rfl, z_fr_0⟩
  · have g5 := z_f_nlt rfl z_l0 c3
    refine lv_iload hx hb dX0_add_13 (lv_at hl 0 rfl) ?_
    refine lv_aload_n hx hb dX0_add_15 rfl (lv_at hl 1 rfl) ?_
    refine z_get (T := TX0) (N := 5) (ci := 0) (i := 26) (v := .ref (ad 27)) hx hb hts zj_X0_add_X0 hown hK hW rfl rfl 0 (by decide) (hts (.fieldLink RX0 9 "PetrolBoard$Coupons" "issued" "[I") (me_s (me_l (List.mem_of_getElem? (i := 0) rfl)))) (fun _ h => h) rfl dX0_add_16 ?_
    refine z_alen (i := 27) (v := 720) hx hb hK hW rfl (by simp [z_tys]) (by rfl) dX0_add_19 ?_
    refine lv_icmp_lt (tgt := 25) hx hb dX0_add_20 (by decide) (fun c6 => ?_) (fun c6 => ?_)
    · have g7 := z_f_lt rfl z_l720 c6
      refine lv_aload_n hx hb dX0_add_25 rfl (lv_at hl 1 rfl) ?_
      refine z_get (T := TX0) (N := 5) (ci := 0) (i := 26) (v := .ref (ad 27)) hx hb hts zj_X0_add_X0 hown hK hW rfl rfl 0 (by decide) (hts (.fieldLink RX0 9 "PetrolBoard$Coupons" "issued" "[I") (me_s (me_l (List.mem_of_getElem? (i := 0) rfl)))) (fun _ h => h) rfl dX0_add_26 ?_
      refine lv_iload hx hb dX0_add_29 (lv_at hl 0 rfl) ?_
      refine lv_iload_n hx hb dX0_add_31 rfl (lv_at hl 4 rfl) ?_
      refine z_iast (i := 27) hx hb hK hW hS rfl (z_ix rfl (by omega) (by omega)) dX0_add_32 (fun H locs hz1 hW hS => ?_)
      obtain ⟨I8, eI8⟩ : ∃ K : z_I, K = z_up I 27 x2.toNatClampNeg a3 := ⟨_, rfl⟩
      rw [← eI8] at hW
      have f9 := z_fr_a z_fr_0 (show z_wa L_X0_add 27 = true by decide) eI8
      refine lv_aload_n hx hb dX0_add_33 rfl (lv_at hl 1 rfl) ?_
      refine lv_dup hx hb dX0_add_34 rfl ?_
      refine z_get (T := TX0) (N := 5) (ci := 0) (i := 26) (v := .int (I 26 3)) hx hb hts zj_X0_add_X0 hown hK hW rfl rfl 3 (by decide) (hts (.fieldLink RX0 27 "PetrolBoard$Coupons" "books" "I") (me_s (me_l (List.mem_of_getElem? (i := 1) rfl)))) (fun _ h => h) (congrArg Value.int (by rw [eI8, z_up_n (by decide)])) dX0_add_35 ?_
      refine lv_iconst (v := 1) hx hb dX0_add_38 (by decide) ?_
      refine lv_iadd hx hb dX0_add_39 ?_
      refine lv_topi (fun x10 ex10 => ?_)
      refine z_put (T := TX0) (N := 5) (ci := 0) (i := 26) (v := .int x10) (I1 := z_up I8 26 3 x10) (J1 := JX) (P1 := PC c ad) hx hb hts zj_X0_add_X0 tyX0 tyX0_ok nmX0 hown hK hW hS rfl rfl 3 (by decide) (hts (.fieldLink RX0 27 "PetrolBoard$Coupons" "books" "I") (me_s (me_l (List.mem_of_getElem? (i := 1) rfl)))) (fun _ h => h) rfl rfl rfl (by first | rfl | exact congrArg _ z_up_s) (fun a b h ty => z_vI h ty) dX0_add_40 (fun H locs hz1 hW hS => ?_)
      obtain ⟨I11, eI11⟩ : ∃ K : z_I, K = z_up I8 26 3 x10 := ⟨_, rfl⟩
      rw [← eI11] at hW
      have f12 := z_fr_k f9 (show z_wr L_X0_add 26 3 = true by decide) eI11
      refine lv_iload_n hx hb dX0_add_43 rfl (lv_at hl 4 rfl) ?_
      exact z_iret hx hb hr hK hS (Nat.le_of_ble_eq_true rfl) (Nat.le_of_ble_eq_true rfl) hlocks dX0_add_44 (shC c, ad, I11, JX, PC c ad) hW ⟨I11, rfl, f12⟩
    · have g13 := z_f_nlt rfl z_l720 c6
      refine lv_iconst (v := (-1)) hx hb dX0_add_23 (by decide) ?_
      exact z_iret hx hb hr hK hS (Nat.le_of_ble_eq_true rfl) (Nat.le_of_ble_eq_true rfl) hlocks dX0_add_24 (shC c, ad, I, JX, PC c ad) hW ⟨I, rfl, z_fr_0⟩
theorem zj_X0_has_X0 : ∀ w ∈ wsX00, w ∈ wsX0_has := fun w h => (List.mem_cons_of_mem _ (List.mem_append_right _ h))
set_option maxHeartbeats 8000000 in
set_option maxRecDepth 100000 in
theorem sx_X0_has (l : Launch) (G : z_G) (ad : Nat → Nat) (c : z_C) (I : z_I) (a1 : Int32) : z_M l yX0_has wsX0_has { frames := 1, cells := 0, slots := 0, locals := 12 } [.ref (ad 26), .int a1] G (shC c, ad, I, JX, PC c ad) (fun r u1 => u1 = (shC c, ad, I, JX, PC c ad) ∧ (r = 1 ∨ r = 0)) 0 0 := by
  intro sz
  refine z_headQ (cc := cX0_has) (maxL := 3) (ret := (some .boolean)) (by decide) rfl (Nat.le_of_ble_eq_true rfl) ?_
  intro p e s m below meth c0 ls hIn hK hsz hW hl
  obtain ⟨hx, hb, hr, hml, hown, hts, hlocks, hname⟩ := hIn
  subst hsz
  have hown : s.vm.findClass RX0 = some m.cls := hown
  have hA : ∀ q : Nat, s.heap.size ≤ q → z_A (shC c, ad, I, JX, PC c ad) s.heap.size q := fun q h => Or.inr h
  generalize hAe : z_A (shC c, ad, I, JX, PC c ad) s.heap.size = A at *
  have hS : va_S A s.heap s.heap [] := va_S.rf
  have hl : lv_has ls 3 [(0, .ref (ad 26)), (1, .int a1)] := hl
  refine lv_iload_n hx hb dX0_has_0 rfl (lv_at hl 1 rfl) ?_
  refine lv_bipush (v := 100) hx hb dX0_has_1 (by decide) ?_
  refine lv_idiv hx hb dX0_has_3 (by decide) ?_
  refine lv_topi (fun x1 ex1 => ?_)
  have tx1 := z_tdiv ex1 rfl z_l100 (by decide)
  refine lv_istore_n (lv' := [(2, .int x1), (0, .ref (ad 26)), (1, .int a1)]) hx hb dX0_has_4 rfl hl (by decide) rfl (fun ls hl => ?_)
  refine lv_iload_n hx hb dX0_has_5 rfl (lv_at hl 2 rfl) ?_
  refine lv_if_lt (tgt := 35) hx hb dX0_has_6 (by decide) (fun c2 => ?_) (fun c2 => ?_)
  · have g3 := z_f_lt rfl z_l0 c2
    refine lv_iconst (v := 0) hx hb dX0_has_35 (by decide) ?_
    exact z_zret hx hb hr (by decide) hK hS (Nat.le_of_ble_eq_true rfl) (Nat.le_of_ble_eq_true rfl) hlocks dX0_has_36 (shC c, ad, I, JX, PC c ad) hW ⟨rfl, Or.inr rfl⟩
  · have g4 := z_f_nlt rfl z_l0 c2
    refine lv_iload_n hx hb dX0_has_9 rfl (lv_at hl 0 rfl) ?_
    refine lv_aload_n hx hb dX0_has_10 rfl (lv_at hl 1 rfl) ?_
    refine z_get (T := TX0) (N := 5) (ci := 0) (i := 26) (v := .ref (ad 27)) hx hb hts zj_X0_has_X0 hown hK hW rfl rfl 0 (by decide) (hts (.fieldLink RX0 9 "PetrolBoard$Coupons" "issued" "[I") (me_s (me_l (List.mem_of_getElem? (i := 0) rfl)))) (fun _ h => h) rfl dX0_has_11 ?_
    refine z_alen (i := 27) (v := 720) hx hb hK hW rfl (by simp [z_tys]) (by rfl) dX0_has_14 ?_
    refine lv_icmp_ge (tgt := 35) hx hb dX0_has_15 (by decide) (fun c5 => ?_) (fun c5 => ?_)
    · have g6 := z_f_ge rfl z_l720 c5
      refine lv_iconst (v := 0) hx hb dX0_has_35 (by decide) ?_
      exact z_zret hx hb hr (by decide) hK hS (Nat.le_of_ble_eq_true rfl) (Nat.le_of_ble_eq_true rfl) hlocks dX0_has_36 (shC c, ad, I, JX, PC c ad) hW ⟨rfl, Or.inr rfl⟩
    · have g7 := z_f_nge rfl z_l720 c5
      refine lv_iload_n hx hb dX0_has_18 rfl (lv_at hl 2 rfl) ?_
      refine lv_bipush (v := 100) hx hb dX0_has_19 (by decide) ?_
      refine lv_irem hx hb dX0_has_21 (by decide) ?_
      refine lv_topi (fun x8 ex8 => ?_)
      have tx8 := z_trem ex8 rfl z_l100 (by decide)
      refine lv_aload_n hx hb dX0_has_22 rfl (lv_at hl 1 rfl) ?_
      refine z_get (T := TX0) (N := 5) (ci := 0) (i := 26) (v := .ref (ad 27)) hx hb hts zj_X0_has_X0 hown hK hW rfl rfl 0 (by decide) (hts (.fieldLink RX0 9 "PetrolBoard$Coupons" "issued" "[I") (me_s (me_l (List.mem_of_getElem? (i := 0) rfl)))) (fun _ h => h) rfl dX0_has_23 ?_
      refine lv_iload_n hx hb dX0_has_26 rfl (lv_at hl 0 rfl) ?_
      refine z_iald (i := 27) hx hb hK hW rfl (z_ix rfl (by omega) (by omega)) dX0_has_27 ?_
      refine lv_topi (fun x9 ex9 => ?_)
      refine lv_icmp_ge (tgt := 35) hx hb dX0_has_28 (by decide) (fun c10 => ?_) (fun c10 => ?_)
      · have g11 := z_f_ge rfl rfl c10
        refine lv_iconst (v := 0) hx hb dX0_has_35 (by decide) ?_
        exact z_zret hx hb hr (by decide) hK hS (Nat.le_of_ble_eq_true rfl) (Nat.le_of_ble_eq_true rfl) hlocks dX0_has_36 (shC c, ad, I, JX, PC c ad) hW ⟨rfl, Or.inr rfl⟩
      · have g12 := z_f_nge rfl rfl c10
        refine lv_iconst (v := 1) hx hb dX0_has_31 (by decide) ?_
        refine lv_goto (tgt := 36) hx hb dX0_has_32 (by decide) ?_
        exact z_zret hx hb hr (by decide) hK hS (Nat.le_of_ble_eq_true rfl) (Nat.le_of_ble_eq_true rfl) hlocks dX0_has_36 (shC c, ad, I, JX, PC c ad) hW ⟨rfl, Or.inl rfl⟩
theorem zj_X0_lentAs_X0 : ∀ w ∈ wsX00, w ∈ wsX0_lentAs := fun w h => (List.mem_cons_of_mem _ (List.mem_append_right _ h))
set_option maxHeartbeats 8000000 in
set_option maxRecDepth 100000 in
theorem sx_X0_lentAs (l : Launch) (G : z_G) (ad : Nat → Nat) (c : z_C) (I : z_I) (hC : z_iC I) (a1 : Int32) : z_M l yX0_lentAs wsX0_lentAs { frames := 1, cells := 0, slots := 0, locals := 12 } [.ref (ad 26), .int a1] G (shC c, ad, I, JX, PC c ad) (fun r u1 => u1 = (shC c, ad, I, JX, PC c ad)) 0 0 := by
  intro sz
  refine z_headQ (cc := cX0_lentAs) (maxL := 3) (ret := (some .int)) (by decide) rfl (Nat.le_of_ble_eq_true rfl) ?_
  intro p e s m below meth c0 ls hIn hK hsz hW hl
  obtain ⟨hx, hb, hr, hml, hown, hts, hlocks, hname⟩ := hIn
  subst hsz
  have hown : s.vm.findClass RX0 = some m.cls := hown
  have hA : ∀ q : Nat, s.heap.size ≤ q → z_A (shC c, ad, I, JX, PC c ad) s.heap.size q := fun q h => Or.inr h
  generalize hAe : z_A (shC c, ad, I, JX, PC c ad) s.heap.size = A at *
  have hS : va_S A s.heap s.heap [] := va_S.rf
  have hl : lv_has ls 3 [(0, .ref (ad 26)), (1, .int a1)] := hl
  refine lv_iconst (v := 0) hx hb dX0_lentAs_0 (by decide) ?_
  refine lv_istore_n (lv' := [(2, .int 0), (0, .ref (ad 26)), (1, .int a1)]) hx hb dX0_lentAs_1 rfl hl (by decide) rfl (fun ls hl => ?_)
  have lp1 : ∀ (f : Nat) (y2 : Int32) (H : Heap) (locs : List Loc) (ls : Array Slot), (2147483647 < y2.toInt + (f : Int)) → (0 ≤ y2.toInt) → z_W G A (shC c, ad, I, JX, PC c ad) H → va_S A s.heap H locs → lv_has ls 3 [(2, .int y2), (0, .ref (ad 26)), (1, .int a1)] → W p l e (headSpec wsX0_lentAs { frames := 1, cells := 0, slots := 0, locals := 12 }).room s m ([.ref (ad 26), .int a1] : List Value).toArray below meth c0 H locs 0 0 (MQ below (va_Qi (fun (r : Int32) (u1 : z_U) => u1 = (shC c, ad, I, JX, PC c ad)) (z_B G A) A) ([.ref (ad 26), .int a1] : List Value).toArray s 0 0 A) (F0 m 2 ls []) := by
    intro f
    induction f with
    | zero => intro y2 H locs ls lp1m lp1l2 hW hS hl; exact absurd lp1m (by have := Int32.toInt_lt y2; have := Int32.le_toInt y2; omega)
    | succ f lp1ih =>
      intro y2 H locs ls lp1m lp1l2 hW hS hl
      refine lv_iload_n hx hb dX0_lentAs_2 rfl (lv_at hl 0 rfl) ?_
      refine lv_aload_n hx hb dX0_lentAs_3 rfl (lv_at hl 1 rfl) ?_
      have r3 : 0 ≤ (I 26 4).toInt ∧ (I 26 4).toInt ≤ 512 := hC
      refine z_get (T := TX0) (N := 5) (ci := 0) (i := 26) (v := .int (I 26 4)) hx hb hts zj_X0_lentAs_X0 hown hK hW rfl rfl 4 (by decide) (hts (.fieldLink RX0 31 "PetrolBoard$Coupons" "lentNumber" "I") (me_s (me_l (List.mem_of_getElem? (i := 0) rfl)))) (fun _ h => h) rfl dX0_lentAs_4 ?_
      refine lv_icmp_ge (tgt := 35) hx hb dX0_lentAs_7 (by decide) (fun c4 => ?_) (fun c4 => ?_)
      · have g5 := z_f_ge rfl rfl c4
        refine lv_iconst (v := (-1)) hx hb dX0_lentAs_35 (by decide) ?_
        exact z_iret hx hb hr hK hS (Nat.le_of_ble_eq_true rfl) (Nat.le_of_ble_eq_true rfl) hlocks dX0_lentAs_36 (shC c, ad, I, JX, PC c ad) hW rfl
      · have g6 := z_f_nge rfl rfl c4
        refine lv_iload_n hx hb dX0_lentAs_10 rfl (lv_at hl 0 rfl) ?_
        refine lv_sipush (v := 512) hx hb dX0_lentAs_11 (by decide) ?_
        refine lv_icmp_ge (tgt := 35) hx hb dX0_lentAs_14 (by decide) (fun c7 => (by have g := z_f_ge rfl z_l512 c7; omega)) (fun c7 => ?_)
        have g8 := z_f_nge rfl z_l512 c7
        refine lv_aload_n hx hb dX0_lentAs_17 rfl (lv_at hl 1 rfl) ?_
        refine z_get (T := TX0) (N := 5) (ci := 0) (i := 26) (v := .ref (ad 28)) hx hb hts zj_X0_lentAs_X0 hown hK hW rfl rfl 1 (by decide) (hts (.fieldLink RX0 15 "PetrolBoard$Coupons" "lent" "[I") (me_s (me_l (List.mem_of_getElem? (i := 1) rfl)))) (fun _ h => h) rfl dX0_lentAs_18 ?_
        refine lv_iload_n hx hb dX0_lentAs_21 rfl (lv_at hl 0 rfl) ?_
        refine z_iald (i := 28) hx hb hK hW rfl (z_ix rfl (by omega) (by omega)) dX0_lentAs_22 ?_
        refine lv_topi (fun x9 ex9 => ?_)
        refine lv_iload_n hx hb dX0_lentAs_23 rfl (lv_at hl 2 rfl) ?_
        refine lv_icmp_ne (tgt := 29) hx hb dX0_lentAs_24 (by decide) (fun c10 => ?_) (fun c10 => ?_)
        · have g11 := z_f_ne rfl rfl c10
          obtain ⟨x12, ex12⟩ : ∃ y : Int32, y = y2 + 1 := ⟨_, rfl⟩
          have tx12 : x12.toInt = y2.toInt + 1 := z_tadd ex12 rfl z_l1 (by omega) (by omega)
          refine lv_iinc (v := x12) (lv' := [(2, .int x12), (0, .ref (ad 26)), (1, .int a1)]) hx hb dX0_lentAs_29 hl (k := 0) rfl (by rw [ex12]; rfl) (by decide) rfl (fun ls hl => ?_)
          refine lv_goto (tgt := 2) hx hb dX0_lentAs_32 (by decide) ?_
          exact lp1ih x12 _ _ _ (by omega) (by omega) hW hS (lv_sub hl [0, 1, 2] rfl)
        · have g13 := z_f_eq rfl rfl c10
          refine lv_iload_n hx hb dX0_lentAs_27 rfl (lv_at hl 0 rfl) ?_
          exact z_iret hx hb hr hK hS (Nat.le_of_ble_eq_true rfl) (Nat.le_of_ble_eq_true rfl) hlocks dX0_lentAs_28 (shC c, ad, I, JX, PC c ad) hW rfl
  exact lp1 4294967296 (0) _ _ _ (z_m0u _) (by rw [z_l0]; omega) hW hS (lv_sub hl [0, 1, 2] rfl)
set_option maxHeartbeats 8000000 in
set_option maxRecDepth 100000 in
theorem sx_X0_isLent (l : Launch) (G : z_G) (ad : Nat → Nat) (c : z_C) (I : z_I) (hC : z_iC I) (a1 : Int32) : z_M l yX0_isLent wsX0_isLent { frames := 2, cells := 0, slots := 0, locals := 34 } [.ref (ad 26), .int a1] G (shC c, ad, I, JX, PC c ad) (fun r u1 => u1 = (shC c, ad, I, JX, PC c ad) ∧ (r = 1 ∨ r = 0)) 0 0 := by
  intro sz
  refine z_headQ (cc := cX0_isLent) (maxL := 2) (ret := (some .boolean)) (by decide) rfl (Nat.le_of_ble_eq_true rfl) ?_
  intro p e s m below meth c0 ls hIn hK hsz hW hl
  obtain ⟨hx, hb, hr, hml, hown, hts, hlocks, hname⟩ := hIn
  subst hsz
  have hown : s.vm.findClass RX0 = some m.cls := hown
  have hA : ∀ q : Nat, s.heap.size ≤ q → z_A (shC c, ad, I, JX, PC c ad) s.heap.size q := fun q h => Or.inr h
  generalize hAe : z_A (shC c, ad, I, JX, PC c ad) s.heap.size = A at *
  have hS : va_S A s.heap s.heap [] := va_S.rf
  have hl : lv_has ls 2 [(0, .ref (ad 26)), (1, .int a1)] := hl
  refine lv_aload_n hx hb dX0_isLent_0 rfl (lv_at hl 0 rfl) ?_
  refine lv_iload_n hx hb dX0_isLent_1 rfl (lv_at hl 1 rfl) ?_
  refine z_ci hW hS hA (va_runV (As := [.int a1]) (rest := []) ⟨hx, hb, hml, hown, hts⟩ (sx_X0_lentAs l G ad c I (by show 0 ≤ (I 26 4).toInt ∧ (I 26 4).toInt ≤ 512; exact hC) a1 _) (cwV 1 hts gX0_isLent_X0_lentAs rfl rfl rfl hy_X0_lentAs ⟨Nat.le_of_ble_eq_true rfl, Nat.le_of_ble_eq_true rfl⟩) (z_preV (i := 26) hK hW rfl rfl) rfl rfl hl.1 rfl (lv_room (Nat.le_of_ble_eq_true rfl)) dX0_isLent_2 ⟨Nat.le_of_ble_eq_true rfl, Nat.le_of_ble_eq_true rfl⟩) (fun r u1 H locs hp hW hS => ?_)
  rw [hp] at hW
  refine lv_topi (fun x1 ex1 => ?_)
  refine lv_iconst (v := (-1)) hx hb dX0_isLent_5 (by decide) ?_
  refine lv_icmp_eq (tgt := 13) hx hb dX0_isLent_6 (by decide) (fun c2 => ?_) (fun c2 => ?_)
  · have g3 := z_f_eq rfl z_lm1 c2
    refine lv_iconst (v := 0) hx hb dX0_isLent_13 (by decide) ?_
    exact z_zret hx hb hr (by decide) hK hS (Nat.le_of_ble_eq_true rfl) (Nat.le_of_ble_eq_true rfl) hlocks dX0_isLent_14 (shC c, ad, I, JX, PC c ad) hW ⟨rfl, Or.inr rfl⟩
  · have g4 := z_f_ne rfl z_lm1 c2
    refine lv_iconst (v := 1) hx hb dX0_isLent_9 (by decide) ?_
    refine lv_goto (tgt := 14) hx hb dX0_isLent_10 (by decide) ?_
    exact z_zret hx hb hr (by decide) hK hS (Nat.le_of_ble_eq_true rfl) (Nat.le_of_ble_eq_true rfl) hlocks dX0_isLent_14 (shC c, ad, I, JX, PC c ad) hW ⟨rfl, Or.inl rfl⟩
theorem zj_X0_lentOfBook_X0 : ∀ w ∈ wsX00, w ∈ wsX0_lentOfBook := fun w h => (List.mem_cons_of_mem _ (List.mem_append_right _ h))
set_option maxHeartbeats 8000000 in
set_option maxRecDepth 100000 in
theorem sx_X0_lentOfBook (l : Launch) (G : z_G) (ad : Nat → Nat) (c : z_C) (I : z_I) (hC : z_iC I) (a1 : Int32) : z_M l yX0_lentOfBook wsX0_lentOfBook { frames := 1, cells := 0, slots := 0, locals := 12 } [.ref (ad 26), .int a1] G (shC c, ad, I, JX, PC c ad) (fun r u1 => u1 = (shC c, ad, I, JX, PC c ad)) 0 0 := by
  intro sz
  refine z_headQ (cc := cX0_lentOfBook) (maxL := 4) (ret := (some .int)) (by decide) rfl (Nat.le_of_ble_eq_true rfl) ?_
  intro p e s m below meth c0 ls hIn hK hsz hW hl
  obtain ⟨hx, hb, hr, hml, hown, hts, hlocks, hname⟩ := hIn
  subst hsz
  have hown : s.vm.findClass RX0 = some m.cls := hown
  have hA : ∀ q : Nat, s.heap.size ≤ q → z_A (shC c, ad, I, JX, PC c ad) s.heap.size q := fun q h => Or.inr h
  generalize hAe : z_A (shC c, ad, I, JX, PC c ad) s.heap.size = A at *
  have hS : va_S A s.heap s.heap [] := va_S.rf
  have hl : lv_has ls 4 [(0, .ref (ad 26)), (1, .int a1)] := hl
  refine lv_iconst (v := 0) hx hb dX0_lentOfBook_0 (by decide) ?_
  refine lv_istore_n (lv' := [(2, .int 0), (0, .ref (ad 26)), (1, .int a1)]) hx hb dX0_lentOfBook_1 rfl hl (by decide) rfl (fun ls hl => ?_)
  refine lv_iconst (v := 0) hx hb dX0_lentOfBook_2 (by decide) ?_
  refine lv_istore_n (lv' := [(3, .int 0), (2, .int 0), (0, .ref (ad 26)), (1, .int a1)]) hx hb dX0_lentOfBook_3 rfl hl (by decide) rfl (fun ls hl => ?_)
  have lp1 : ∀ (f : Nat) (y2 : Int32) (y3 : Int32) (H : Heap) (locs : List Loc) (ls : Array Slot), (2147483647 < y2.toInt + (f : Int)) → (0 ≤ y2.toInt) → z_W G A (shC c, ad, I, JX, PC c ad) H → va_S A s.heap H locs → lv_has ls 4 [(3, .int y2), (2, .int y3), (0, .ref (ad 26)), (1, .int a1)] → W p l e (headSpec wsX0_lentOfBook { frames := 1, cells := 0, slots := 0, locals := 12 }).room s m ([.ref (ad 26), .int a1] : List Value).toArray below meth c0 H locs 0 0 (MQ below (va_Qi (fun (r : Int32) (u1 : z_U) => u1 = (shC c, ad, I, JX, PC c ad)) (z_B G A) A) ([.ref (ad 26), .int a1] : List Value).toArray s 0 0 A) (F0 m 4 ls []) := by
    intro f
    induction f with
    | zero => intro y2 y3 H locs ls lp1m lp1l3 hW hS hl; exact absurd lp1m (by have := Int32.toInt_lt y2; have := Int32.le_toInt y2; omega)
    | succ f lp1ih =>
      intro y2 y3 H locs ls lp1m lp1l3 hW hS hl
      refine lv_iload_n hx hb dX0_lentOfBook_4 rfl (lv_at hl 0 rfl) ?_
      refine lv_aload_n hx hb dX0_lentOfBook_5 rfl (lv_at hl 2 rfl) ?_
      have r4 : 0 ≤ (I 26 4).toInt ∧ (I 26 4).toInt ≤ 512 := hC
      refine z_get (T := TX0) (N := 5) (ci := 0) (i := 26) (v := .int (I 26 4)) hx hb hts zj_X0_lentOfBook_X0 hown hK hW rfl rfl 4 (by decide) (hts (.fieldLink RX0 31 "PetrolBoard$Coupons" "lentNumber" "I") (me_s (me_l (List.mem_of_getElem? (i := 0) rfl)))) (fun _ h => h) rfl dX0_lentOfBook_6 ?_
      refine lv_icmp_ge (tgt := 49) hx hb dX0_lentOfBook_9 (by decide) (fun c5 => ?_) (fun c5 => ?_)
      · have g6 := z_f_ge rfl rfl c5
        refine lv_iload_n hx hb dX0_lentOfBook_49 rfl (lv_at hl 1 rfl) ?_
        exact z_iret hx hb hr hK hS (Nat.le_of_ble_eq_true rfl) (Nat.le_of_ble_eq_true rfl) hlocks dX0_lentOfBook_50 (shC c, ad, I, JX, PC c ad) hW rfl
      · have g7 := z_f_nge rfl rfl c5
        refine lv_iload_n hx hb dX0_lentOfBook_12 rfl (lv_at hl 0 rfl) ?_
        refine lv_sipush (v := 512) hx hb dX0_lentOfBook_13 (by decide) ?_
        refine lv_icmp_ge (tgt := 49) hx hb dX0_lentOfBook_16 (by decide) (fun c8 => (by have g := z_f_ge rfl z_l512 c8; omega)) (fun c8 => ?_)
        have g9 := z_f_nge rfl z_l512 c8
        refine lv_iload_n hx hb dX0_lentOfBook_19 rfl (lv_at hl 1 rfl) ?_
        refine lv_aload_n hx hb dX0_lentOfBook_20 rfl (lv_at hl 2 rfl) ?_
        refine z_get (T := TX0) (N := 5) (ci := 0) (i := 26) (v := .ref (ad 28)) hx hb hts zj_X0_lentOfBook_X0 hown hK hW rfl rfl 1 (by decide) (hts (.fieldLink RX0 15 "PetrolBoard$Coupons" "lent" "[I") (me_s (me_l (List.mem_of_getElem? (i := 1) rfl)))) (fun _ h => h) rfl dX0_lentOfBook_21 ?_
        refine lv_iload_n hx hb dX0_lentOfBook_24 rfl (lv_at hl 0 rfl) ?_
        refine z_iald (i := 28) hx hb hK hW rfl (z_ix rfl (by omega) (by omega)) dX0_lentOfBook_25 ?_
        refine lv_topi (fun x10 ex10 => ?_)
        refine lv_bipush (v := 100) hx hb dX0_lentOfBook_26 (by decide) ?_
        refine lv_idiv hx hb dX0_lentOfBook_28 (by decide) ?_
        refine lv_topi (fun x11 ex11 => ?_)
        have tx11 := z_tdiv ex11 rfl z_l100 (by decide)
        refine lv_iload_n hx hb dX0_lentOfBook_29 rfl (lv_at hl 3 rfl) ?_
        refine lv_bipush (v := 100) hx hb dX0_lentOfBook_30 (by decide) ?_
        refine lv_idiv hx hb dX0_lentOfBook_32 (by decide) ?_
        refine lv_topi (fun x12 ex12 => ?_)
        have tx12 := z_tdiv ex12 rfl z_l100 (by decide)
        refine lv_icmp_ne (tgt := 40) hx hb dX0_lentOfBook_33 (by decide) (fun c13 => ?_) (fun c13 => ?_)
        · have g14 := z_f_ne rfl rfl c13
          refine lv_iconst (v := 0) hx hb dX0_lentOfBook_40 (by decide) ?_
          refine lv_iadd hx hb dX0_lentOfBook_41 ?_
          refine lv_topi (fun x15 ex15 => ?_)
          have tx15 : x15.toInt = y3.toInt + 0 := z_tadd ex15 rfl z_l0 (by have := Int32.le_toInt y3; have := Int32.toInt_lt y3; omega) (by have := Int32.le_toInt y3; have := Int32.toInt_lt y3; omega)
          refine lv_istore_n (lv' := [(2, .int x15), (3, .int y2), (0, .ref (ad 26)), (1, .int a1)]) hx hb dX0_lentOfBook_42 rfl hl (by decide) rfl (fun ls hl => ?_)
          obtain ⟨x16, ex16⟩ : ∃ y : Int32, y = y2 + 1 := ⟨_, rfl⟩
          have tx16 : x16.toInt = y2.toInt + 1 := z_tadd ex16 rfl z_l1 (by omega) (by omega)
          refine lv_iinc (v := x16) (lv' := [(3, .int x16), (2, .int x15), (0, .ref (ad 26)), (1, .int a1)]) hx hb dX0_lentOfBook_43 hl (k := 1) rfl (by rw [ex16]; rfl) (by decide) rfl (fun ls hl => ?_)
          refine lv_goto (tgt := 4) hx hb dX0_lentOfBook_46 (by decide) ?_
          exact lp1ih x16 x15 _ _ _ (by omega) (by omega) hW hS (lv_sub hl [0, 1, 2, 3] rfl)
        · have g17 := z_f_eq rfl rfl c13
          refine lv_iconst (v := 1) hx hb dX0_lentOfBook_36 (by decide) ?_
          refine lv_goto (tgt := 41) hx hb dX0_lentOfBook_37 (by decide) ?_
          refine lv_iadd hx hb dX0_lentOfBook_41 ?_
          refine lv_topi (fun x18 ex18 => ?_)
          refine lv_istore_n (lv' := [(2, .int x18), (3, .int y2), (0, .ref (ad 26)), (1, .int a1)]) hx hb dX0_lentOfBook_42 rfl hl (by decide) rfl (fun ls hl => ?_)
          obtain ⟨x19, ex19⟩ : ∃ y : Int32, y = y2 + 1 := ⟨_, rfl⟩
          have tx19 : x19.toInt = y2.toInt + 1 := z_tadd ex19 rfl z_l1 (by omega) (by omega)
          refine lv_iinc (v := x19) (lv' := [(3, .int x19), (2, .int x18), (0, .ref (ad 26)), (1, .int a1)]) hx hb dX0_lentOfBook_43 hl (k := 1) rfl (by rw [ex19]; rfl) (by decide) rfl (fun ls hl => ?_)
          refine lv_goto (tgt := 4) hx hb dX0_lentOfBook_46 (by decide) ?_
          exact lp1ih x19 x18 _ _ _ (by omega) (by omega) hW hS (lv_sub hl [0, 1, 2, 3] rfl)
  exact lp1 4294967296 (0) (0) _ _ _ (z_m0u _) (by rw [z_l0]; omega) hW hS (lv_sub hl [0, 1, 2, 3] rfl)
noncomputable def L_X0_addLent : z_L := [(28, 999), (29, 999), (26, 4)]
theorem zj_X0_addLent_X0 : ∀ w ∈ wsX00, w ∈ wsX0_addLent := fun w h => (List.mem_cons_of_mem _ (List.mem_append_right _ h))
set_option maxHeartbeats 8000000 in
set_option maxRecDepth 100000 in
theorem sx_X0_addLent (l : Launch) (G : z_G) (ad : Nat → Nat) (c : z_C) (I : z_I) (hC : z_iC I) (a1 : Int32) (a2 : Int32) : z_M l yX0_addLent wsX0_addLent { frames := 1, cells := 0, slots := 0, locals := 12 } [.ref (ad 26), .int a1, .int a2] G (shC c, ad, I, JX, PC c ad) (fun r u1 => ∃ I1 : z_I, u1 = (shC c, ad, I1, JX, PC c ad) ∧ z_iC I1 ∧ z_fr L_X0_addLent I1 I ∧ (r = 1 ∨ r = 0)) 0 0 := by
  intro sz
  refine z_headQ (cc := cX0_addLent) (maxL := 3) (ret := (some .boolean)) (by decide) rfl (Nat.le_of_ble_eq_true rfl) ?_
  intro p e s m below meth c0 ls hIn hK hsz hW hl
  obtain ⟨hx, hb, hr, hml, hown, hts, hlocks, hname⟩ := hIn
  subst hsz
  have hown : s.vm.findClass RX0 = some m.cls := hown
  have hA : ∀ q : Nat, s.heap.size ≤ q → z_A (shC c, ad, I, JX, PC c ad) s.heap.size q := fun q h => Or.inr h
  generalize hAe : z_A (shC c, ad, I, JX, PC c ad) s.heap.size = A at *
  have hS : va_S A s.heap s.heap [] := va_S.rf
  have hl : lv_has ls 3 [(0, .ref (ad 26)), (1, .int a1), (2, .int a2)] := hl
  refine lv_aload_n hx hb dX0_addLent_0 rfl (lv_at hl 0 rfl) ?_
  have r1 : 0 ≤ (I 26 4).toInt ∧ (I 26 4).toInt ≤ 512 := hC
  refine z_get (T := TX0) (N := 5) (ci := 0) (i := 26) (v := .int (I 26 4)) hx hb hts zj_X0_addLent_X0 hown hK hW rfl rfl 4 (by decide) (hts (.fieldLink RX0 31 "PetrolBoard$Coupons" "lentNumber" "I") (me_s (me_l (List.mem_of_getElem? (i := 0) rfl)))) (fun _ h => h) rfl dX0_addLent_1 ?_
  refine lv_sipush (v := 512) hx hb dX0_addLent_4 (by decide) ?_
  refine lv_icmp_lt (tgt := 12) hx hb dX0_addLent_7 (by decide) (fun c2 => ?_) (fun c2 => ?_)
  · have g3 := z_f_lt rfl z_l512 c2
    refine lv_aload_n hx hb dX0_addLent_12 rfl (lv_at hl 0 rfl) ?_
    refine z_get (T := TX0) (N := 5) (ci := 0) (i := 26) (v := .ref (ad 28)) hx hb hts zj_X0_addLent_X0 hown hK hW rfl rfl 1 (by decide) (hts (.fieldLink RX0 15 "PetrolBoard$Coupons" "lent" "[I") (me_s (me_l (List.mem_of_getElem? (i := 1) rfl)))) (fun _ h => h) rfl dX0_addLent_13 ?_
    refine lv_aload_n hx hb dX0_addLent_16 rfl (lv_at hl 0 rfl) ?_
    refine z_get (T := TX0) (N := 5) (ci := 0) (i := 26) (v := .int (I 26 4)) hx hb hts zj_X0_addLent_X0 hown hK hW rfl rfl 4 (by decide) (hts (.fieldLink RX0 31 "PetrolBoard$Coupons" "lentNumber" "I") (me_s (me_l (List.mem_of_getElem? (i := 0) rfl)))) (fun _ h => h) rfl dX0_addLent_17 ?_
    refine lv_iload_n hx hb dX0_addLent_20 rfl (lv_at hl 1 rfl) ?_
    refine z_iast (i := 28) hx hb hK hW hS rfl (z_ix rfl (by omega) (by omega)) dX0_addLent_21 (fun H locs hz1 hW hS => ?_)
    obtain ⟨I4, eI4⟩ : ∃ K : z_I, K = z_up I 28 (I 26 4).toNatClampNeg a1 := ⟨_, rfl⟩
    rw [← eI4] at hW
    have f5 := z_fr_a z_fr_0 (show z_wa L_X0_addLent 28 = true by decide) eI4
    refine lv_aload_n hx hb dX0_addLent_22 rfl (lv_at hl 0 rfl) ?_
    refine z_get (T := TX0) (N := 5) (ci := 0) (i := 26) (v := .ref (ad 29)) hx hb hts zj_X0_addLent_X0 hown hK hW rfl rfl 2 (by decide) (hts (.fieldLink RX0 18 "PetrolBoard$Coupons" "lentTo" "[I") (me_s (me_l (List.mem_of_getElem? (i := 2) rfl)))) (fun _ h => h) rfl dX0_addLent_23 ?_
    refine lv_aload_n hx hb dX0_addLent_26 rfl (lv_at hl 0 rfl) ?_
    refine z_get (T := TX0) (N := 5) (ci := 0) (i := 26) (v := .int (I 26 4)) hx hb hts zj_X0_addLent_X0 hown hK hW rfl rfl 4 (by decide) (hts (.fieldLink RX0 31 "PetrolBoard$Coupons" "lentNumber" "I") (me_s (me_l (List.mem_of_getElem? (i := 0) rfl)))) (fun _ h => h) (congrArg Value.int (by rw [eI4, z_up_n (by decide)])) dX0_addLent_27 ?_
    refine lv_iload_n hx hb dX0_addLent_30 rfl (lv_at hl 2 rfl) ?_
    refine z_iast (i := 29) hx hb hK hW hS rfl (z_ix rfl (by omega) (by omega)) dX0_addLent_31 (fun H locs hz1 hW hS => ?_)
    obtain ⟨I6, eI6⟩ : ∃ K : z_I, K = z_up I4 29 (I 26 4).toNatClampNeg a2 := ⟨_, rfl⟩
    rw [← eI6] at hW
    have f7 := z_fr_a f5 (show z_wa L_X0_addLent 29 = true by decide) eI6
    refine lv_aload_n hx hb dX0_addLent_32 rfl (lv_at hl 0 rfl) ?_
    refine lv_dup hx hb dX0_addLent_33 rfl ?_
    refine z_get (T := TX0) (N := 5) (ci := 0) (i := 26) (v := .int (I 26 4)) hx hb hts zj_X0_addLent_X0 hown hK hW rfl rfl 4 (by decide) (hts (.fieldLink RX0 31 "PetrolBoard$Coupons" "lentNumber" "I") (me_s (me_l (List.mem_of_getElem? (i := 0) rfl)))) (fun _ h => h) (congrArg Value.int (by rw [eI6, z_up_n (by decide), eI4, z_up_n (by decide)])) dX0_addLent_34 ?_
    refine lv_iconst (v := 1) hx hb dX0_addLent_37 (by decide) ?_
    refine lv_iadd hx hb dX0_addLent_38 ?_
    refine lv_topi (fun x8 ex8 => ?_)
    have tx8 : x8.toInt = (I 26 4).toInt + 1 := z_tadd ex8 rfl z_l1 (by omega) (by omega)
    refine z_put (T := TX0) (N := 5) (ci := 0) (i := 26) (v := .int x8) (I1 := z_up I6 26 4 x8) (J1 := JX) (P1 := PC c ad) hx hb hts zj_X0_addLent_X0 tyX0 tyX0_ok nmX0 hown hK hW hS rfl rfl 4 (by decide) (hts (.fieldLink RX0 31 "PetrolBoard$Coupons" "lentNumber" "I") (me_s (me_l (List.mem_of_getElem? (i := 0) rfl)))) (fun _ h => h) rfl rfl rfl (by first | rfl | exact congrArg _ z_up_s) (fun a b h ty => z_vI h ty) dX0_addLent_39 (fun H locs hz1 hW hS => ?_)
    obtain ⟨I9, eI9⟩ : ∃ K : z_I, K = z_up I6 26 4 x8 := ⟨_, rfl⟩
    rw [← eI9] at hW
    have f10 := z_fr_k f7 (show z_wr L_X0_addLent 26 4 = true by decide) eI9
    refine lv_iconst (v := 1) hx hb dX0_addLent_42 (by decide) ?_
    exact z_zret hx hb hr (by decide) hK hS (Nat.le_of_ble_eq_true rfl) (Nat.le_of_ble_eq_true rfl) hlocks dX0_addLent_43 (shC c, ad, I9, JX, PC c ad) hW ⟨I9, rfl, (by show 0 ≤ (I9 26 4).toInt ∧ (I9 26 4).toInt ≤ 512; rw [eI9, z_up_s]; omega), f10, Or.inl rfl⟩
  · have g11 := z_f_nlt rfl z_l512 c2
    refine lv_iconst (v := 0) hx hb dX0_addLent_10 (by decide) ?_
    exact z_zret hx hb hr (by decide) hK hS (Nat.le_of_ble_eq_true rfl) (Nat.le_of_ble_eq_true rfl) hlocks dX0_addLent_11 (shC c, ad, I, JX, PC c ad) hW ⟨I, rfl, (by show 0 ≤ (I 26 4).toInt ∧ (I 26 4).toInt ≤ 512; exact hC), z_fr_0, Or.inr rfl⟩
theorem zj_X0_ownerOf_X0 : ∀ w ∈ wsX00, w ∈ wsX0_ownerOf := fun w h => (List.mem_cons_of_mem _ (List.mem_append_right _ h))
set_option maxHeartbeats 8000000 in
set_option maxRecDepth 100000 in
theorem sx_X0_ownerOf (l : Launch) (G : z_G) (ad : Nat → Nat) (c : z_C) (I : z_I) (hC : z_iC I) (a1 : Int32) : z_M l yX0_ownerOf wsX0_ownerOf { frames := 2, cells := 0, slots := 0, locals := 34 } [.ref (ad 26), .int a1] G (shC c, ad, I, JX, PC c ad) (fun r u1 => u1 = (shC c, ad, I, JX, PC c ad)) 0 0 := by
  intro sz
  refine z_headQ (cc := cX0_ownerOf) (maxL := 3) (ret := (some .int)) (by decide) rfl (Nat.le_of_ble_eq_true rfl) ?_
  intro p e s m below meth c0 ls hIn hK hsz hW hl
  obtain ⟨hx, hb, hr, hml, hown, hts, hlocks, hname⟩ := hIn
  subst hsz
  have hown : s.vm.findClass RX0 = some m.cls := hown
  have hA : ∀ q : Nat, s.heap.size ≤ q → z_A (shC c, ad, I, JX, PC c ad) s.heap.size q := fun q h => Or.inr h
  generalize hAe : z_A (shC c, ad, I, JX, PC c ad) s.heap.size = A at *
  have hS : va_S A s.heap s.heap [] := va_S.rf
  have hl : lv_has ls 3 [(0, .ref (ad 26)), (1, .int a1)] := hl
  refine lv_aload_n hx hb dX0_ownerOf_0 rfl (lv_at hl 0 rfl) ?_
  refine lv_iload_n hx hb dX0_ownerOf_1 rfl (lv_at hl 1 rfl) ?_
  refine z_ci hW hS hA (va_runV (As := [.int a1]) (rest := []) ⟨hx, hb, hml, hown, hts⟩ (sx_X0_has l G ad c I  a1 _) (cwV 1 hts gX0_ownerOf_X0_has rfl rfl rfl hy_X0_has ⟨Nat.le_of_ble_eq_true rfl, Nat.le_of_ble_eq_true rfl⟩) (z_preV (i := 26) hK hW rfl rfl) rfl rfl hl.1 rfl (lv_room (Nat.le_of_ble_eq_true rfl)) dX0_ownerOf_2 ⟨Nat.le_of_ble_eq_true rfl, Nat.le_of_ble_eq_true rfl⟩) (fun r u1 H locs hp hW hS => ?_)
  obtain ⟨e9, hp⟩ := hp
  rw [e9] at hW
  rcases hp with rfl | rfl
  · refine lv_if_ne (tgt := 10) hx hb dX0_ownerOf_5 (by decide) (fun c1 => ?_) (fun c1 => absurd c1 (by decide))
    refine lv_aload_n hx hb dX0_ownerOf_10 rfl (lv_at hl 0 rfl) ?_
    refine lv_iload_n hx hb dX0_ownerOf_11 rfl (lv_at hl 1 rfl) ?_
    refine z_ci hW hS hA (va_runV (As := [.int a1]) (rest := []) ⟨hx, hb, hml, hown, hts⟩ (sx_X0_lentAs l G ad c I (by show 0 ≤ (I 26 4).toInt ∧ (I 26 4).toInt ≤ 512; exact hC) a1 _) (cwV 1 hts gX0_ownerOf_X0_lentAs rfl rfl rfl hy_X0_lentAs ⟨Nat.le_of_ble_eq_true rfl, Nat.le_of_ble_eq_true rfl⟩) (z_preV (i := 26) hK hW rfl rfl) rfl rfl hl.1 rfl (lv_room (Nat.le_of_ble_eq_true rfl)) dX0_ownerOf_12 ⟨Nat.le_of_ble_eq_true rfl, Nat.le_of_ble_eq_true rfl⟩) (fun r u1 H locs hp hW hS => ?_)
    rw [hp] at hW
    refine lv_topi (fun x2 ex2 => ?_)
    refine lv_istore_n (lv' := [(2, .int x2), (0, .ref (ad 26)), (1, .int a1)]) hx hb dX0_ownerOf_15 rfl hl (by decide) rfl (fun ls hl => ?_)
    refine lv_iload_n hx hb dX0_ownerOf_16 rfl (lv_at hl 0 rfl) ?_
    refine lv_if_lt (tgt := 36) hx hb dX0_ownerOf_17 (by decide) (fun c3 => ?_) (fun c3 => ?_)
    · have g4 := z_f_lt rfl z_l0 c3
      refine lv_iload_n hx hb dX0_ownerOf_36 rfl (lv_at hl 2 rfl) ?_
      refine z_ci hW hS hA (va_runS (As := [.int a1]) (rest := []) ⟨hx, hb, hml, hown, hts⟩ (sx_X0_holderOf l G ad c I  a1 _) (va_cwS 1 hts gX0_ownerOf_X0_holderOf rfl rfl rfl hy_X0_holderOf.2 ⟨Nat.le_of_ble_eq_true rfl, Nat.le_of_ble_eq_true rfl⟩) (z_preS hK hW) rfl rfl hl.1 rfl (lv_room (Nat.le_of_ble_eq_true rfl)) dX0_ownerOf_37 ⟨Nat.le_of_ble_eq_true rfl, Nat.le_of_ble_eq_true rfl⟩) (fun r u1 H locs hp hW hS => ?_)
      rw [hp] at hW
      refine lv_topi (fun x5 ex5 => ?_)
      exact z_iret hx hb hr hK hS (Nat.le_of_ble_eq_true rfl) (Nat.le_of_ble_eq_true rfl) hlocks dX0_ownerOf_40 (shC c, ad, I, JX, PC c ad) hW rfl
    · have g6 := z_f_nlt rfl z_l0 c3
      refine lv_iload_n hx hb dX0_ownerOf_20 rfl (lv_at hl 0 rfl) ?_
      refine lv_sipush (v := 512) hx hb dX0_ownerOf_21 (by decide) ?_
      refine lv_icmp_ge (tgt := 36) hx hb dX0_ownerOf_24 (by decide) (fun c7 => ?_) (fun c7 => ?_)
      · have g8 := z_f_ge rfl z_l512 c7
        refine lv_iload_n hx hb dX0_ownerOf_36 rfl (lv_at hl 2 rfl) ?_
        refine z_ci hW hS hA (va_runS (As := [.int a1]) (rest := []) ⟨hx, hb, hml, hown, hts⟩ (sx_X0_holderOf l G ad c I  a1 _) (va_cwS 1 hts gX0_ownerOf_X0_holderOf rfl rfl rfl hy_X0_holderOf.2 ⟨Nat.le_of_ble_eq_true rfl, Nat.le_of_ble_eq_true rfl⟩) (z_preS hK hW) rfl rfl hl.1 rfl (lv_room (Nat.le_of_ble_eq_true rfl)) dX0_ownerOf_37 ⟨Nat.le_of_ble_eq_true rfl, Nat.le_of_ble_eq_true rfl⟩) (fun r u1 H locs hp hW hS => ?_)
        rw [hp] at hW
        refine lv_topi (fun x9 ex9 => ?_)
        exact z_iret hx hb hr hK hS (Nat.le_of_ble_eq_true rfl) (Nat.le_of_ble_eq_true rfl) hlocks dX0_ownerOf_40 (shC c, ad, I, JX, PC c ad) hW rfl
      · have g10 := z_f_nge rfl z_l512 c7
        refine lv_aload_n hx hb dX0_ownerOf_27 rfl (lv_at hl 1 rfl) ?_
        refine z_get (T := TX0) (N := 5) (ci := 0) (i := 26) (v := .ref (ad 29)) hx hb hts zj_X0_ownerOf_X0 hown hK hW rfl rfl 2 (by decide) (hts (.fieldLink RX0 18 "PetrolBoard$Coupons" "lentTo" "[I") (me_s (me_l (List.mem_of_getElem? (i := 0) rfl)))) (fun _ h => h) rfl dX0_ownerOf_28 ?_
        refine lv_iload_n hx hb dX0_ownerOf_31 rfl (lv_at hl 0 rfl) ?_
        refine z_iald (i := 29) hx hb hK hW rfl (z_ix rfl (by omega) (by omega)) dX0_ownerOf_32 ?_
        refine lv_topi (fun x11 ex11 => ?_)
        refine lv_goto (tgt := 40) hx hb dX0_ownerOf_33 (by decide) ?_
        exact z_iret hx hb hr hK hS (Nat.le_of_ble_eq_true rfl) (Nat.le_of_ble_eq_true rfl) hlocks dX0_ownerOf_40 (shC c, ad, I, JX, PC c ad) hW rfl
  · refine lv_if_ne (tgt := 10) hx hb dX0_ownerOf_5 (by decide) (fun c12 => absurd (by decide) c12) (fun c12 => ?_)
    refine lv_iconst (v := (-1)) hx hb dX0_ownerOf_8 (by decide) ?_
    exact z_iret hx hb hr hK hS (Nat.le_of_ble_eq_true rfl) (Nat.le_of_ble_eq_true rfl) hlocks dX0_ownerOf_9 (shC c, ad, I, JX, PC c ad) hW rfl
theorem zj_X8_has_X8 : ∀ w ∈ wsX80, w ∈ wsX8_has := fun w h => (List.mem_cons_of_mem _ (List.mem_append_right _ h))
set_option maxHeartbeats 8000000 in
set_option maxRecDepth 100000 in
theorem sx_X8_has (l : Launch) (G : z_G) (ad : Nat → Nat) (c : z_C) (I : z_I) (hP : z_iP I) (a1 : Int32) : z_M l yX8_has wsX8_has { frames := 1, cells := 0, slots := 0, locals := 12 } [.ref (ad 30), .int a1] G (shC c, ad, I, JX, PC c ad) (fun r u1 => u1 = (shC c, ad, I, JX, PC c ad) ∧ (r = 1 ∧ 0 ≤ a1.toInt ∧ a1.toInt ≤ 299 ∨ r = 0)) 0 0 := by
  intro sz
  refine z_headQ (cc := cX8_has) (maxL := 2) (ret := (some .boolean)) (by decide) rfl (Nat.le_of_ble_eq_true rfl) ?_
  intro p e s m below meth c0 ls hIn hK hsz hW hl
  obtain ⟨hx, hb, hr, hml, hown, hts, hlocks, hname⟩ := hIn
  subst hsz
  have hown : s.vm.findClass RX8 = some m.cls := hown
  have hA : ∀ q : Nat, s.heap.size ≤ q → z_A (shC c, ad, I, JX, PC c ad) s.heap.size q := fun q h => Or.inr h
  generalize hAe : z_A (shC c, ad, I, JX, PC c ad) s.heap.size = A at *
  have hS : va_S A s.heap s.heap [] := va_S.rf
  have hl : lv_has ls 2 [(0, .ref (ad 30)), (1, .int a1)] := hl
  refine lv_iload_n hx hb dX8_has_0 rfl (lv_at hl 1 rfl) ?_
  refine lv_if_lt (tgt := 23) hx hb dX8_has_1 (by decide) (fun c1 => ?_) (fun c1 => ?_)
  · have g2 := z_f_lt rfl z_l0 c1
    refine lv_iconst (v := 0) hx hb dX8_has_23 (by decide) ?_
    exact z_zret hx hb hr (by decide) hK hS (Nat.le_of_ble_eq_true rfl) (Nat.le_of_ble_eq_true rfl) hlocks dX8_has_24 (shC c, ad, I, JX, PC c ad) hW ⟨rfl, Or.inr rfl⟩
  · have g3 := z_f_nlt rfl z_l0 c1
    refine lv_iload_n hx hb dX8_has_4 rfl (lv_at hl 1 rfl) ?_
    refine lv_aload_n hx hb dX8_has_5 rfl (lv_at hl 0 rfl) ?_
    have r4 : 0 ≤ (I 30 8).toInt ∧ (I 30 8).toInt ≤ 300 := hP
    refine z_get (T := TX8) (N := 9) (ci := 8) (i := 30) (v := .int (I 30 8)) hx hb hts zj_X8_has_X8 hown hK hW rfl rfl 8 (by decide) (hts (.fieldLink RX8 36 "PetrolBoard$Pours" "number" "I") (me_s (me_l (List.mem_of_getElem? (i := 0) rfl)))) (fun _ h => h) rfl dX8_has_6 ?_
    refine lv_icmp_ge (tgt := 23) hx hb dX8_has_9 (by decide) (fun c5 => ?_) (fun c5 => ?_)
    · have g6 := z_f_ge rfl rfl c5
      refine lv_iconst (v := 0) hx hb dX8_has_23 (by decide) ?_
      exact z_zret hx hb hr (by decide) hK hS (Nat.le_of_ble_eq_true rfl) (Nat.le_of_ble_eq_true rfl) hlocks dX8_has_24 (shC c, ad, I, JX, PC c ad) hW ⟨rfl, Or.inr rfl⟩
    · have g7 := z_f_nge rfl rfl c5
      refine lv_iload_n hx hb dX8_has_12 rfl (lv_at hl 1 rfl) ?_
      refine lv_sipush (v := 300) hx hb dX8_has_13 (by decide) ?_
      refine lv_icmp_ge (tgt := 23) hx hb dX8_has_16 (by decide) (fun c8 => (by have g := z_f_ge rfl z_l300 c8; omega)) (fun c8 => ?_)
      have g9 := z_f_nge rfl z_l300 c8
      refine lv_iconst (v := 1) hx hb dX8_has_19 (by decide) ?_
      refine lv_goto (tgt := 24) hx hb dX8_has_20 (by decide) ?_
      exact z_zret hx hb hr (by decide) hK hS (Nat.le_of_ble_eq_true rfl) (Nat.le_of_ble_eq_true rfl) hlocks dX8_has_24 (shC c, ad, I, JX, PC c ad) hW ⟨rfl, Or.inl ⟨rfl, (by omega), (by omega)⟩⟩
noncomputable def L_X8_add : z_L := [(31, 999), (32, 999), (33, 999), (34, 999), (36, 999), (30, 8)]
theorem zj_X8_add_X8 : ∀ w ∈ wsX80, w ∈ wsX8_add := fun w h => (List.mem_cons_of_mem _ (List.mem_append_right _ h))
set_option maxHeartbeats 8000000 in
set_option maxRecDepth 100000 in
theorem sx_X8_add (l : Launch) (G : z_G) (ad : Nat → Nat) (c : z_C) (I : z_I) (hP : z_iP I) (a1 : Int32) (a2 : Int32) (a3 : Int32) (a4 : Int32) : z_M l yX8_add wsX8_add { frames := 1, cells := 0, slots := 0, locals := 12 } [.ref (ad 30), .int a1, .int a2, .int a3, .int a4] G (shC c, ad, I, JX, PC c ad) (fun r u1 => ∃ I1 : z_I, u1 = (shC c, ad, I1, JX, PC c ad) ∧ z_iP I1 ∧ z_fr L_X8_add I1 I) 0 0 := by
  intro sz
  refine z_headQ (cc := cX8_add) (maxL := 5) (ret := (some .int)) (by decide) rfl (Nat.le_of_ble_eq_true rfl) ?_
  intro p e s m below meth c0 ls hIn hK hsz hW hl
  obtain ⟨hx, hb, hr, hml, hown, hts, hlocks, hname⟩ := hIn
  subst hsz
  have hown : s.vm.findClass RX8 = some m.cls := hown
  have hA : ∀ q : Nat, s.heap.size ≤ q → z_A (shC c, ad, I, JX, PC c ad) s.heap.size q := fun q h => Or.inr h
  generalize hAe : z_A (shC c, ad, I, JX, PC c ad) s.heap.size = A at *
  have hS : va_S A s.heap s.heap [] := va_S.rf
  have hl : lv_has ls 5 [(0, .ref (ad 30)), (1, .int a1), (2, .int a2), (3, .int a3), (4, .int a4)] := hl
  refine lv_aload_n hx hb dX8_add_0 rfl (lv_at hl 0 rfl) ?_
  have r1 : 0 ≤ (I 30 8).toInt ∧ (I 30 8).toInt ≤ 300 := hP
  refine z_get (T := TX8) (N := 9) (ci := 8) (i := 30) (v := .int (I 30 8)) hx hb hts zj_X8_add_X8 hown hK hW rfl rfl 8 (by decide) (hts (.fieldLink RX8 36 "PetrolBoard$Pours" "number" "I") (me_s (me_l (List.mem_of_getElem? (i := 0) rfl)))) (fun _ h => h) rfl dX8_add_1 ?_
  refine lv_sipush (v := 300) hx hb dX8_add_4 (by decide) ?_
  refine lv_icmp_lt (tgt := 12) hx hb dX8_add_7 (by decide) (fun c2 => ?_) (fun c2 => ?_)
  · have g3 := z_f_lt rfl z_l300 c2
    refine lv_aload_n hx hb dX8_add_12 rfl (lv_at hl 0 rfl) ?_
    refine z_get (T := TX8) (N := 9) (ci := 8) (i := 30) (v := .ref (ad 31)) hx hb hts zj_X8_add_X8 hown hK hW rfl rfl 0 (by decide) (hts (.fieldLink RX8 9 "PetrolBoard$Pours" "station" "[I") (me_s (me_l (List.mem_of_getElem? (i := 1) rfl)))) (fun _ h => h) rfl dX8_add_13 ?_
    refine lv_aload_n hx hb dX8_add_16 rfl (lv_at hl 0 rfl) ?_
    refine z_get (T := TX8) (N := 9) (ci := 8) (i := 30) (v := .int (I 30 8)) hx hb hts zj_X8_add_X8 hown hK hW rfl rfl 8 (by decide) (hts (.fieldLink RX8 36 "PetrolBoard$Pours" "number" "I") (me_s (me_l (List.mem_of_getElem? (i := 0) rfl)))) (fun _ h => h) rfl dX8_add_17 ?_
    refine lv_iload_n hx hb dX8_add_20 rfl (lv_at hl 1 rfl) ?_
    refine z_iast (i := 31) hx hb hK hW hS rfl (z_ix rfl (by omega) (by omega)) dX8_add_21 (fun H locs hz1 hW hS => ?_)
    obtain ⟨I4, eI4⟩ : ∃ K : z_I, K = z_up I 31 (I 30 8).toNatClampNeg a1 := ⟨_, rfl⟩
    rw [← eI4] at hW
    have f5 := z_fr_a z_fr_0 (show z_wa L_X8_add 31 = true by decide) eI4
    refine lv_aload_n hx hb dX8_add_22 rfl (lv_at hl 0 rfl) ?_
    refine z_get (T := TX8) (N := 9) (ci := 8) (i := 30) (v := .ref (ad 32)) hx hb hts zj_X8_add_X8 hown hK hW rfl rfl 1 (by decide) (hts (.fieldLink RX8 15 "PetrolBoard$Pours" "holder" "[I") (me_s (me_l (List.mem_of_getElem? (i := 2) rfl)))) (fun _ h => h) rfl dX8_add_23 ?_
    refine lv_aload_n hx hb dX8_add_26 rfl (lv_at hl 0 rfl) ?_
    refine z_get (T := TX8) (N := 9) (ci := 8) (i := 30) (v := .int (I 30 8)) hx hb hts zj_X8_add_X8 hown hK hW rfl rfl 8 (by decide) (hts (.fieldLink RX8 36 "PetrolBoard$Pours" "number" "I") (me_s (me_l (List.mem_of_getElem? (i := 0) rfl)))) (fun _ h => h) (congrArg Value.int (by rw [eI4, z_up_n (by decide)])) dX8_add_27 ?_
    refine lv_iload_n hx hb dX8_add_30 rfl (lv_at hl 2 rfl) ?_
    refine z_iast (i := 32) hx hb hK hW hS rfl (z_ix rfl (by omega) (by omega)) dX8_add_31 (fun H locs hz1 hW hS => ?_)
    obtain ⟨I6, eI6⟩ : ∃ K : z_I, K = z_up I4 32 (I 30 8).toNatClampNeg a2 := ⟨_, rfl⟩
    rw [← eI6] at hW
    have f7 := z_fr_a f5 (show z_wa L_X8_add 32 = true by decide) eI6
    refine lv_aload_n hx hb dX8_add_32 rfl (lv_at hl 0 rfl) ?_
    refine z_get (T := TX8) (N := 9) (ci := 8) (i := 30) (v := .ref (ad 33)) hx hb hts zj_X8_add_X8 hown hK hW rfl rfl 2 (by decide) (hts (.fieldLink RX8 18 "PetrolBoard$Pours" "coupon" "[I") (me_s (me_l (List.mem_of_getElem? (i := 3) rfl)))) (fun _ h => h) rfl dX8_add_33 ?_
    refine lv_aload_n hx hb dX8_add_36 rfl (lv_at hl 0 rfl) ?_
    refine z_get (T := TX8) (N := 9) (ci := 8) (i := 30) (v := .int (I 30 8)) hx hb hts zj_X8_add_X8 hown hK hW rfl rfl 8 (by decide) (hts (.fieldLink RX8 36 "PetrolBoard$Pours" "number" "I") (me_s (me_l (List.mem_of_getElem? (i := 0) rfl)))) (fun _ h => h) (congrArg Value.int (by rw [eI6, z_up_n (by decide), eI4, z_up_n (by decide)])) dX8_add_37 ?_
    refine lv_iload_n hx hb dX8_add_40 rfl (lv_at hl 3 rfl) ?_
    refine z_iast (i := 33) hx hb hK hW hS rfl (z_ix rfl (by omega) (by omega)) dX8_add_41 (fun H locs hz1 hW hS => ?_)
    obtain ⟨I8, eI8⟩ : ∃ K : z_I, K = z_up I6 33 (I 30 8).toNatClampNeg a3 := ⟨_, rfl⟩
    rw [← eI8] at hW
    have f9 := z_fr_a f7 (show z_wa L_X8_add 33 = true by decide) eI8
    refine lv_aload_n hx hb dX8_add_42 rfl (lv_at hl 0 rfl) ?_
    refine z_get (T := TX8) (N := 9) (ci := 8) (i := 30) (v := .ref (ad 34)) hx hb hts zj_X8_add_X8 hown hK hW rfl rfl 3 (by decide) (hts (.fieldLink RX8 21 "PetrolBoard$Pours" "day" "[I") (me_s (me_l (List.mem_of_getElem? (i := 4) rfl)))) (fun _ h => h) rfl dX8_add_43 ?_
    refine lv_aload_n hx hb dX8_add_46 rfl (lv_at hl 0 rfl) ?_
    refine z_get (T := TX8) (N := 9) (ci := 8) (i := 30) (v := .int (I 30 8)) hx hb hts zj_X8_add_X8 hown hK hW rfl rfl 8 (by decide) (hts (.fieldLink RX8 36 "PetrolBoard$Pours" "number" "I") (me_s (me_l (List.mem_of_getElem? (i := 0) rfl)))) (fun _ h => h) (congrArg Value.int (by rw [eI8, z_up_n (by decide), eI6, z_up_n (by decide), eI4, z_up_n (by decide)])) dX8_add_47 ?_
    refine lv_iload hx hb dX8_add_50 (lv_at hl 4 rfl) ?_
    refine z_iast (i := 34) hx hb hK hW hS rfl (z_ix rfl (by omega) (by omega)) dX8_add_52 (fun H locs hz1 hW hS => ?_)
    obtain ⟨I10, eI10⟩ : ∃ K : z_I, K = z_up I8 34 (I 30 8).toNatClampNeg a4 := ⟨_, rfl⟩
    rw [← eI10] at hW
    have f11 := z_fr_a f9 (show z_wa L_X8_add 34 = true by decide) eI10
    refine lv_aload_n hx hb dX8_add_53 rfl (lv_at hl 0 rfl) ?_
    refine z_get (T := TX8) (N := 9) (ci := 8) (i := 30) (v := .ref (ad 36)) hx hb hts zj_X8_add_X8 hown hK hW rfl rfl 5 (by decide) (hts (.fieldLink RX8 27 "PetrolBoard$Pours" "verdict" "[I") (me_s (me_l (List.mem_of_getElem? (i := 5) rfl)))) (fun _ h => h) rfl dX8_add_54 ?_
    refine lv_aload_n hx hb dX8_add_57 rfl (lv_at hl 0 rfl) ?_
    refine z_get (T := TX8) (N := 9) (ci := 8) (i := 30) (v := .int (I 30 8)) hx hb hts zj_X8_add_X8 hown hK hW rfl rfl 8 (by decide) (hts (.fieldLink RX8 36 "PetrolBoard$Pours" "number" "I") (me_s (me_l (List.mem_of_getElem? (i := 0) rfl)))) (fun _ h => h) (congrArg Value.int (by rw [eI10, z_up_n (by decide), eI8, z_up_n (by decide), eI6, z_up_n (by decide), eI4, z_up_n (by decide)])) dX8_add_58 ?_
    refine lv_iconst (v := (-1)) hx hb dX8_add_61 (by decide) ?_
    refine z_iast (i := 36) hx hb hK hW hS rfl (z_ix rfl (by omega) (by omega)) dX8_add_62 (fun H locs hz1 hW hS => ?_)
    obtain ⟨I12, eI12⟩ : ∃ K : z_I, K = z_up I10 36 (I 30 8).toNatClampNeg (-1) := ⟨_, rfl⟩
    rw [← eI12] at hW
    have f13 := z_fr_a f11 (show z_wa L_X8_add 36 = true by decide) eI12
    refine lv_aload_n hx hb dX8_add_63 rfl (lv_at hl 0 rfl) ?_
    refine lv_dup hx hb dX8_add_64 rfl ?_
    refine z_get (T := TX8) (N := 9) (ci := 8) (i := 30) (v := .int (I 30 8)) hx hb hts zj_X8_add_X8 hown hK hW rfl rfl 8 (by decide) (hts (.fieldLink RX8 36 "PetrolBoard$Pours" "number" "I") (me_s (me_l (List.mem_of_getElem? (i := 0) rfl)))) (fun _ h => h) (congrArg Value.int (by rw [eI12, z_up_n (by decide), eI10, z_up_n (by decide), eI8, z_up_n (by decide), eI6, z_up_n (by decide), eI4, z_up_n (by decide)])) dX8_add_65 ?_
    refine lv_iconst (v := 1) hx hb dX8_add_68 (by decide) ?_
    refine lv_iadd hx hb dX8_add_69 ?_
    refine lv_topi (fun x14 ex14 => ?_)
    have tx14 : x14.toInt = (I 30 8).toInt + 1 := z_tadd ex14 rfl z_l1 (by omega) (by omega)
    refine z_put (T := TX8) (N := 9) (ci := 8) (i := 30) (v := .int x14) (I1 := z_up I12 30 8 x14) (J1 := JX) (P1 := PC c ad) hx hb hts zj_X8_add_X8 tyX8 tyX8_ok nmX8 hown hK hW hS rfl rfl 8 (by decide) (hts (.fieldLink RX8 36 "PetrolBoard$Pours" "number" "I") (me_s (me_l (List.mem_of_getElem? (i := 0) rfl)))) (fun _ h => h) rfl rfl rfl (by first | rfl | exact congrArg _ z_up_s) (fun a b h ty => z_vI h ty) dX8_add_70 (fun H locs hz1 hW hS => ?_)
    obtain ⟨I15, eI15⟩ : ∃ K : z_I, K = z_up I12 30 8 x14 := ⟨_, rfl⟩
    rw [← eI15] at hW
    have f16 := z_fr_k f13 (show z_wr L_X8_add 30 8 = true by decide) eI15
    refine lv_aload_n hx hb dX8_add_73 rfl (lv_at hl 0 rfl) ?_
    refine z_get (T := TX8) (N := 9) (ci := 8) (i := 30) (v := .int x14) hx hb hts zj_X8_add_X8 hown hK hW rfl rfl 8 (by decide) (hts (.fieldLink RX8 36 "PetrolBoard$Pours" "number" "I") (me_s (me_l (List.mem_of_getElem? (i := 0) rfl)))) (fun _ h => h) (congrArg Value.int (by rw [eI15, z_up_s])) dX8_add_74 ?_
    refine lv_iconst (v := 1) hx hb dX8_add_77 (by decide) ?_
    refine lv_isub hx hb dX8_add_78 ?_
    refine lv_topi (fun x17 ex17 => ?_)
    have tx17 : x17.toInt = x14.toInt - 1 := z_tsub ex17 rfl z_l1 (by omega) (by omega)
    exact z_iret hx hb hr hK hS (Nat.le_of_ble_eq_true rfl) (Nat.le_of_ble_eq_true rfl) hlocks dX8_add_79 (shC c, ad, I15, JX, PC c ad) hW ⟨I15, rfl, (by show 0 ≤ (I15 30 8).toInt ∧ (I15 30 8).toInt ≤ 300; rw [eI15, z_up_s]; omega), f16⟩
  · have g18 := z_f_nlt rfl z_l300 c2
    refine lv_iconst (v := (-1)) hx hb dX8_add_10 (by decide) ?_
    exact z_iret hx hb hr hK hS (Nat.le_of_ble_eq_true rfl) (Nat.le_of_ble_eq_true rfl) hlocks dX8_add_11 (shC c, ad, I, JX, PC c ad) hW ⟨I, rfl, (by show 0 ≤ (I 30 8).toInt ∧ (I 30 8).toInt ≤ 300; exact hP), z_fr_0⟩
theorem zj_X8_wasHandedIn_X8 : ∀ w ∈ wsX80, w ∈ wsX8_wasHandedIn := fun w h => (List.mem_cons_of_mem _ (List.mem_append_right _ h))
set_option maxHeartbeats 8000000 in
set_option maxRecDepth 100000 in
theorem sx_X8_wasHandedIn (l : Launch) (G : z_G) (ad : Nat → Nat) (c : z_C) (I : z_I) (hP : z_iP I) (a1 : Int32) : z_M l yX8_wasHandedIn wsX8_wasHandedIn { frames := 1, cells := 0, slots := 0, locals := 12 } [.ref (ad 30), .int a1] G (shC c, ad, I, JX, PC c ad) (fun r u1 => u1 = (shC c, ad, I, JX, PC c ad) ∧ (r = 1 ∨ r = 0)) 0 0 := by
  intro sz
  refine z_headQ (cc := cX8_wasHandedIn) (maxL := 3) (ret := (some .boolean)) (by decide) rfl (Nat.le_of_ble_eq_true rfl) ?_
  intro p e s m below meth c0 ls hIn hK hsz hW hl
  obtain ⟨hx, hb, hr, hml, hown, hts, hlocks, hname⟩ := hIn
  subst hsz
  have hown : s.vm.findClass RX8 = some m.cls := hown
  have hA : ∀ q : Nat, s.heap.size ≤ q → z_A (shC c, ad, I, JX, PC c ad) s.heap.size q := fun q h => Or.inr h
  generalize hAe : z_A (shC c, ad, I, JX, PC c ad) s.heap.size = A at *
  have hS : va_S A s.heap s.heap [] := va_S.rf
  have hl : lv_has ls 3 [(0, .ref (ad 30)), (1, .int a1)] := hl
  refine lv_iconst (v := 0) hx hb dX8_wasHandedIn_0 (by decide) ?_
  refine lv_istore_n (lv' := [(2, .int 0), (0, .ref (ad 30)), (1, .int a1)]) hx hb dX8_wasHandedIn_1 rfl hl (by decide) rfl (fun ls hl => ?_)
  have lp1 : ∀ (f : Nat) (y2 : Int32) (H : Heap) (locs : List Loc) (ls : Array Slot), (2147483647 < y2.toInt + (f : Int)) → (0 ≤ y2.toInt) → z_W G A (shC c, ad, I, JX, PC c ad) H → va_S A s.heap H locs → lv_has ls 3 [(2, .int y2), (0, .ref (ad 30)), (1, .int a1)] → W p l e (headSpec wsX8_wasHandedIn { frames := 1, cells := 0, slots := 0, locals := 12 }).room s m ([.ref (ad 30), .int a1] : List Value).toArray below meth c0 H locs 0 0 (MQ below (va_Qi (fun (r : Int32) (u1 : z_U) => u1 = (shC c, ad, I, JX, PC c ad) ∧ (r = 1 ∨ r = 0)) (z_B G A) A) ([.ref (ad 30), .int a1] : List Value).toArray s 0 0 A) (F0 m 2 ls []) := by
    intro f
    induction f with
    | zero => intro y2 H locs ls lp1m lp1l2 hW hS hl; exact absurd lp1m (by have := Int32.toInt_lt y2; have := Int32.le_toInt y2; omega)
    | succ f lp1ih =>
      intro y2 H locs ls lp1m lp1l2 hW hS hl
      refine lv_iload_n hx hb dX8_wasHandedIn_2 rfl (lv_at hl 0 rfl) ?_
      refine lv_aload_n hx hb dX8_wasHandedIn_3 rfl (lv_at hl 1 rfl) ?_
      have r3 : 0 ≤ (I 30 8).toInt ∧ (I 30 8).toInt ≤ 300 := hP
      refine z_get (T := TX8) (N := 9) (ci := 8) (i := 30) (v := .int (I 30 8)) hx hb hts zj_X8_wasHandedIn_X8 hown hK hW rfl rfl 8 (by decide) (hts (.fieldLink RX8 36 "PetrolBoard$Pours" "number" "I") (me_s (me_l (List.mem_of_getElem? (i := 0) rfl)))) (fun _ h => h) rfl dX8_wasHandedIn_4 ?_
      refine lv_icmp_ge (tgt := 45) hx hb dX8_wasHandedIn_7 (by decide) (fun c4 => ?_) (fun c4 => ?_)
      · have g5 := z_f_ge rfl rfl c4
        refine lv_iconst (v := 0) hx hb dX8_wasHandedIn_45 (by decide) ?_
        exact z_zret hx hb hr (by decide) hK hS (Nat.le_of_ble_eq_true rfl) (Nat.le_of_ble_eq_true rfl) hlocks dX8_wasHandedIn_46 (shC c, ad, I, JX, PC c ad) hW ⟨rfl, Or.inr rfl⟩
      · have g6 := z_f_nge rfl rfl c4
        refine lv_iload_n hx hb dX8_wasHandedIn_10 rfl (lv_at hl 0 rfl) ?_
        refine lv_sipush (v := 300) hx hb dX8_wasHandedIn_11 (by decide) ?_
        refine lv_icmp_ge (tgt := 45) hx hb dX8_wasHandedIn_14 (by decide) (fun c7 => (by have g := z_f_ge rfl z_l300 c7; omega)) (fun c7 => ?_)
        have g8 := z_f_nge rfl z_l300 c7
        refine lv_aload_n hx hb dX8_wasHandedIn_17 rfl (lv_at hl 1 rfl) ?_
        refine z_get (T := TX8) (N := 9) (ci := 8) (i := 30) (v := .ref (ad 33)) hx hb hts zj_X8_wasHandedIn_X8 hown hK hW rfl rfl 2 (by decide) (hts (.fieldLink RX8 18 "PetrolBoard$Pours" "coupon" "[I") (me_s (me_l (List.mem_of_getElem? (i := 1) rfl)))) (fun _ h => h) rfl dX8_wasHandedIn_18 ?_
        refine lv_iload_n hx hb dX8_wasHandedIn_21 rfl (lv_at hl 0 rfl) ?_
        refine z_iald (i := 33) hx hb hK hW rfl (z_ix rfl (by omega) (by omega)) dX8_wasHandedIn_22 ?_
        refine lv_topi (fun x9 ex9 => ?_)
        refine lv_iload_n hx hb dX8_wasHandedIn_23 rfl (lv_at hl 2 rfl) ?_
        refine lv_icmp_ne (tgt := 39) hx hb dX8_wasHandedIn_24 (by decide) (fun c10 => ?_) (fun c10 => ?_)
        · have g11 := z_f_ne rfl rfl c10
          obtain ⟨x12, ex12⟩ : ∃ y : Int32, y = y2 + 1 := ⟨_, rfl⟩
          have tx12 : x12.toInt = y2.toInt + 1 := z_tadd ex12 rfl z_l1 (by omega) (by omega)
          refine lv_iinc (v := x12) (lv' := [(2, .int x12), (0, .ref (ad 30)), (1, .int a1)]) hx hb dX8_wasHandedIn_39 hl (k := 0) rfl (by rw [ex12]; rfl) (by decide) rfl (fun ls hl => ?_)
          refine lv_goto (tgt := 2) hx hb dX8_wasHandedIn_42 (by decide) ?_
          exact lp1ih x12 _ _ _ (by omega) (by omega) hW hS (lv_sub hl [0, 1, 2] rfl)
        · have g13 := z_f_eq rfl rfl c10
          refine lv_aload_n hx hb dX8_wasHandedIn_27 rfl (lv_at hl 1 rfl) ?_
          refine z_get (T := TX8) (N := 9) (ci := 8) (i := 30) (v := .ref (ad 36)) hx hb hts zj_X8_wasHandedIn_X8 hown hK hW rfl rfl 5 (by decide) (hts (.fieldLink RX8 27 "PetrolBoard$Pours" "verdict" "[I") (me_s (me_l (List.mem_of_getElem? (i := 2) rfl)))) (fun _ h => h) rfl dX8_wasHandedIn_28 ?_
          refine lv_iload_n hx hb dX8_wasHandedIn_31 rfl (lv_at hl 0 rfl) ?_
          refine z_iald (i := 36) hx hb hK hW rfl (z_ix rfl (by omega) (by omega)) dX8_wasHandedIn_32 ?_
          refine lv_topi (fun x14 ex14 => ?_)
          refine lv_iconst (v := (-1)) hx hb dX8_wasHandedIn_33 (by decide) ?_
          refine lv_icmp_eq (tgt := 39) hx hb dX8_wasHandedIn_34 (by decide) (fun c15 => ?_) (fun c15 => ?_)
          · have g16 := z_f_eq rfl z_lm1 c15
            obtain ⟨x17, ex17⟩ : ∃ y : Int32, y = y2 + 1 := ⟨_, rfl⟩
            have tx17 : x17.toInt = y2.toInt + 1 := z_tadd ex17 rfl z_l1 (by omega) (by omega)
            refine lv_iinc (v := x17) (lv' := [(2, .int x17), (0, .ref (ad 30)), (1, .int a1)]) hx hb dX8_wasHandedIn_39 hl (k := 0) rfl (by rw [ex17]; rfl) (by decide) rfl (fun ls hl => ?_)
            refine lv_goto (tgt := 2) hx hb dX8_wasHandedIn_42 (by decide) ?_
            exact lp1ih x17 _ _ _ (by omega) (by omega) hW hS (lv_sub hl [0, 1, 2] rfl)
          · have g18 := z_f_ne rfl z_lm1 c15
            refine lv_iconst (v := 1) hx hb dX8_wasHandedIn_37 (by decide) ?_
            exact z_zret hx hb hr (by decide) hK hS (Nat.le_of_ble_eq_true rfl) (Nat.le_of_ble_eq_true rfl) hlocks dX8_wasHandedIn_38 (shC c, ad, I, JX, PC c ad) hW ⟨rfl, Or.inl rfl⟩
  exact lp1 4294967296 (0) _ _ _ (z_m0u _) (by rw [z_l0]; omega) hW hS (lv_sub hl [0, 1, 2] rfl)
theorem zj_X8_tell_X8 : ∀ w ∈ wsX80, w ∈ wsX8_tell := fun w h => (List.mem_cons_of_mem _ (List.mem_append_right _ h))
set_option maxHeartbeats 8000000 in
set_option maxRecDepth 100000 in
theorem sx_X8_tell (l : Launch) (G : z_G) (ad : Nat → Nat) (c : z_C) (I : z_I) (hP : z_iP I) (a1 : Int32) (a2 : Int32) : z_M l yX8_tell wsX8_tell { frames := 2, cells := 0, slots := 0, locals := 33 } [.ref (ad 30), .int a1, .int a2] G (shC c, ad, I, JX, PC c ad) (fun r u1 => u1 = (shC c, ad, I, JX, PC c ad)) 0 0 := by
  intro sz
  refine z_headQ (cc := cX8_tell) (maxL := 3) (ret := (some .int)) (by decide) rfl (Nat.le_of_ble_eq_true rfl) ?_
  intro p e s m below meth c0 ls hIn hK hsz hW hl
  obtain ⟨hx, hb, hr, hml, hown, hts, hlocks, hname⟩ := hIn
  subst hsz
  have hown : s.vm.findClass RX8 = some m.cls := hown
  have hA : ∀ q : Nat, s.heap.size ≤ q → z_A (shC c, ad, I, JX, PC c ad) s.heap.size q := fun q h => Or.inr h
  generalize hAe : z_A (shC c, ad, I, JX, PC c ad) s.heap.size = A at *
  have hS : va_S A s.heap s.heap [] := va_S.rf
  have hl : lv_has ls 3 [(0, .ref (ad 30)), (1, .int a1), (2, .int a2)] := hl
  refine lv_aload_n hx hb dX8_tell_0 rfl (lv_at hl 0 rfl) ?_
  refine lv_iload_n hx hb dX8_tell_1 rfl (lv_at hl 1 rfl) ?_
  refine z_ci hW hS hA (va_runV (As := [.int a1]) (rest := []) ⟨hx, hb, hml, hown, hts⟩ (sx_X8_has l G ad c I (by show 0 ≤ (I 30 8).toInt ∧ (I 30 8).toInt ≤ 300; exact hP) a1 _) (cwV 1 hts gX8_tell_X8_has rfl rfl rfl hy_X8_has ⟨Nat.le_of_ble_eq_true rfl, Nat.le_of_ble_eq_true rfl⟩) (z_preV (i := 30) hK hW rfl rfl) rfl rfl hl.1 rfl (lv_room (Nat.le_of_ble_eq_true rfl)) dX8_tell_2 ⟨Nat.le_of_ble_eq_true rfl, Nat.le_of_ble_eq_true rfl⟩) (fun r u1 H locs hp hW hS => ?_)
  obtain ⟨e9, hp⟩ := hp
  rw [e9] at hW
  rcases hp with ⟨rfl, h1, h2⟩ | rfl
  · refine lv_if_ne (tgt := 10) hx hb dX8_tell_5 (by decide) (fun c3 => ?_) (fun c3 => absurd c3 (by decide))
    refine lv_iload_n hx hb dX8_tell_10 rfl (lv_at hl 2 rfl) ?_
    by_cases q4 : a2 = 0
    · refine lv_tableIn (tgt := 52) hx hb dX8_tell_11 (by rw [q4]; decide) (by rw [q4]; decide) (by rw [q4]; rfl) (by decide) ?_
      refine lv_aload_n hx hb dX8_tell_52 rfl (lv_at hl 0 rfl) ?_
      refine z_get (T := TX8) (N := 9) (ci := 8) (i := 30) (v := .ref (ad 31)) hx hb hts zj_X8_tell_X8 hown hK hW rfl rfl 0 (by decide) (hts (.fieldLink RX8 9 "PetrolBoard$Pours" "station" "[I") (me_s (me_l (List.mem_of_getElem? (i := 0) rfl)))) (fun _ h => h) rfl dX8_tell_53 ?_
      refine lv_iload_n hx hb dX8_tell_56 rfl (lv_at hl 1 rfl) ?_
      refine z_iald (i := 31) hx hb hK hW rfl (z_ix rfl (by omega) (by omega)) dX8_tell_57 ?_
      refine lv_topi (fun x5 ex5 => ?_)
      exact z_iret hx hb hr hK hS (Nat.le_of_ble_eq_true rfl) (Nat.le_of_ble_eq_true rfl) hlocks dX8_tell_58 (shC c, ad, I, JX, PC c ad) hW rfl
    by_cases q6 : a2 = 1
    · refine lv_tableIn (tgt := 59) hx hb dX8_tell_11 (by rw [q6]; decide) (by rw [q6]; decide) (by rw [q6]; rfl) (by decide) ?_
      refine lv_aload_n hx hb dX8_tell_59 rfl (lv_at hl 0 rfl) ?_
      refine z_get (T := TX8) (N := 9) (ci := 8) (i := 30) (v := .ref (ad 32)) hx hb hts zj_X8_tell_X8 hown hK hW rfl rfl 1 (by decide) (hts (.fieldLink RX8 15 "PetrolBoard$Pours" "holder" "[I") (me_s (me_l (List.mem_of_getElem? (i := 1) rfl)))) (fun _ h => h) rfl dX8_tell_60 ?_
      refine lv_iload_n hx hb dX8_tell_63 rfl (lv_at hl 1 rfl) ?_
      refine z_iald (i := 32) hx hb hK hW rfl (z_ix rfl (by omega) (by omega)) dX8_tell_64 ?_
      refine lv_topi (fun x7 ex7 => ?_)
      exact z_iret hx hb hr hK hS (Nat.le_of_ble_eq_true rfl) (Nat.le_of_ble_eq_true rfl) hlocks dX8_tell_65 (shC c, ad, I, JX, PC c ad) hW rfl
    by_cases q8 : a2 = 2
    · refine lv_tableIn (tgt := 66) hx hb dX8_tell_11 (by rw [q8]; decide) (by rw [q8]; decide) (by rw [q8]; rfl) (by decide) ?_
      refine lv_aload_n hx hb dX8_tell_66 rfl (lv_at hl 0 rfl) ?_
      refine z_get (T := TX8) (N := 9) (ci := 8) (i := 30) (v := .ref (ad 33)) hx hb hts zj_X8_tell_X8 hown hK hW rfl rfl 2 (by decide) (hts (.fieldLink RX8 18 "PetrolBoard$Pours" "coupon" "[I") (me_s (me_l (List.mem_of_getElem? (i := 2) rfl)))) (fun _ h => h) rfl dX8_tell_67 ?_
      refine lv_iload_n hx hb dX8_tell_70 rfl (lv_at hl 1 rfl) ?_
      refine z_iald (i := 33) hx hb hK hW rfl (z_ix rfl (by omega) (by omega)) dX8_tell_71 ?_
      refine lv_topi (fun x9 ex9 => ?_)
      exact z_iret hx hb hr hK hS (Nat.le_of_ble_eq_true rfl) (Nat.le_of_ble_eq_true rfl) hlocks dX8_tell_72 (shC c, ad, I, JX, PC c ad) hW rfl
    by_cases q10 : a2 = 3
    · refine lv_tableIn (tgt := 73) hx hb dX8_tell_11 (by rw [q10]; decide) (by rw [q10]; decide) (by rw [q10]; rfl) (by decide) ?_
      refine lv_aload_n hx hb dX8_tell_73 rfl (lv_at hl 0 rfl) ?_
      refine z_get (T := TX8) (N := 9) (ci := 8) (i := 30) (v := .ref (ad 34)) hx hb hts zj_X8_tell_X8 hown hK hW rfl rfl 3 (by decide) (hts (.fieldLink RX8 21 "PetrolBoard$Pours" "day" "[I") (me_s (me_l (List.mem_of_getElem? (i := 3) rfl)))) (fun _ h => h) rfl dX8_tell_74 ?_
      refine lv_iload_n hx hb dX8_tell_77 rfl (lv_at hl 1 rfl) ?_
      refine z_iald (i := 34) hx hb hK hW rfl (z_ix rfl (by omega) (by omega)) dX8_tell_78 ?_
      refine lv_topi (fun x11 ex11 => ?_)
      exact z_iret hx hb hr hK hS (Nat.le_of_ble_eq_true rfl) (Nat.le_of_ble_eq_true rfl) hlocks dX8_tell_79 (shC c, ad, I, JX, PC c ad) hW rfl
    by_cases q12 : a2 = 4
    · refine lv_tableIn (tgt := 80) hx hb dX8_tell_11 (by rw [q12]; decide) (by rw [q12]; decide) (by rw [q12]; rfl) (by decide) ?_
      refine lv_aload_n hx hb dX8_tell_80 rfl (lv_at hl 0 rfl) ?_
      refine z_get (T := TX8) (N := 9) (ci := 8) (i := 30) (v := .ref (ad 35)) hx hb hts zj_X8_tell_X8 hown hK hW rfl rfl 4 (by decide) (hts (.fieldLink RX8 24 "PetrolBoard$Pours" "tenths" "[I") (me_s (me_l (List.mem_of_getElem? (i := 4) rfl)))) (fun _ h => h) rfl dX8_tell_81 ?_
      refine lv_iload_n hx hb dX8_tell_84 rfl (lv_at hl 1 rfl) ?_
      refine z_iald (i := 35) hx hb hK hW rfl (z_ix rfl (by omega) (by omega)) dX8_tell_85 ?_
      refine lv_topi (fun x13 ex13 => ?_)
      exact z_iret hx hb hr hK hS (Nat.le_of_ble_eq_true rfl) (Nat.le_of_ble_eq_true rfl) hlocks dX8_tell_86 (shC c, ad, I, JX, PC c ad) hW rfl
    by_cases q14 : a2 = 5
    · refine lv_tableIn (tgt := 87) hx hb dX8_tell_11 (by rw [q14]; decide) (by rw [q14]; decide) (by rw [q14]; rfl) (by decide) ?_
      refine lv_aload_n hx hb dX8_tell_87 rfl (lv_at hl 0 rfl) ?_
      refine z_get (T := TX8) (N := 9) (ci := 8) (i := 30) (v := .ref (ad 36)) hx hb hts zj_X8_tell_X8 hown hK hW rfl rfl 5 (by decide) (hts (.fieldLink RX8 27 "PetrolBoard$Pours" "verdict" "[I") (me_s (me_l (List.mem_of_getElem? (i := 5) rfl)))) (fun _ h => h) rfl dX8_tell_88 ?_
      refine lv_iload_n hx hb dX8_tell_91 rfl (lv_at hl 1 rfl) ?_
      refine z_iald (i := 36) hx hb hK hW rfl (z_ix rfl (by omega) (by omega)) dX8_tell_92 ?_
      refine lv_topi (fun x15 ex15 => ?_)
      exact z_iret hx hb hr hK hS (Nat.le_of_ble_eq_true rfl) (Nat.le_of_ble_eq_true rfl) hlocks dX8_tell_93 (shC c, ad, I, JX, PC c ad) hW rfl
    by_cases q16 : a2 = 6
    · refine lv_tableIn (tgt := 94) hx hb dX8_tell_11 (by rw [q16]; decide) (by rw [q16]; decide) (by rw [q16]; rfl) (by decide) ?_
      refine lv_aload_n hx hb dX8_tell_94 rfl (lv_at hl 0 rfl) ?_
      refine z_get (T := TX8) (N := 9) (ci := 8) (i := 30) (v := .ref (ad 37)) hx hb hts zj_X8_tell_X8 hown hK hW rfl rfl 6 (by decide) (hts (.fieldLink RX8 30 "PetrolBoard$Pours" "dyed" "[I") (me_s (me_l (List.mem_of_getElem? (i := 6) rfl)))) (fun _ h => h) rfl dX8_tell_95 ?_
      refine lv_iload_n hx hb dX8_tell_98 rfl (lv_at hl 1 rfl) ?_
      refine z_iald (i := 37) hx hb hK hW rfl (z_ix rfl (by omega) (by omega)) dX8_tell_99 ?_
      refine lv_topi (fun x17 ex17 => ?_)
      exact z_iret hx hb hr hK hS (Nat.le_of_ble_eq_true rfl) (Nat.le_of_ble_eq_true rfl) hlocks dX8_tell_100 (shC c, ad, I, JX, PC c ad) hW rfl
    have q4 := z_f_ne rfl z_l0 q4
    have q6 := z_f_ne rfl z_l1 q6
    have q8 := z_f_ne rfl z_l2 q8
    have q10 := z_f_ne rfl z_l3 q10
    have q12 := z_f_ne rfl z_l4 q12
    have q14 := z_f_ne rfl z_l5 q14
    have q16 := z_f_ne rfl z_l6 q16
    refine lv_tableOut (tgt := 101) hx hb dX8_tell_11 (by omega) (by decide) ?_
    refine lv_iconst (v := (-1)) hx hb dX8_tell_101 (by decide) ?_
    exact z_iret hx hb hr hK hS (Nat.le_of_ble_eq_true rfl) (Nat.le_of_ble_eq_true rfl) hlocks dX8_tell_102 (shC c, ad, I, JX, PC c ad) hW rfl
  · refine lv_if_ne (tgt := 10) hx hb dX8_tell_5 (by decide) (fun c18 => absurd (by decide) c18) (fun c18 => ?_)
    refine lv_iconst (v := (-1)) hx hb dX8_tell_8 (by decide) ?_
    exact z_iret hx hb hr hK hS (Nat.le_of_ble_eq_true rfl) (Nat.le_of_ble_eq_true rfl) hlocks dX8_tell_9 (shC c, ad, I, JX, PC c ad) hW rfl
theorem zj_X8_lastWasDyed_X8 : ∀ w ∈ wsX80, w ∈ wsX8_lastWasDyed := fun w h => (List.mem_cons_of_mem _ (List.mem_append_right _ h))
set_option maxHeartbeats 8000000 in
set_option maxRecDepth 100000 in
theorem sx_X8_lastWasDyed (l : Launch) (G : z_G) (ad : Nat → Nat) (c : z_C) (I : z_I) (hP : z_iP I) (a1 : Int32) : z_M l yX8_lastWasDyed wsX8_lastWasDyed { frames := 1, cells := 0, slots := 0, locals := 40 } [.ref (ad 30), .int a1] G (shC c, ad, I, JX, PC c ad) (fun r u1 => u1 = (shC c, ad, I, JX, PC c ad) ∧ (r = 1 ∨ r = 0)) 0 0 := by
  intro sz
  refine z_headQ (cc := cX8_lastWasDyed) (maxL := 3) (ret := (some .boolean)) (by decide) rfl (Nat.le_of_ble_eq_true rfl) ?_
  intro p e s m below meth c0 ls hIn hK hsz hW hl
  obtain ⟨hx, hb, hr, hml, hown, hts, hlocks, hname⟩ := hIn
  subst hsz
  have hown : s.vm.findClass RX8 = some m.cls := hown
  have hA : ∀ q : Nat, s.heap.size ≤ q → z_A (shC c, ad, I, JX, PC c ad) s.heap.size q := fun q h => Or.inr h
  generalize hAe : z_A (shC c, ad, I, JX, PC c ad) s.heap.size = A at *
  have hS : va_S A s.heap s.heap [] := va_S.rf
  have hl : lv_has ls 3 [(0, .ref (ad 30)), (1, .int a1)] := hl
  refine lv_aload_n hx hb dX8_lastWasDyed_0 rfl (lv_at hl 0 rfl) ?_
  have r1 : 0 ≤ (I 30 8).toInt ∧ (I 30 8).toInt ≤ 300 := hP
  refine z_get (T := TX8) (N := 9) (ci := 8) (i := 30) (v := .int (I 30 8)) hx hb hts zj_X8_lastWasDyed_X8 hown hK hW rfl rfl 8 (by decide) (hts (.fieldLink RX8 36 "PetrolBoard$Pours" "number" "I") (me_s (me_l (List.mem_of_getElem? (i := 0) rfl)))) (fun _ h => h) rfl dX8_lastWasDyed_1 ?_
  refine lv_sipush (v := 300) hx hb dX8_lastWasDyed_4 (by decide) ?_
  refine va_mmin (x := (I 30 8)) (y := 300) hx hb (hml.trans hl.1.symm) hown (hts (.methodLink RX8 44 Lib.Math.min.name) (me_s (me_l (List.mem_of_getElem? (i := 1) rfl)))) (hts (.static Lib.Math.min.name) (me_s (me_l (List.mem_of_getElem? (i := 2) rfl)))) (hts (.initialized "java/lang/Math") (me_s (me_l (List.mem_of_getElem? (i := 3) rfl)))) (hts (.code Lib.Math.min.name Lib.Math.min.code 2 (some .int)) (me_s (me_l (List.mem_of_getElem? (i := 4) rfl)))) (Nat.le_of_ble_eq_true rfl) (Nat.le_of_ble_eq_true rfl) (Nat.le_of_ble_eq_true rfl) (Nat.le_of_ble_eq_true rfl) dX8_lastWasDyed_7 ?_
  refine lv_topi (fun x2 ex2 => ?_)
  have tx2 := z_tmmin ex2 rfl z_l300
  refine lv_iconst (v := 1) hx hb dX8_lastWasDyed_10 (by decide) ?_
  refine lv_isub hx hb dX8_lastWasDyed_11 ?_
  refine lv_topi (fun x3 ex3 => ?_)
  have tx3 : x3.toInt = x2.toInt - 1 := z_tsub ex3 rfl z_l1 (by omega) (by omega)
  refine lv_istore_n (lv' := [(2, .int x3), (0, .ref (ad 30)), (1, .int a1)]) hx hb dX8_lastWasDyed_12 rfl hl (by decide) rfl (fun ls hl => ?_)
  have lp4 : ∀ (f : Nat) (y5 : Int32) (H : Heap) (locs : List Loc) (ls : Array Slot), (y5.toInt + 2147483648 < (f : Int)) → (y5.toInt ≤ 299) → z_W G A (shC c, ad, I, JX, PC c ad) H → va_S A s.heap H locs → lv_has ls 3 [(2, .int y5), (0, .ref (ad 30)), (1, .int a1)] → W p l e (headSpec wsX8_lastWasDyed { frames := 1, cells := 0, slots := 0, locals := 40 }).room s m ([.ref (ad 30), .int a1] : List Value).toArray below meth c0 H locs 0 0 (MQ below (va_Qi (fun (r : Int32) (u1 : z_U) => u1 = (shC c, ad, I, JX, PC c ad) ∧ (r = 1 ∨ r = 0)) (z_B G A) A) ([.ref (ad 30), .int a1] : List Value).toArray s 0 0 A) (F0 m 13 ls []) := by
    intro f
    induction f with
    | zero => intro y5 H locs ls lp4m lp4u2 hW hS hl; exact absurd lp4m (by have := Int32.toInt_lt y5; have := Int32.le_toInt y5; omega)
    | succ f lp4ih =>
      intro y5 H locs ls lp4m lp4u2 hW hS hl
      refine lv_iload_n hx hb dX8_lastWasDyed_13 rfl (lv_at hl 0 rfl) ?_
      refine lv_if_lt (tgt := 49) hx hb dX8_lastWasDyed_14 (by decide) (fun c6 => ?_) (fun c6 => ?_)
      · have g7 := z_f_lt rfl z_l0 c6
        refine lv_iconst (v := 0) hx hb dX8_lastWasDyed_49 (by decide) ?_
        exact z_zret hx hb hr (by decide) hK hS (Nat.le_of_ble_eq_true rfl) (Nat.le_of_ble_eq_true rfl) hlocks dX8_lastWasDyed_50 (shC c, ad, I, JX, PC c ad) hW ⟨rfl, Or.inr rfl⟩
      · have g8 := z_f_nlt rfl z_l0 c6
        refine lv_aload_n hx hb dX8_lastWasDyed_17 rfl (lv_at hl 1 rfl) ?_
        refine z_get (T := TX8) (N := 9) (ci := 8) (i := 30) (v := .ref (ad 32)) hx hb hts zj_X8_lastWasDyed_X8 hown hK hW rfl rfl 1 (by decide) (hts (.fieldLink RX8 15 "PetrolBoard$Pours" "holder" "[I") (me_s (me_l (List.mem_of_getElem? (i := 5) rfl)))) (fun _ h => h) rfl dX8_lastWasDyed_18 ?_
        refine lv_iload_n hx hb dX8_lastWasDyed_21 rfl (lv_at hl 0 rfl) ?_
        refine z_iald (i := 32) hx hb hK hW rfl (z_ix rfl (by omega) (by omega)) dX8_lastWasDyed_22 ?_
        refine lv_topi (fun x9 ex9 => ?_)
        refine lv_iload_n hx hb dX8_lastWasDyed_23 rfl (lv_at hl 2 rfl) ?_
        refine lv_icmp_ne (tgt := 43) hx hb dX8_lastWasDyed_24 (by decide) (fun c10 => ?_) (fun c10 => ?_)
        · have g11 := z_f_ne rfl rfl c10
          obtain ⟨x12, ex12⟩ : ∃ y : Int32, y = y5 + (-1) := ⟨_, rfl⟩
          have tx12 : x12.toInt = y5.toInt + (-1) := z_tadd ex12 rfl z_lm1 (by omega) (by omega)
          refine lv_iinc (v := x12) (lv' := [(2, .int x12), (0, .ref (ad 30)), (1, .int a1)]) hx hb dX8_lastWasDyed_43 hl (k := 0) rfl (by rw [ex12]; rfl) (by decide) rfl (fun ls hl => ?_)
          refine lv_goto (tgt := 13) hx hb dX8_lastWasDyed_46 (by decide) ?_
          exact lp4ih x12 _ _ _ (by omega) (by omega) hW hS (lv_sub hl [0, 1, 2] rfl)
        · have g13 := z_f_eq rfl rfl c10
          refine lv_aload_n hx hb dX8_lastWasDyed_27 rfl (lv_at hl 1 rfl) ?_
          refine z_get (T := TX8) (N := 9) (ci := 8) (i := 30) (v := .ref (ad 37)) hx hb hts zj_X8_lastWasDyed_X8 hown hK hW rfl rfl 6 (by decide) (hts (.fieldLink RX8 30 "PetrolBoard$Pours" "dyed" "[I") (me_s (me_l (List.mem_of_getElem? (i := 6) rfl)))) (fun _ h => h) rfl dX8_lastWasDyed_28 ?_
          refine lv_iload_n hx hb dX8_lastWasDyed_31 rfl (lv_at hl 0 rfl) ?_
          refine z_iald (i := 37) hx hb hK hW rfl (z_ix rfl (by omega) (by omega)) dX8_lastWasDyed_32 ?_
          refine lv_topi (fun x14 ex14 => ?_)
          refine lv_iconst (v := 1) hx hb dX8_lastWasDyed_33 (by decide) ?_
          refine lv_icmp_ne (tgt := 41) hx hb dX8_lastWasDyed_34 (by decide) (fun c15 => ?_) (fun c15 => ?_)
          · have g16 := z_f_ne rfl z_l1 c15
            refine lv_iconst (v := 0) hx hb dX8_lastWasDyed_41 (by decide) ?_
            exact z_zret hx hb hr (by decide) hK hS (Nat.le_of_ble_eq_true rfl) (Nat.le_of_ble_eq_true rfl) hlocks dX8_lastWasDyed_42 (shC c, ad, I, JX, PC c ad) hW ⟨rfl, Or.inr rfl⟩
          · have g17 := z_f_eq rfl z_l1 c15
            refine lv_iconst (v := 1) hx hb dX8_lastWasDyed_37 (by decide) ?_
            refine lv_goto (tgt := 42) hx hb dX8_lastWasDyed_38 (by decide) ?_
            exact z_zret hx hb hr (by decide) hK hS (Nat.le_of_ble_eq_true rfl) (Nat.le_of_ble_eq_true rfl) hlocks dX8_lastWasDyed_42 (shC c, ad, I, JX, PC c ad) hW ⟨rfl, Or.inl rfl⟩
  exact lp4 4294967296 x3 _ _ _ (z_m0d _) (by omega) hW hS (lv_sub hl [0, 1, 2] rfl)
set_option maxHeartbeats 8000000 in
set_option maxRecDepth 100000 in
theorem sx_X8_counts (l : Launch) (G : z_G) (ad : Nat → Nat) (c : z_C) (I : z_I) (a1 : Int32) : z_M l yX8_counts wsX8_counts { frames := 1, cells := 0, slots := 0, locals := 12 } [.int a1] G (shC c, ad, I, JX, PC c ad) (fun r u1 => u1 = (shC c, ad, I, JX, PC c ad) ∧ (r = 1 ∨ r = 0)) 0 0 := by
  intro sz
  refine z_headQ (cc := cX8_counts) (maxL := 1) (ret := (some .boolean)) (by decide) rfl (Nat.le_of_ble_eq_true rfl) ?_
  intro p e s m below meth c0 ls hIn hK hsz hW hl
  obtain ⟨hx, hb, hr, hml, hown, hts, hlocks, hname⟩ := hIn
  subst hsz
  have hown : s.vm.findClass RX8 = some m.cls := hown
  have hA : ∀ q : Nat, s.heap.size ≤ q → z_A (shC c, ad, I, JX, PC c ad) s.heap.size q := fun q h => Or.inr h
  generalize hAe : z_A (shC c, ad, I, JX, PC c ad) s.heap.size = A at *
  have hS : va_S A s.heap s.heap [] := va_S.rf
  have hl : lv_has ls 1 [(0, .int a1)] := hl
  refine lv_iload_n hx hb dX8_counts_0 rfl (lv_at hl 0 rfl) ?_
  refine lv_iconst (v := 1) hx hb dX8_counts_1 (by decide) ?_
  refine lv_icmp_eq (tgt := 19) hx hb dX8_counts_2 (by decide) (fun c1 => ?_) (fun c1 => ?_)
  · have g2 := z_f_eq rfl z_l1 c1
    refine lv_iconst (v := 0) hx hb dX8_counts_19 (by decide) ?_
    exact z_zret hx hb hr (by decide) hK hS (Nat.le_of_ble_eq_true rfl) (Nat.le_of_ble_eq_true rfl) hlocks dX8_counts_20 (shC c, ad, I, JX, PC c ad) hW ⟨rfl, Or.inr rfl⟩
  · have g3 := z_f_ne rfl z_l1 c1
    refine lv_iload_n hx hb dX8_counts_5 rfl (lv_at hl 0 rfl) ?_
    refine lv_iconst (v := 2) hx hb dX8_counts_6 (by decide) ?_
    refine lv_icmp_eq (tgt := 19) hx hb dX8_counts_7 (by decide) (fun c4 => ?_) (fun c4 => ?_)
    · have g5 := z_f_eq rfl z_l2 c4
      refine lv_iconst (v := 0) hx hb dX8_counts_19 (by decide) ?_
      exact z_zret hx hb hr (by decide) hK hS (Nat.le_of_ble_eq_true rfl) (Nat.le_of_ble_eq_true rfl) hlocks dX8_counts_20 (shC c, ad, I, JX, PC c ad) hW ⟨rfl, Or.inr rfl⟩
    · have g6 := z_f_ne rfl z_l2 c4
      refine lv_iload_n hx hb dX8_counts_10 rfl (lv_at hl 0 rfl) ?_
      refine lv_iconst (v := 4) hx hb dX8_counts_11 (by decide) ?_
      refine lv_icmp_eq (tgt := 19) hx hb dX8_counts_12 (by decide) (fun c7 => ?_) (fun c7 => ?_)
      · have g8 := z_f_eq rfl z_l4 c7
        refine lv_iconst (v := 0) hx hb dX8_counts_19 (by decide) ?_
        exact z_zret hx hb hr (by decide) hK hS (Nat.le_of_ble_eq_true rfl) (Nat.le_of_ble_eq_true rfl) hlocks dX8_counts_20 (shC c, ad, I, JX, PC c ad) hW ⟨rfl, Or.inr rfl⟩
      · have g9 := z_f_ne rfl z_l4 c7
        refine lv_iconst (v := 1) hx hb dX8_counts_15 (by decide) ?_
        refine lv_goto (tgt := 20) hx hb dX8_counts_16 (by decide) ?_
        exact z_zret hx hb hr (by decide) hK hS (Nat.le_of_ble_eq_true rfl) (Nat.le_of_ble_eq_true rfl) hlocks dX8_counts_20 (shC c, ad, I, JX, PC c ad) hW ⟨rfl, Or.inl rfl⟩
theorem zj_X8_given_X8 : ∀ w ∈ wsX80, w ∈ wsX8_given := fun w h => (List.mem_cons_of_mem _ (List.mem_append_right _ h))
set_option maxHeartbeats 8000000 in
set_option maxRecDepth 100000 in
theorem sx_X8_given (l : Launch) (G : z_G) (ad : Nat → Nat) (c : z_C) (I : z_I) (a1 : Int32) (a2 : Int32) (a3 : Int32) : z_M l yX8_given wsX8_given { frames := 2, cells := 0, slots := 0, locals := 40 } [.ref (ad 30), .int a1, .int a2, .int a3] G (shC c, ad, I, JX, PC c ad) (fun r u1 => u1 = (shC c, ad, I, JX, PC c ad)) 0 0 := by
  intro sz
  refine z_headQ (cc := cX8_given) (maxL := 6) (ret := (some .int)) (by decide) rfl (Nat.le_of_ble_eq_true rfl) ?_
  intro p e s m below meth c0 ls hIn hK hsz hW hl
  obtain ⟨hx, hb, hr, hml, hown, hts, hlocks, hname⟩ := hIn
  subst hsz
  have hown : s.vm.findClass RX8 = some m.cls := hown
  have hA : ∀ q : Nat, s.heap.size ≤ q → z_A (shC c, ad, I, JX, PC c ad) s.heap.size q := fun q h => Or.inr h
  generalize hAe : z_A (shC c, ad, I, JX, PC c ad) s.heap.size = A at *
  have hS : va_S A s.heap s.heap [] := va_S.rf
  have hl : lv_has ls 6 [(0, .ref (ad 30)), (1, .int a1), (2, .int a2), (3, .int a3)] := hl
  refine lv_iconst (v := 0) hx hb dX8_given_0 (by decide) ?_
  refine lv_istore (lv' := [(4, .int 0), (0, .ref (ad 30)), (1, .int a1), (2, .int a2), (3, .int a3)]) hx hb dX8_given_1 hl (by decide) rfl (fun ls hl => ?_)
  refine lv_iload_n hx hb dX8_given_3 rfl (lv_at hl 3 rfl) ?_
  refine lv_iconst (v := 0) hx hb dX8_given_4 (by decide) ?_
  refine va_mmax (x := a2) (y := 0) hx hb (hml.trans hl.1.symm) hown (hts (.methodLink RX8 50 Lib.Math.max.name) (me_s (me_l (List.mem_of_getElem? (i := 0) rfl)))) (hts (.static Lib.Math.max.name) (me_s (me_l (List.mem_of_getElem? (i := 1) rfl)))) (hts (.initialized "java/lang/Math") (me_s (me_l (List.mem_of_getElem? (i := 2) rfl)))) (hts (.code Lib.Math.max.name Lib.Math.max.code 2 (some .int)) (me_s (me_l (List.mem_of_getElem? (i := 3) rfl)))) (Nat.le_of_ble_eq_true rfl) (Nat.le_of_ble_eq_true rfl) (Nat.le_of_ble_eq_true rfl) (Nat.le_of_ble_eq_true rfl) dX8_given_5 ?_
  refine lv_topi (fun x1 ex1 => ?_)
  have tx1 := z_tmmax ex1 rfl z_l0
  refine lv_istore (lv' := [(5, .int x1), (4, .int 0), (0, .ref (ad 30)), (1, .int a1), (2, .int a2), (3, .int a3)]) hx hb dX8_given_8 hl (by decide) rfl (fun ls hl => ?_)
  have lp2 : ∀ (f : Nat) (y3 : Int32) (y4 : Int32) (H : Heap) (locs : List Loc) (ls : Array Slot), (2147483647 < y3.toInt + (f : Int)) → (0 ≤ y3.toInt) → z_W G A (shC c, ad, I, JX, PC c ad) H → va_S A s.heap H locs → lv_has ls 6 [(5, .int y3), (4, .int y4), (0, .ref (ad 30)), (1, .int a1), (2, .int a2), (3, .int a3)] → W p l e (headSpec wsX8_given { frames := 2, cells := 0, slots := 0, locals := 40 }).room s m ([.ref (ad 30), .int a1, .int a2, .int a3] : List Value).toArray below meth c0 H locs 0 0 (MQ below (va_Qi (fun (r : Int32) (u1 : z_U) => u1 = (shC c, ad, I, JX, PC c ad)) (z_B G A) A) ([.ref (ad 30), .int a1, .int a2, .int a3] : List Value).toArray s 0 0 A) (F0 m 10 ls []) := by
    intro f
    induction f with
    | zero => intro y3 y4 H locs ls lp2m lp2l5 hW hS hl; exact absurd lp2m (by have := Int32.toInt_lt y3; have := Int32.le_toInt y3; omega)
    | succ f lp2ih =>
      intro y3 y4 H locs ls lp2m lp2l5 hW hS hl
      refine lv_iload hx hb dX8_given_10 (lv_at hl 0 rfl) ?_
      refine lv_iload_n hx hb dX8_given_12 rfl (lv_at hl 5 rfl) ?_
      refine lv_icmp_ge (tgt := 66) hx hb dX8_given_13 (by decide) (fun c5 => ?_) (fun c5 => ?_)
      · have g6 := z_f_ge rfl rfl c5
        refine lv_iload hx hb dX8_given_66 (lv_at hl 1 rfl) ?_
        exact z_iret hx hb hr hK hS (Nat.le_of_ble_eq_true rfl) (Nat.le_of_ble_eq_true rfl) hlocks dX8_given_68 (shC c, ad, I, JX, PC c ad) hW rfl
      · have g7 := z_f_nge rfl rfl c5
        refine lv_iload hx hb dX8_given_16 (lv_at hl 0 rfl) ?_
        refine lv_sipush (v := 300) hx hb dX8_given_18 (by decide) ?_
        refine lv_icmp_ge (tgt := 66) hx hb dX8_given_21 (by decide) (fun c8 => ?_) (fun c8 => ?_)
        · have g9 := z_f_ge rfl z_l300 c8
          refine lv_iload hx hb dX8_given_66 (lv_at hl 1 rfl) ?_
          exact z_iret hx hb hr hK hS (Nat.le_of_ble_eq_true rfl) (Nat.le_of_ble_eq_true rfl) hlocks dX8_given_68 (shC c, ad, I, JX, PC c ad) hW rfl
        · have g10 := z_f_nge rfl z_l300 c8
          refine lv_aload_n hx hb dX8_given_24 rfl (lv_at hl 2 rfl) ?_
          refine z_get (T := TX8) (N := 9) (ci := 8) (i := 30) (v := .ref (ad 31)) hx hb hts zj_X8_given_X8 hown hK hW rfl rfl 0 (by decide) (hts (.fieldLink RX8 9 "PetrolBoard$Pours" "station" "[I") (me_s (me_l (List.mem_of_getElem? (i := 4) rfl)))) (fun _ h => h) rfl dX8_given_25 ?_
          refine lv_iload hx hb dX8_given_28 (lv_at hl 0 rfl) ?_
          refine z_iald (i := 31) hx hb hK hW rfl (z_ix rfl (by omega) (by omega)) dX8_given_30 ?_
          refine lv_topi (fun x11 ex11 => ?_)
          refine lv_iload_n hx hb dX8_given_31 rfl (lv_at hl 3 rfl) ?_
          refine lv_icmp_ne (tgt := 60) hx hb dX8_given_32 (by decide) (fun c12 => ?_) (fun c12 => ?_)
          · have g13 := z_f_ne rfl rfl c12
            obtain ⟨x14, ex14⟩ : ∃ y : Int32, y = y3 + 1 := ⟨_, rfl⟩
            have tx14 : x14.toInt = y3.toInt + 1 := z_tadd ex14 rfl z_l1 (by omega) (by omega)
            refine lv_iinc (v := x14) (lv' := [(5, .int x14), (4, .int y4), (0, .ref (ad 30)), (1, .int a1), (2, .int a2), (3, .int a3)]) hx hb dX8_given_60 hl (k := 0) rfl (by rw [ex14]; rfl) (by decide) rfl (fun ls hl => ?_)
            refine lv_goto (tgt := 10) hx hb dX8_given_63 (by decide) ?_
            exact lp2ih x14 y4 _ _ _ (by omega) (by omega) hW hS (lv_sub hl [0, 1, 2, 3, 4, 5] rfl)
          · have g15 := z_f_eq rfl rfl c12
            refine lv_aload_n hx hb dX8_given_35 rfl (lv_at hl 2 rfl) ?_
            refine z_get (T := TX8) (N := 9) (ci := 8) (i := 30) (v := .ref (ad 36)) hx hb hts zj_X8_given_X8 hown hK hW rfl rfl 5 (by decide) (hts (.fieldLink RX8 27 "PetrolBoard$Pours" "verdict" "[I") (me_s (me_l (List.mem_of_getElem? (i := 5) rfl)))) (fun _ h => h) rfl dX8_given_36 ?_
            refine lv_iload hx hb dX8_given_39 (lv_at hl 0 rfl) ?_
            refine z_iald (i := 36) hx hb hK hW rfl (z_ix rfl (by omega) (by omega)) dX8_given_41 ?_
            refine lv_topi (fun x16 ex16 => ?_)
            refine z_ci hW hS hA (va_runS (As := [.int x16]) (rest := []) ⟨hx, hb, hml, hown, hts⟩ (sx_X8_counts l G ad c I  x16 _) (va_cwS 1 hts gX8_given_X8_counts rfl rfl rfl hy_X8_counts.2 ⟨Nat.le_of_ble_eq_true rfl, Nat.le_of_ble_eq_true rfl⟩) (z_preS hK hW) rfl rfl hl.1 rfl (lv_room (Nat.le_of_ble_eq_true rfl)) dX8_given_42 ⟨Nat.le_of_ble_eq_true rfl, Nat.le_of_ble_eq_true rfl⟩) (fun r u1 H locs hp hW hS => ?_)
            obtain ⟨e9, hp⟩ := hp
            rw [e9] at hW
            rcases hp with rfl | rfl
            · refine lv_if_eq (tgt := 60) hx hb dX8_given_45 (by decide) (fun c17 => absurd c17 (by decide)) (fun c17 => ?_)
              refine lv_iload hx hb dX8_given_48 (lv_at hl 1 rfl) ?_
              refine lv_aload_n hx hb dX8_given_50 rfl (lv_at hl 2 rfl) ?_
              refine z_get (T := TX8) (N := 9) (ci := 8) (i := 30) (v := .ref (ad 35)) hx hb hts zj_X8_given_X8 hown hK hW rfl rfl 4 (by decide) (hts (.fieldLink RX8 24 "PetrolBoard$Pours" "tenths" "[I") (me_s (me_l (List.mem_of_getElem? (i := 6) rfl)))) (fun _ h => h) rfl dX8_given_51 ?_
              refine lv_iload hx hb dX8_given_54 (lv_at hl 0 rfl) ?_
              refine z_iald (i := 35) hx hb hK hW rfl (z_ix rfl (by omega) (by omega)) dX8_given_56 ?_
              refine lv_topi (fun x18 ex18 => ?_)
              refine lv_iadd hx hb dX8_given_57 ?_
              refine lv_topi (fun x19 ex19 => ?_)
              refine lv_istore (lv' := [(4, .int x19), (5, .int y3), (0, .ref (ad 30)), (1, .int a1), (2, .int a2), (3, .int a3)]) hx hb dX8_given_58 hl (by decide) rfl (fun ls hl => ?_)
              obtain ⟨x20, ex20⟩ : ∃ y : Int32, y = y3 + 1 := ⟨_, rfl⟩
              have tx20 : x20.toInt = y3.toInt + 1 := z_tadd ex20 rfl z_l1 (by omega) (by omega)
              refine lv_iinc (v := x20) (lv' := [(5, .int x20), (4, .int x19), (0, .ref (ad 30)), (1, .int a1), (2, .int a2), (3, .int a3)]) hx hb dX8_given_60 hl (k := 1) rfl (by rw [ex20]; rfl) (by decide) rfl (fun ls hl => ?_)
              refine lv_goto (tgt := 10) hx hb dX8_given_63 (by decide) ?_
              exact lp2ih x20 x19 _ _ _ (by omega) (by omega) hW hS (lv_sub hl [0, 1, 2, 3, 4, 5] rfl)
            · refine lv_if_eq (tgt := 60) hx hb dX8_given_45 (by decide) (fun c21 => ?_) (fun c21 => absurd (by decide) c21)
              obtain ⟨x22, ex22⟩ : ∃ y : Int32, y = y3 + 1 := ⟨_, rfl⟩
              have tx22 : x22.toInt = y3.toInt + 1 := z_tadd ex22 rfl z_l1 (by omega) (by omega)
              refine lv_iinc (v := x22) (lv' := [(5, .int x22), (4, .int y4), (0, .ref (ad 30)), (1, .int a1), (2, .int a2), (3, .int a3)]) hx hb dX8_given_60 hl (k := 0) rfl (by rw [ex22]; rfl) (by decide) rfl (fun ls hl => ?_)
              refine lv_goto (tgt := 10) hx hb dX8_given_63 (by decide) ?_
              exact lp2ih x22 y4 _ _ _ (by omega) (by omega) hW hS (lv_sub hl [0, 1, 2, 3, 4, 5] rfl)
  exact lp2 4294967296 x1 (0) _ _ _ (z_m0u _) (by omega) hW hS (lv_sub hl [0, 1, 2, 3, 4, 5] rfl)
theorem zj_X8_judgedGood_X8 : ∀ w ∈ wsX80, w ∈ wsX8_judgedGood := fun w h => (List.mem_cons_of_mem _ (List.mem_append_right _ h))
set_option maxHeartbeats 8000000 in
set_option maxRecDepth 100000 in
theorem sx_X8_judgedGood (l : Launch) (G : z_G) (ad : Nat → Nat) (c : z_C) (I : z_I) (hP : z_iP I) : z_M l yX8_judgedGood wsX8_judgedGood { frames := 1, cells := 0, slots := 0, locals := 12 } [.ref (ad 30)] G (shC c, ad, I, JX, PC c ad) (fun r u1 => u1 = (shC c, ad, I, JX, PC c ad)) 0 0 := by
  intro sz
  refine z_headQ (cc := cX8_judgedGood) (maxL := 3) (ret := (some .int)) (by decide) rfl (Nat.le_of_ble_eq_true rfl) ?_
  intro p e s m below meth c0 ls hIn hK hsz hW hl
  obtain ⟨hx, hb, hr, hml, hown, hts, hlocks, hname⟩ := hIn
  subst hsz
  have hown : s.vm.findClass RX8 = some m.cls := hown
  have hA : ∀ q : Nat, s.heap.size ≤ q → z_A (shC c, ad, I, JX, PC c ad) s.heap.size q := fun q h => Or.inr h
  generalize hAe : z_A (shC c, ad, I, JX, PC c ad) s.heap.size = A at *
  have hS : va_S A s.heap s.heap [] := va_S.rf
  have hl : lv_has ls 3 [(0, .ref (ad 30))] := hl
  refine lv_iconst (v := 0) hx hb dX8_judgedGood_0 (by decide) ?_
  refine lv_istore_n (lv' := [(1, .int 0), (0, .ref (ad 30))]) hx hb dX8_judgedGood_1 rfl hl (by decide) rfl (fun ls hl => ?_)
  refine lv_iconst (v := 0) hx hb dX8_judgedGood_2 (by decide) ?_
  refine lv_istore_n (lv' := [(2, .int 0), (1, .int 0), (0, .ref (ad 30))]) hx hb dX8_judgedGood_3 rfl hl (by decide) rfl (fun ls hl => ?_)
  have lp1 : ∀ (f : Nat) (y2 : Int32) (y3 : Int32) (H : Heap) (locs : List Loc) (ls : Array Slot), (2147483647 < y2.toInt + (f : Int)) → (0 ≤ y2.toInt) → z_W G A (shC c, ad, I, JX, PC c ad) H → va_S A s.heap H locs → lv_has ls 3 [(2, .int y2), (1, .int y3), (0, .ref (ad 30))] → W p l e (headSpec wsX8_judgedGood { frames := 1, cells := 0, slots := 0, locals := 12 }).room s m ([.ref (ad 30)] : List Value).toArray below meth c0 H locs 0 0 (MQ below (va_Qi (fun (r : Int32) (u1 : z_U) => u1 = (shC c, ad, I, JX, PC c ad)) (z_B G A) A) ([.ref (ad 30)] : List Value).toArray s 0 0 A) (F0 m 4 ls []) := by
    intro f
    induction f with
    | zero => intro y2 y3 H locs ls lp1m lp1l2 hW hS hl; exact absurd lp1m (by have := Int32.toInt_lt y2; have := Int32.le_toInt y2; omega)
    | succ f lp1ih =>
      intro y2 y3 H locs ls lp1m lp1l2 hW hS hl
      refine lv_iload_n hx hb dX8_judgedGood_4 rfl (lv_at hl 0 rfl) ?_
      refine lv_aload_n hx hb dX8_judgedGood_5 rfl (lv_at hl 2 rfl) ?_
      have r4 : 0 ≤ (I 30 8).toInt ∧ (I 30 8).toInt ≤ 300 := hP
      refine z_get (T := TX8) (N := 9) (ci := 8) (i := 30) (v := .int (I 30 8)) hx hb hts zj_X8_judgedGood_X8 hown hK hW rfl rfl 8 (by decide) (hts (.fieldLink RX8 36 "PetrolBoard$Pours" "number" "I") (me_s (me_l (List.mem_of_getElem? (i := 0) rfl)))) (fun _ h => h) rfl dX8_judgedGood_6 ?_
      refine lv_icmp_ge (tgt := 42) hx hb dX8_judgedGood_9 (by decide) (fun c5 => ?_) (fun c5 => ?_)
      · have g6 := z_f_ge rfl rfl c5
        refine lv_iload_n hx hb dX8_judgedGood_42 rfl (lv_at hl 1 rfl) ?_
        exact z_iret hx hb hr hK hS (Nat.le_of_ble_eq_true rfl) (Nat.le_of_ble_eq_true rfl) hlocks dX8_judgedGood_43 (shC c, ad, I, JX, PC c ad) hW rfl
      · have g7 := z_f_nge rfl rfl c5
        refine lv_iload_n hx hb dX8_judgedGood_12 rfl (lv_at hl 0 rfl) ?_
        refine lv_sipush (v := 300) hx hb dX8_judgedGood_13 (by decide) ?_
        refine lv_icmp_ge (tgt := 42) hx hb dX8_judgedGood_16 (by decide) (fun c8 => (by have g := z_f_ge rfl z_l300 c8; omega)) (fun c8 => ?_)
        have g9 := z_f_nge rfl z_l300 c8
        refine lv_iload_n hx hb dX8_judgedGood_19 rfl (lv_at hl 1 rfl) ?_
        refine lv_aload_n hx hb dX8_judgedGood_20 rfl (lv_at hl 2 rfl) ?_
        refine z_get (T := TX8) (N := 9) (ci := 8) (i := 30) (v := .ref (ad 36)) hx hb hts zj_X8_judgedGood_X8 hown hK hW rfl rfl 5 (by decide) (hts (.fieldLink RX8 27 "PetrolBoard$Pours" "verdict" "[I") (me_s (me_l (List.mem_of_getElem? (i := 1) rfl)))) (fun _ h => h) rfl dX8_judgedGood_21 ?_
        refine lv_iload_n hx hb dX8_judgedGood_24 rfl (lv_at hl 0 rfl) ?_
        refine z_iald (i := 36) hx hb hK hW rfl (z_ix rfl (by omega) (by omega)) dX8_judgedGood_25 ?_
        refine lv_topi (fun x10 ex10 => ?_)
        refine lv_if_ne (tgt := 33) hx hb dX8_judgedGood_26 (by decide) (fun c11 => ?_) (fun c11 => ?_)
        · have g12 := z_f_ne rfl z_l0 c11
          refine lv_iconst (v := 0) hx hb dX8_judgedGood_33 (by decide) ?_
          refine lv_iadd hx hb dX8_judgedGood_34 ?_
          refine lv_topi (fun x13 ex13 => ?_)
          have tx13 : x13.toInt = y3.toInt + 0 := z_tadd ex13 rfl z_l0 (by have := Int32.le_toInt y3; have := Int32.toInt_lt y3; omega) (by have := Int32.le_toInt y3; have := Int32.toInt_lt y3; omega)
          refine lv_istore_n (lv' := [(1, .int x13), (2, .int y2), (0, .ref (ad 30))]) hx hb dX8_judgedGood_35 rfl hl (by decide) rfl (fun ls hl => ?_)
          obtain ⟨x14, ex14⟩ : ∃ y : Int32, y = y2 + 1 := ⟨_, rfl⟩
          have tx14 : x14.toInt = y2.toInt + 1 := z_tadd ex14 rfl z_l1 (by omega) (by omega)
          refine lv_iinc (v := x14) (lv' := [(2, .int x14), (1, .int x13), (0, .ref (ad 30))]) hx hb dX8_judgedGood_36 hl (k := 1) rfl (by rw [ex14]; rfl) (by decide) rfl (fun ls hl => ?_)
          refine lv_goto (tgt := 4) hx hb dX8_judgedGood_39 (by decide) ?_
          exact lp1ih x14 x13 _ _ _ (by omega) (by omega) hW hS (lv_sub hl [0, 1, 2] rfl)
        · have g15 := z_f_eq rfl z_l0 c11
          refine lv_iconst (v := 1) hx hb dX8_judgedGood_29 (by decide) ?_
          refine lv_goto (tgt := 34) hx hb dX8_judgedGood_30 (by decide) ?_
          refine lv_iadd hx hb dX8_judgedGood_34 ?_
          refine lv_topi (fun x16 ex16 => ?_)
          refine lv_istore_n (lv' := [(1, .int x16), (2, .int y2), (0, .ref (ad 30))]) hx hb dX8_judgedGood_35 rfl hl (by decide) rfl (fun ls hl => ?_)
          obtain ⟨x17, ex17⟩ : ∃ y : Int32, y = y2 + 1 := ⟨_, rfl⟩
          have tx17 : x17.toInt = y2.toInt + 1 := z_tadd ex17 rfl z_l1 (by omega) (by omega)
          refine lv_iinc (v := x17) (lv' := [(2, .int x17), (1, .int x16), (0, .ref (ad 30))]) hx hb dX8_judgedGood_36 hl (k := 1) rfl (by rw [ex17]; rfl) (by decide) rfl (fun ls hl => ?_)
          refine lv_goto (tgt := 4) hx hb dX8_judgedGood_39 (by decide) ?_
          exact lp1ih x17 x16 _ _ _ (by omega) (by omega) hW hS (lv_sub hl [0, 1, 2] rfl)
  exact lp1 4294967296 (0) (0) _ _ _ (z_m0u _) (by rw [z_l0]; omega) hW hS (lv_sub hl [0, 1, 2] rfl)
theorem zj_X8_judgedOtherwise_X8 : ∀ w ∈ wsX80, w ∈ wsX8_judgedOtherwise := fun w h => (List.mem_cons_of_mem _ (List.mem_append_right _ h))
set_option maxHeartbeats 8000000 in
set_option maxRecDepth 100000 in
theorem sx_X8_judgedOtherwise (l : Launch) (G : z_G) (ad : Nat → Nat) (c : z_C) (I : z_I) (hP : z_iP I) : z_M l yX8_judgedOtherwise wsX8_judgedOtherwise { frames := 1, cells := 0, slots := 0, locals := 12 } [.ref (ad 30)] G (shC c, ad, I, JX, PC c ad) (fun r u1 => u1 = (shC c, ad, I, JX, PC c ad)) 0 0 := by
  intro sz
  refine z_headQ (cc := cX8_judgedOtherwise) (maxL := 3) (ret := (some .int)) (by decide) rfl (Nat.le_of_ble_eq_true rfl) ?_
  intro p e s m below meth c0 ls hIn hK hsz hW hl
  obtain ⟨hx, hb, hr, hml, hown, hts, hlocks, hname⟩ := hIn
  subst hsz
  have hown : s.vm.findClass RX8 = some m.cls := hown
  have hA : ∀ q : Nat, s.heap.size ≤ q → z_A (shC c, ad, I, JX, PC c ad) s.heap.size q := fun q h => Or.inr h
  generalize hAe : z_A (shC c, ad, I, JX, PC c ad) s.heap.size = A at *
  have hS : va_S A s.heap s.heap [] := va_S.rf
  have hl : lv_has ls 3 [(0, .ref (ad 30))] := hl
  refine lv_iconst (v := 0) hx hb dX8_judgedOtherwise_0 (by decide) ?_
  refine lv_istore_n (lv' := [(1, .int 0), (0, .ref (ad 30))]) hx hb dX8_judgedOtherwise_1 rfl hl (by decide) rfl (fun ls hl => ?_)
  refine lv_iconst (v := 0) hx hb dX8_judgedOtherwise_2 (by decide) ?_
  refine lv_istore_n (lv' := [(2, .int 0), (1, .int 0), (0, .ref (ad 30))]) hx hb dX8_judgedOtherwise_3 rfl hl (by decide) rfl (fun ls hl => ?_)
  have lp1 : ∀ (f : Nat) (y2 : Int32) (y3 : Int32) (H : Heap) (locs : List Loc) (ls : Array Slot), (2147483647 < y2.toInt + (f : Int)) → (0 ≤ y2.toInt) → z_W G A (shC c, ad, I, JX, PC c ad) H → va_S A s.heap H locs → lv_has ls 3 [(2, .int y2), (1, .int y3), (0, .ref (ad 30))] → W p l e (headSpec wsX8_judgedOtherwise { frames := 1, cells := 0, slots := 0, locals := 12 }).room s m ([.ref (ad 30)] : List Value).toArray below meth c0 H locs 0 0 (MQ below (va_Qi (fun (r : Int32) (u1 : z_U) => u1 = (shC c, ad, I, JX, PC c ad)) (z_B G A) A) ([.ref (ad 30)] : List Value).toArray s 0 0 A) (F0 m 4 ls []) := by
    intro f
    induction f with
    | zero => intro y2 y3 H locs ls lp1m lp1l2 hW hS hl; exact absurd lp1m (by have := Int32.toInt_lt y2; have := Int32.le_toInt y2; omega)
    | succ f lp1ih =>
      intro y2 y3 H locs ls lp1m lp1l2 hW hS hl
      refine lv_iload_n hx hb dX8_judgedOtherwise_4 rfl (lv_at hl 0 rfl) ?_
      refine lv_aload_n hx hb dX8_judgedOtherwise_5 rfl (lv_at hl 2 rfl) ?_
      have r4 : 0 ≤ (I 30 8).toInt ∧ (I 30 8).toInt ≤ 300 := hP
      refine z_get (T := TX8) (N := 9) (ci := 8) (i := 30) (v := .int (I 30 8)) hx hb hts zj_X8_judgedOtherwise_X8 hown hK hW rfl rfl 8 (by decide) (hts (.fieldLink RX8 36 "PetrolBoard$Pours" "number" "I") (me_s (me_l (List.mem_of_getElem? (i := 0) rfl)))) (fun _ h => h) rfl dX8_judgedOtherwise_6 ?_
      refine lv_icmp_ge (tgt := 42) hx hb dX8_judgedOtherwise_9 (by decide) (fun c5 => ?_) (fun c5 => ?_)
      · have g6 := z_f_ge rfl rfl c5
        refine lv_iload_n hx hb dX8_judgedOtherwise_42 rfl (lv_at hl 1 rfl) ?_
        exact z_iret hx hb hr hK hS (Nat.le_of_ble_eq_true rfl) (Nat.le_of_ble_eq_true rfl) hlocks dX8_judgedOtherwise_43 (shC c, ad, I, JX, PC c ad) hW rfl
      · have g7 := z_f_nge rfl rfl c5
        refine lv_iload_n hx hb dX8_judgedOtherwise_12 rfl (lv_at hl 0 rfl) ?_
        refine lv_sipush (v := 300) hx hb dX8_judgedOtherwise_13 (by decide) ?_
        refine lv_icmp_ge (tgt := 42) hx hb dX8_judgedOtherwise_16 (by decide) (fun c8 => (by have g := z_f_ge rfl z_l300 c8; omega)) (fun c8 => ?_)
        have g9 := z_f_nge rfl z_l300 c8
        refine lv_iload_n hx hb dX8_judgedOtherwise_19 rfl (lv_at hl 1 rfl) ?_
        refine lv_aload_n hx hb dX8_judgedOtherwise_20 rfl (lv_at hl 2 rfl) ?_
        refine z_get (T := TX8) (N := 9) (ci := 8) (i := 30) (v := .ref (ad 36)) hx hb hts zj_X8_judgedOtherwise_X8 hown hK hW rfl rfl 5 (by decide) (hts (.fieldLink RX8 27 "PetrolBoard$Pours" "verdict" "[I") (me_s (me_l (List.mem_of_getElem? (i := 1) rfl)))) (fun _ h => h) rfl dX8_judgedOtherwise_21 ?_
        refine lv_iload_n hx hb dX8_judgedOtherwise_24 rfl (lv_at hl 0 rfl) ?_
        refine z_iald (i := 36) hx hb hK hW rfl (z_ix rfl (by omega) (by omega)) dX8_judgedOtherwise_25 ?_
        refine lv_topi (fun x10 ex10 => ?_)
        refine lv_if_le (tgt := 33) hx hb dX8_judgedOtherwise_26 (by decide) (fun c11 => ?_) (fun c11 => ?_)
        · have g12 := z_f_le rfl z_l0 c11
          refine lv_iconst (v := 0) hx hb dX8_judgedOtherwise_33 (by decide) ?_
          refine lv_iadd hx hb dX8_judgedOtherwise_34 ?_
          refine lv_topi (fun x13 ex13 => ?_)
          have tx13 : x13.toInt = y3.toInt + 0 := z_tadd ex13 rfl z_l0 (by have := Int32.le_toInt y3; have := Int32.toInt_lt y3; omega) (by have := Int32.le_toInt y3; have := Int32.toInt_lt y3; omega)
          refine lv_istore_n (lv' := [(1, .int x13), (2, .int y2), (0, .ref (ad 30))]) hx hb dX8_judgedOtherwise_35 rfl hl (by decide) rfl (fun ls hl => ?_)
          obtain ⟨x14, ex14⟩ : ∃ y : Int32, y = y2 + 1 := ⟨_, rfl⟩
          have tx14 : x14.toInt = y2.toInt + 1 := z_tadd ex14 rfl z_l1 (by omega) (by omega)
          refine lv_iinc (v := x14) (lv' := [(2, .int x14), (1, .int x13), (0, .ref (ad 30))]) hx hb dX8_judgedOtherwise_36 hl (k := 1) rfl (by rw [ex14]; rfl) (by decide) rfl (fun ls hl => ?_)
          refine lv_goto (tgt := 4) hx hb dX8_judgedOtherwise_39 (by decide) ?_
          exact lp1ih x14 x13 _ _ _ (by omega) (by omega) hW hS (lv_sub hl [0, 1, 2] rfl)
        · have g15 := z_f_nle rfl z_l0 c11
          refine lv_iconst (v := 1) hx hb dX8_judgedOtherwise_29 (by decide) ?_
          refine lv_goto (tgt := 34) hx hb dX8_judgedOtherwise_30 (by decide) ?_
          refine lv_iadd hx hb dX8_judgedOtherwise_34 ?_
          refine lv_topi (fun x16 ex16 => ?_)
          refine lv_istore_n (lv' := [(1, .int x16), (2, .int y2), (0, .ref (ad 30))]) hx hb dX8_judgedOtherwise_35 rfl hl (by decide) rfl (fun ls hl => ?_)
          obtain ⟨x17, ex17⟩ : ∃ y : Int32, y = y2 + 1 := ⟨_, rfl⟩
          have tx17 : x17.toInt = y2.toInt + 1 := z_tadd ex17 rfl z_l1 (by omega) (by omega)
          refine lv_iinc (v := x17) (lv' := [(2, .int x17), (1, .int x16), (0, .ref (ad 30))]) hx hb dX8_judgedOtherwise_36 hl (k := 1) rfl (by rw [ex17]; rfl) (by decide) rfl (fun ls hl => ?_)
          refine lv_goto (tgt := 4) hx hb dX8_judgedOtherwise_39 (by decide) ?_
          exact lp1ih x17 x16 _ _ _ (by omega) (by omega) hW hS (lv_sub hl [0, 1, 2] rfl)
  exact lp1 4294967296 (0) (0) _ _ _ (z_m0u _) (by rw [z_l0]; omega) hW hS (lv_sub hl [0, 1, 2] rfl)
