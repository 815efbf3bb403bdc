theorem dX0_has_0 : decode cX0_has 0 = .ok (.iload_n 1, 1) := by decide +kernel
theorem dX0_has_1 : decode cX0_has 1 = .ok (.bipush 100, 2) := by decide +kernel
theorem dX0_has_3 : decode cX0_has 3 = .ok (.idiv, 1) := by decide +kernel
theorem dX0_has_4 : decode cX0_has 4 = .ok (.istore_n 2, 1) := by decide +kernel
theorem dX0_has_5 : decode cX0_has 5 = .ok (.iload_n 1, 1) := by decide +kernel
theorem dX0_has_6 : decode cX0_has 6 = .ok (.ifCond .lt 29, 3) := by decide +kernel
theorem dX0_has_35 : decode cX0_has 35 = .ok (.iconst 0, 1) := by decide +kernel
theorem dX0_has_36 : decode cX0_has 36 = .ok (.ireturn, 1) := by decide +kernel
theorem dX0_has_9 : decode cX0_has 9 = .ok (.iload_n 2, 1) := by decide +kernel
theorem dX0_has_10 : decode cX0_has 10 = .ok (.aload_n 0, 1) := by decide +kernel
theorem dX0_has_11 : decode cX0_has 11 = .ok (.getfield 9, 3) := by decide +kernel
theorem dX0_has_14 : decode cX0_has 14 = .ok (.arraylength, 1) := by decide +kernel
theorem dX0_has_15 : decode cX0_has 15 = .ok (.if_icmp .ge 20, 3) := by decide +kernel
theorem dX0_has_18 : decode cX0_has 18 = .ok (.iload_n 1, 1) := by decide +kernel
theorem dX0_has_19 : decode cX0_has 19 = .ok (.bipush 100, 2) := by decide +kernel
theorem dX0_has_21 : decode cX0_has 21 = .ok (.irem, 1) := by decide +kernel
theorem dX0_has_22 : decode cX0_has 22 = .ok (.aload_n 0, 1) := by decide +kernel
theorem dX0_has_23 : decode cX0_has 23 = .ok (.getfield 9, 3) := by decide +kernel
theorem dX0_has_26 : decode cX0_has 26 = .ok (.iload_n 2, 1) := by decide +kernel
theorem dX0_has_27 : decode cX0_has 27 = .ok (.iaload, 1) := by decide +kernel
theorem dX0_has_28 : decode cX0_has 28 = .ok (.if_icmp .ge 7, 3) := by decide +kernel
theorem dX12_isCoupon_0 : decode cX12_isCoupon 0 = .ok (.iload_n 1, 1) := by decide +kernel
theorem dX12_isCoupon_1 : decode cX12_isCoupon 1 = .ok (.ifCond .lt 31, 3) := by decide +kernel
theorem dX12_isCoupon_32 : decode cX12_isCoupon 32 = .ok (.iconst 0, 1) := by decide +kernel
theorem dX12_isCoupon_33 : decode cX12_isCoupon 33 = .ok (.ireturn, 1) := by decide +kernel
theorem dX12_isCoupon_4 : decode cX12_isCoupon 4 = .ok (.iload_n 1, 1) := by decide +kernel
theorem dX12_isCoupon_5 : decode cX12_isCoupon 5 = .ok (.ldc 109, 2) := by decide +kernel
theorem dX12_isCoupon_7 : decode cX12_isCoupon 7 = .ok (.if_icmp .ge 25, 3) := by decide +kernel
theorem dX12_isCoupon_10 : decode cX12_isCoupon 10 = .ok (.aload_n 0, 1) := by decide +kernel
theorem dX12_isCoupon_11 : decode cX12_isCoupon 11 = .ok (.getfield 106, 3) := by decide +kernel
theorem dX12_isCoupon_14 : decode cX12_isCoupon 14 = .ok (.iload_n 1, 1) := by decide +kernel
theorem dX12_isCoupon_15 : decode cX12_isCoupon 15 = .ok (.bipush 100, 2) := by decide +kernel
theorem dX12_isCoupon_17 : decode cX12_isCoupon 17 = .ok (.idiv, 1) := by decide +kernel
theorem dX12_isCoupon_18 : decode cX12_isCoupon 18 = .ok (.iaload, 1) := by decide +kernel
theorem dX12_isCoupon_19 : decode cX12_isCoupon 19 = .ok (.iconst 1, 1) := by decide +kernel
theorem dX12_isCoupon_20 : decode cX12_isCoupon 20 = .ok (.isub, 1) := by decide +kernel
theorem dX12_isCoupon_21 : decode cX12_isCoupon 21 = .ok (.iload_n 1, 1) := by decide +kernel
theorem dX12_isCoupon_22 : decode cX12_isCoupon 22 = .ok (.bipush 100, 2) := by decide +kernel
theorem dX12_isCoupon_24 : decode cX12_isCoupon 24 = .ok (.irem, 1) := by decide +kernel
theorem dX12_isCoupon_25 : decode cX12_isCoupon 25 = .ok (.if_icmp .le 7, 3) := by decide +kernel
theorem dX0_ownerOf_0 : decode cX0_ownerOf 0 = .ok (.aload_n 0, 1) := by decide +kernel
theorem dX0_ownerOf_1 : decode cX0_ownerOf 1 = .ok (.iload_n 1, 1) := by decide +kernel
set_option maxRecDepth 20000 in
theorem ggX0_ownerOf_X0_has : GoodIn wsX0_ownerOf wsX0_has := goodIn_sub (fa_c (me_s (me_l (List.mem_of_getElem? (i := 5) rfl))) (fa_a (fa_c (me_s (me_l (List.mem_of_getElem? (i := 6) rfl))) fa_n) (fun w h => (me_s (me_r h))))) (by decide +kernel)
set_option maxRecDepth 20000 in
theorem gX0_ownerOf_X0_has : GoodIn wsX0_ownerOf (wsV RX0 38 RX0 yX0_has wsX0_has) := goodIn_app (goodIn_sub (fa_c (me_s (me_l (List.mem_of_getElem? (i := 1) rfl))) (fa_c (me_s (me_l (List.mem_of_getElem? (i := 2) rfl))) (fa_c (me_s (me_l (List.mem_of_getElem? (i := 3) rfl))) (fa_c (me_s (me_l (List.mem_of_getElem? (i := 4) rfl))) fa_n)))) (by decide +kernel)) ggX0_ownerOf_X0_has
theorem dX0_ownerOf_2 : decode cX0_ownerOf 2 = .ok (.invokevirtual 38, 3) := by decide +kernel
theorem dX0_ownerOf_5 : decode cX0_ownerOf 5 = .ok (.ifCond .ne 5, 3) := by decide +kernel
theorem dX0_ownerOf_8 : decode cX0_ownerOf 8 = .ok (.iconst (-1), 1) := by decide +kernel
theorem dX0_ownerOf_9 : decode cX0_ownerOf 9 = .ok (.ireturn, 1) := by decide +kernel
theorem dX11_owner_0 : decode cX11_owner 0 = .ok (.aload_n 0, 1) := by decide +kernel
theorem dX11_owner_1 : decode cX11_owner 1 = .ok (.getfield 37, 3) := by decide +kernel
theorem dX11_owner_4 : decode cX11_owner 4 = .ok (.iload_n 1, 1) := by decide +kernel
set_option maxRecDepth 20000 in
theorem ggX11_owner_X0_ownerOf : GoodIn wsX11_owner wsX0_ownerOf := goodIn_sub (fa_c (me_s (me_l (me_l (List.mem_of_getElem? (i := 5) rfl)))) (fa_a (fa_c (me_s (me_l (me_l (List.mem_of_getElem? (i := 6) rfl)))) (fa_c (me_s (me_l (me_l (List.mem_of_getElem? (i := 7) rfl)))) (fa_c (me_s (me_l (me_l (List.mem_of_getElem? (i := 8) rfl)))) (fa_c (me_s (me_l (me_l (List.mem_of_getElem? (i := 9) rfl)))) (fa_c (me_s (me_l (me_l (List.mem_of_getElem? (i := 4) rfl)))) (fa_c (me_s (me_l (me_l (List.mem_of_getElem? (i := 10) rfl)))) (fa_c (me_s (me_l (me_l (List.mem_of_getElem? (i := 11) rfl)))) (fa_c (me_s (me_l (me_l (List.mem_of_getElem? (i := 12) rfl)))) (fa_c (me_s (me_l (me_l (List.mem_of_getElem? (i := 13) rfl)))) (fa_c (me_s (me_l (me_l (List.mem_of_getElem? (i := 14) rfl)))) (fa_c (me_s (me_l (me_l (List.mem_of_getElem? (i := 15) rfl)))) (fa_c (me_s (me_l (me_l (List.mem_of_getElem? (i := 16) rfl)))) (fa_c (me_s (me_l (me_l (List.mem_of_getElem? (i := 17) rfl)))) (fa_c (me_s (me_l (me_l (List.mem_of_getElem? (i := 18) rfl)))) (fa_c (me_s (me_l (me_l (List.mem_of_getElem? (i := 19) rfl)))) (fa_c (me_s (me_l (me_l (List.mem_of_getElem? (i := 20) rfl)))) fa_n)))))))))))))))) (fun w h => (me_s (me_r h))))) (by decide +kernel)
set_option maxRecDepth 20000 in
theorem gX11_owner_X0_ownerOf : GoodIn wsX11_owner (wsV RX11 175 RX0 yX0_ownerOf wsX0_ownerOf) := goodIn_app (goodIn_sub (fa_c (me_s (me_l (me_l (List.mem_of_getElem? (i := 1) rfl)))) (fa_c (me_s (me_l (me_l (List.mem_of_getElem? (i := 2) rfl)))) (fa_c (me_s (me_l (me_l (List.mem_of_getElem? (i := 3) rfl)))) (fa_c (me_s (me_l (me_l (List.mem_of_getElem? (i := 4) rfl)))) fa_n)))) (by decide +kernel)) ggX11_owner_X0_ownerOf
theorem dX11_owner_5 : decode cX11_owner 5 = .ok (.invokevirtual 175, 3) := by decide +kernel
theorem dX11_owner_8 : decode cX11_owner 8 = .ok (.ireturn, 1) := by decide +kernel
theorem dX11_lend_0 : decode cX11_lend 0 = .ok (.aload_n 0, 1) := by decide +kernel
theorem dX11_lend_1 : decode cX11_lend 1 = .ok (.getfield 37, 3) := by decide +kernel
theorem dX11_lend_4 : decode cX11_lend 4 = .ok (.iload_n 1, 1) := by decide +kernel
set_option maxRecDepth 20000 in
theorem ggX11_lend_X0_has : GoodIn wsX11_lend wsX0_has := goodIn_sub (fa_c (me_s (me_l (me_l (me_l (me_l (me_l (me_l (me_l (List.mem_of_getElem? (i := 9) rfl))))))))) (fa_a (fa_c (me_s (me_l (me_l (me_l (me_l (me_l (me_l (me_l (List.mem_of_getElem? (i := 10) rfl))))))))) fa_n) (fun w h => (me_s (me_l (me_l (me_l (me_l (me_r h))))))))) (by decide +kernel)
set_option maxRecDepth 20000 in
theorem gX11_lend_X0_has : GoodIn wsX11_lend (wsV RX11 156 RX0 yX0_has wsX0_has) := goodIn_app (goodIn_sub (fa_c (me_s (me_l (me_l (me_l (me_l (me_l (me_l (me_l (List.mem_of_getElem? (i := 5) rfl))))))))) (fa_c (me_s (me_l (me_l (me_l (me_l (me_l (me_l (me_l (List.mem_of_getElem? (i := 6) rfl))))))))) (fa_c (me_s (me_l (me_l (me_l (me_l (me_l (me_l (me_l (List.mem_of_getElem? (i := 7) rfl))))))))) (fa_c (me_s (me_l (me_l (me_l (me_l (me_l (me_l (me_l (List.mem_of_getElem? (i := 8) rfl))))))))) fa_n)))) (by decide +kernel)) ggX11_lend_X0_has
theorem dX11_lend_5 : decode cX11_lend 5 = .ok (.invokevirtual 156, 3) := by decide +kernel
theorem dX11_lend_8 : decode cX11_lend 8 = .ok (.ifCond .eq 22, 3) := by decide +kernel
theorem dX11_lend_30 : decode cX11_lend 30 = .ok (.iconst 0, 1) := by decide +kernel
theorem dX11_lend_31 : decode cX11_lend 31 = .ok (.ireturn, 1) := by decide +kernel
theorem dX12_owner_0 : decode cX12_owner 0 = .ok (.aload_n 0, 1) := by decide +kernel
theorem dX12_owner_1 : decode cX12_owner 1 = .ok (.iload_n 1, 1) := by decide +kernel
set_option maxRecDepth 20000 in
theorem ggX12_owner_X12_isCoupon : GoodIn wsX12_owner wsX12_isCoupon := goodIn_sub (fa_c (me_s (me_l (List.mem_of_getElem? (i := 4) rfl))) (fa_a (fa_c (me_s (me_l (List.mem_of_getElem? (i := 5) rfl))) (fa_c (me_s (me_l (List.mem_of_getElem? (i := 6) rfl))) fa_n)) (fun w h => (me_s (me_r h))))) (by decide +kernel)
set_option maxRecDepth 20000 in
theorem gX12_owner_X12_isCoupon : GoodIn wsX12_owner (wsV RX12 452 RX12 yX12_isCoupon wsX12_isCoupon) := goodIn_app (goodIn_sub (fa_c (me_s (me_l (List.mem_of_getElem? (i := 0) rfl))) (fa_c (me_s (me_l (List.mem_of_getElem? (i := 1) rfl))) (fa_c (me_s (me_l (List.mem_of_getElem? (i := 2) rfl))) (fa_c (me_s (me_l (List.mem_of_getElem? (i := 3) rfl))) fa_n)))) (by decide +kernel)) ggX12_owner_X12_isCoupon
theorem dX12_owner_2 : decode cX12_owner 2 = .ok (.invokevirtual 452, 3) := by decide +kernel
theorem dX12_owner_5 : decode cX12_owner 5 = .ok (.ifCond .eq 11, 3) := by decide +kernel
theorem dX12_owner_16 : decode cX12_owner 16 = .ok (.iconst (-1), 1) := by decide +kernel
theorem dX12_owner_17 : decode cX12_owner 17 = .ok (.ireturn, 1) := by decide +kernel
theorem dX12_lend_0 : decode cX12_lend 0 = .ok (.aload_n 0, 1) := by decide +kernel
theorem dX12_lend_1 : decode cX12_lend 1 = .ok (.iload_n 1, 1) := by decide +kernel
set_option maxRecDepth 20000 in
theorem ggX12_lend_X12_isCoupon : GoodIn wsX12_lend wsX12_isCoupon := goodIn_sub (fa_c (me_s (me_l (me_l (List.mem_of_getElem? (i := 8) rfl)))) (fa_a (fa_c (me_s (me_l (me_l (List.mem_of_getElem? (i := 9) rfl)))) (fa_c (me_s (me_l (me_l (List.mem_of_getElem? (i := 10) rfl)))) fa_n)) (fun w h => (me_s (me_r h))))) (by decide +kernel)
set_option maxRecDepth 20000 in
theorem gX12_lend_X12_isCoupon : GoodIn wsX12_lend (wsV RX12 452 RX12 yX12_isCoupon wsX12_isCoupon) := goodIn_app (goodIn_sub (fa_c (me_s (me_l (me_l (List.mem_of_getElem? (i := 4) rfl)))) (fa_c (me_s (me_l (me_l (List.mem_of_getElem? (i := 5) rfl)))) (fa_c (me_s (me_l (me_l (List.mem_of_getElem? (i := 6) rfl)))) (fa_c (me_s (me_l (me_l (List.mem_of_getElem? (i := 7) rfl)))) fa_n)))) (by decide +kernel)) ggX12_lend_X12_isCoupon
theorem dX12_lend_2 : decode cX12_lend 2 = .ok (.invokevirtual 452, 3) := by decide +kernel
theorem dX12_lend_5 : decode cX12_lend 5 = .ok (.ifCond .eq 38, 3) := by decide +kernel
theorem dX12_lend_43 : decode cX12_lend 43 = .ok (.iconst 0, 1) := by decide +kernel
theorem dX12_lend_44 : decode cX12_lend 44 = .ok (.ireturn, 1) := by decide +kernel
theorem dX12_inForce_0 : decode cX12_inForce 0 = .ok (.iconst (-1), 1) := by decide +kernel
theorem dX12_inForce_1 : decode cX12_inForce 1 = .ok (.istore_n 3, 1) := by decide +kernel
theorem dX12_inForce_2 : decode cX12_inForce 2 = .ok (.iconst 0, 1) := by decide +kernel
theorem dX12_inForce_3 : decode cX12_inForce 3 = .ok (.istore 4, 2) := by decide +kernel
theorem dX12_inForce_5 : decode cX12_inForce 5 = .ok (.iload 4, 2) := by decide +kernel
theorem dX12_inForce_7 : decode cX12_inForce 7 = .ok (.aload_n 0, 1) := by decide +kernel
theorem dX12_inForce_8 : decode cX12_inForce 8 = .ok (.getfield 408, 3) := by decide +kernel
theorem dX12_inForce_11 : decode cX12_inForce 11 = .ok (.if_icmp .ge 54, 3) := by decide +kernel
theorem dX12_inForce_65 : decode cX12_inForce 65 = .ok (.iload_n 3, 1) := by decide +kernel
theorem dX12_inForce_66 : decode cX12_inForce 66 = .ok (.ireturn, 1) := by decide +kernel
