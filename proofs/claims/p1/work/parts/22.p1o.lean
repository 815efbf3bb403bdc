theorem dJ7_copyOf_59c91_0 : decode cJ7_copyOf_59c91 0 = .ok (.iload_n 1, 1) := by decide +kernel
theorem dJ7_copyOf_59c91_1 : decode cJ7_copyOf_59c91 1 = .ok (.aload_n 0, 1) := by decide +kernel
theorem dJ7_copyOf_59c91_2 : decode cJ7_copyOf_59c91 2 = .ok (.arraylength, 1) := by decide +kernel
theorem dJ7_copyOf_59c91_3 : decode cJ7_copyOf_59c91 3 = .ok (.if_icmp .ne 11, 3) := by decide +kernel
theorem dJ7_copyOf_59c91_14 : decode cJ7_copyOf_59c91 14 = .ok (.iload_n 1, 1) := by decide +kernel
theorem dJ7_copyOf_59c91_15 : decode cJ7_copyOf_59c91 15 = .ok (.newarray .int, 2) := by decide +kernel
theorem dJ7_copyOf_59c91_17 : decode cJ7_copyOf_59c91 17 = .ok (.astore_n 2, 1) := by decide +kernel
theorem dJ7_copyOf_59c91_18 : decode cJ7_copyOf_59c91 18 = .ok (.aload_n 0, 1) := by decide +kernel
theorem dJ7_copyOf_59c91_19 : decode cJ7_copyOf_59c91 19 = .ok (.iconst 0, 1) := by decide +kernel
theorem dJ7_copyOf_59c91_20 : decode cJ7_copyOf_59c91 20 = .ok (.aload_n 2, 1) := by decide +kernel
theorem dJ7_copyOf_59c91_21 : decode cJ7_copyOf_59c91 21 = .ok (.iconst 0, 1) := by decide +kernel
theorem dJ7_copyOf_59c91_22 : decode cJ7_copyOf_59c91 22 = .ok (.aload_n 0, 1) := by decide +kernel
theorem dJ7_copyOf_59c91_23 : decode cJ7_copyOf_59c91 23 = .ok (.arraylength, 1) := by decide +kernel
theorem dJ7_copyOf_59c91_24 : decode cJ7_copyOf_59c91 24 = .ok (.iload_n 1, 1) := by decide +kernel
theorem dJ7_copyOf_59c91_25 : decode cJ7_copyOf_59c91 25 = .ok (.invokestatic 304, 3) := by decide +kernel
theorem dJ7_copyOf_59c91_28 : decode cJ7_copyOf_59c91 28 = .ok (.invokestatic 150, 3) := by decide +kernel
theorem dJ7_copyOf_59c91_31 : decode cJ7_copyOf_59c91 31 = .ok (.aload_n 2, 1) := by decide +kernel
theorem dJ7_copyOf_59c91_32 : decode cJ7_copyOf_59c91 32 = .ok (.areturn, 1) := by decide +kernel
theorem dX7_init_0 : decode cX7_init 0 = .ok (.aload_n 0, 1) := by decide +kernel
theorem dX7_init_1 : decode cX7_init 1 = .ok (.invokespecial 3, 3) := by decide +kernel
theorem dX7_init_4 : decode cX7_init 4 = .ok (.aload_n 0, 1) := by decide +kernel
theorem dX7_init_5 : decode cX7_init 5 = .ok (.iload_n 2, 1) := by decide +kernel
theorem dX7_init_6 : decode cX7_init 6 = .ok (.putfield 9, 3) := by decide +kernel
theorem dX7_init_9 : decode cX7_init 9 = .ok (.aload_n 0, 1) := by decide +kernel
theorem dX7_init_10 : decode cX7_init 10 = .ok (.iload_n 3, 1) := by decide +kernel
theorem dX7_init_11 : decode cX7_init 11 = .ok (.putfield 15, 3) := by decide +kernel
theorem dX7_init_14 : decode cX7_init 14 = .ok (.aload_n 1, 1) := by decide +kernel
theorem dX7_init_15 : decode cX7_init 15 = .ok (.getfield 18, 3) := by decide +kernel
theorem dX7_init_18 : decode cX7_init 18 = .ok (.iconst 0, 1) := by decide +kernel
theorem dX7_init_19 : decode cX7_init 19 = .ok (.bipush 24, 2) := by decide +kernel
set_option maxRecDepth 20000 in
theorem ggX7_init_X11_within : GoodIn wsX7_init wsX11_within := goodIn_r _ [18] (by decide +kernel) (by decide +kernel)
set_option maxRecDepth 20000 in
theorem gX7_init_X11_within_n23 : GoodIn wsX7_init (wsX11_within) := ggX7_init_X11_within
theorem dX7_init_21 : decode cX7_init 21 = .ok (.invokestatic 23, 3) := by decide +kernel
theorem dX7_init_24 : decode cX7_init 24 = .ok (.ifCond .eq 10, 3) := by decide +kernel
theorem dX7_init_27 : decode cX7_init 27 = .ok (.aload_n 1, 1) := by decide +kernel
theorem dX7_init_28 : decode cX7_init 28 = .ok (.getfield 18, 3) := by decide +kernel
theorem dX7_init_31 : decode cX7_init 31 = .ok (.goto 4, 3) := by decide +kernel
theorem dX7_init_35 : decode cX7_init 35 = .ok (.istore 4, 2) := by decide +kernel
theorem dX7_init_37 : decode cX7_init 37 = .ok (.aload_n 1, 1) := by decide +kernel
theorem dX7_init_38 : decode cX7_init 38 = .ok (.getfield 27, 3) := by decide +kernel
theorem dX7_init_41 : decode cX7_init 41 = .ok (.iconst 0, 1) := by decide +kernel
theorem dX7_init_42 : decode cX7_init 42 = .ok (.sipush 500, 3) := by decide +kernel
theorem dX7_init_45 : decode cX7_init 45 = .ok (.invokestatic 23, 3) := by decide +kernel
theorem dX7_init_48 : decode cX7_init 48 = .ok (.ifCond .eq 10, 3) := by decide +kernel
theorem dX7_init_51 : decode cX7_init 51 = .ok (.aload_n 1, 1) := by decide +kernel
theorem dX7_init_52 : decode cX7_init 52 = .ok (.getfield 27, 3) := by decide +kernel
theorem dX7_init_55 : decode cX7_init 55 = .ok (.goto 4, 3) := by decide +kernel
theorem dX7_init_59 : decode cX7_init 59 = .ok (.istore 5, 2) := by decide +kernel
theorem dX7_init_61 : decode cX7_init 61 = .ok (.aload_n 0, 1) := by decide +kernel
theorem dX7_init_62 : decode cX7_init 62 = .ok (.aload_n 1, 1) := by decide +kernel
theorem dX7_init_63 : decode cX7_init 63 = .ok (.getfield 30, 3) := by decide +kernel
theorem dX7_init_66 : decode cX7_init 66 = .ok (.iload 4, 2) := by decide +kernel
set_option maxRecDepth 20000 in
theorem ggX7_init_J7_copyOf_59c91 : GoodIn wsX7_init wsJ7_copyOf_59c91 := goodIn_r _ [22, 23, 24, 25, 26, 27, 28, 29, 30, 31, 32, 33, 34, 35, 36, 37] (by decide +kernel) (by decide +kernel)
set_option maxRecDepth 20000 in
theorem gX7_init_J7_copyOf_59c91 : GoodIn wsX7_init (va_wsS RX7 34 yJ7_copyOf_59c91 wsJ7_copyOf_59c91) := goodIn_app (goodIn_of _ (by decide +kernel)) ggX7_init_J7_copyOf_59c91
theorem dX7_init_68 : decode cX7_init 68 = .ok (.invokestatic 34, 3) := by decide +kernel
theorem dX7_init_71 : decode cX7_init 71 = .ok (.putfield 40, 3) := by decide +kernel
theorem dX7_init_74 : decode cX7_init 74 = .ok (.aload_n 0, 1) := by decide +kernel
theorem dX7_init_75 : decode cX7_init 75 = .ok (.aload_n 1, 1) := by decide +kernel
theorem dX7_init_76 : decode cX7_init 76 = .ok (.getfield 41, 3) := by decide +kernel
theorem dX7_init_79 : decode cX7_init 79 = .ok (.iload 4, 2) := by decide +kernel
theorem dX7_init_81 : decode cX7_init 81 = .ok (.invokestatic 34, 3) := by decide +kernel
theorem dX7_init_84 : decode cX7_init 84 = .ok (.putfield 44, 3) := by decide +kernel
theorem dX7_init_87 : decode cX7_init 87 = .ok (.aload_n 0, 1) := by decide +kernel
theorem dX7_init_88 : decode cX7_init 88 = .ok (.aload_n 1, 1) := by decide +kernel
theorem dX7_init_89 : decode cX7_init 89 = .ok (.getfield 45, 3) := by decide +kernel
theorem dX7_init_92 : decode cX7_init 92 = .ok (.iload 4, 2) := by decide +kernel
theorem dX7_init_94 : decode cX7_init 94 = .ok (.invokestatic 34, 3) := by decide +kernel
theorem dX7_init_97 : decode cX7_init 97 = .ok (.putfield 48, 3) := by decide +kernel
theorem dX7_init_100 : decode cX7_init 100 = .ok (.aload_n 0, 1) := by decide +kernel
theorem dX7_init_101 : decode cX7_init 101 = .ok (.aload_n 1, 1) := by decide +kernel
theorem dX7_init_102 : decode cX7_init 102 = .ok (.getfield 49, 3) := by decide +kernel
theorem dX7_init_105 : decode cX7_init 105 = .ok (.iload 5, 2) := by decide +kernel
theorem dX7_init_107 : decode cX7_init 107 = .ok (.invokestatic 34, 3) := by decide +kernel
theorem dX7_init_110 : decode cX7_init 110 = .ok (.putfield 52, 3) := by decide +kernel
theorem dX7_init_113 : decode cX7_init 113 = .ok (.return_, 1) := by decide +kernel
theorem dX7_init_58 : decode cX7_init 58 = .ok (.iconst 0, 1) := by decide +kernel
theorem dX7_init_34 : decode cX7_init 34 = .ok (.iconst 0, 1) := by decide +kernel
theorem dX6_add_0 : decode cX6_add 0 = .ok (.aload_n 0, 1) := by decide +kernel
theorem dX6_add_1 : decode cX6_add 1 = .ok (.getfield 24, 3) := by decide +kernel
theorem dX6_add_4 : decode cX6_add 4 = .ok (.aload_n 0, 1) := by decide +kernel
theorem dX6_add_5 : decode cX6_add 5 = .ok (.getfield 11, 3) := by decide +kernel
theorem dX6_add_8 : decode cX6_add 8 = .ok (.arraylength, 1) := by decide +kernel
theorem dX6_add_9 : decode cX6_add 9 = .ok (.if_icmp .lt 5, 3) := by decide +kernel
theorem dX6_add_14 : decode cX6_add 14 = .ok (.aload_n 0, 1) := by decide +kernel
theorem dX6_add_15 : decode cX6_add 15 = .ok (.getfield 11, 3) := by decide +kernel
theorem dX6_add_18 : decode cX6_add 18 = .ok (.aload_n 0, 1) := by decide +kernel
theorem dX6_add_19 : decode cX6_add 19 = .ok (.getfield 24, 3) := by decide +kernel
theorem dX6_add_22 : decode cX6_add 22 = .ok (.aload_n 1, 1) := by decide +kernel
theorem dX6_add_23 : decode cX6_add 23 = .ok (.aastore, 1) := by decide +kernel
theorem dX6_add_24 : decode cX6_add 24 = .ok (.aload_n 0, 1) := by decide +kernel
theorem dX6_add_25 : decode cX6_add 25 = .ok (.dup, 1) := by decide +kernel
theorem dX6_add_26 : decode cX6_add 26 = .ok (.getfield 24, 3) := by decide +kernel
theorem dX6_add_29 : decode cX6_add 29 = .ok (.iconst 1, 1) := by decide +kernel
theorem dX6_add_30 : decode cX6_add 30 = .ok (.iadd, 1) := by decide +kernel
theorem dX6_add_31 : decode cX6_add 31 = .ok (.putfield 24, 3) := by decide +kernel
theorem dX6_add_34 : decode cX6_add 34 = .ok (.aload_n 0, 1) := by decide +kernel
theorem dX6_add_35 : decode cX6_add 35 = .ok (.getfield 24, 3) := by decide +kernel
theorem dX6_add_38 : decode cX6_add 38 = .ok (.iconst 1, 1) := by decide +kernel
theorem dX6_add_39 : decode cX6_add 39 = .ok (.isub, 1) := by decide +kernel
theorem dX6_add_40 : decode cX6_add 40 = .ok (.ireturn, 1) := by decide +kernel
theorem dX11_orders_0 : decode cX11_orders 0 = .ok (.iload_n 1, 1) := by decide +kernel
theorem dX11_orders_1 : decode cX11_orders 1 = .ok (.ifCond .lt 21, 3) := by decide +kernel
theorem dX11_orders_22 : decode cX11_orders 22 = .ok (.bipush (-2), 2) := by decide +kernel
theorem dX11_orders_24 : decode cX11_orders 24 = .ok (.ireturn, 1) := by decide +kernel
theorem dX11_orders_4 : decode cX11_orders 4 = .ok (.iload_n 1, 1) := by decide +kernel
theorem dX11_orders_5 : decode cX11_orders 5 = .ok (.aload_n 0, 1) := by decide +kernel
theorem dX11_orders_6 : decode cX11_orders 6 = .ok (.getfield 23, 3) := by decide +kernel
theorem dX11_orders_9 : decode cX11_orders 9 = .ok (.getfield 115, 3) := by decide +kernel
theorem dX11_orders_12 : decode cX11_orders 12 = .ok (.if_icmp .gt 10, 3) := by decide +kernel
theorem dX11_orders_15 : decode cX11_orders 15 = .ok (.iload_n 2, 1) := by decide +kernel
set_option maxRecDepth 20000 in
theorem ggX11_orders_X11_isMonth : GoodIn wsX11_orders wsX11_isMonth := goodIn_r _ [13, 14, 15, 12, 16] (by decide +kernel) (by decide +kernel)
set_option maxRecDepth 20000 in
theorem gX11_orders_X11_isMonth : GoodIn wsX11_orders (va_wsS RX11 122 yX11_isMonth wsX11_isMonth) := goodIn_app (goodIn_of _ (by decide +kernel)) ggX11_orders_X11_isMonth
theorem dX11_orders_16 : decode cX11_orders 16 = .ok (.invokestatic 122, 3) := by decide +kernel
theorem dX11_orders_19 : decode cX11_orders 19 = .ok (.ifCond .ne 6, 3) := by decide +kernel
theorem dX11_orders_25 : decode cX11_orders 25 = .ok (.aload_n 0, 1) := by decide +kernel
theorem dX11_orders_26 : decode cX11_orders 26 = .ok (.getfield 30, 3) := by decide +kernel
theorem dX11_orders_29 : decode cX11_orders 29 = .ok (.getfield 125, 3) := by decide +kernel
theorem dX11_orders_32 : decode cX11_orders 32 = .ok (.bipush 12, 2) := by decide +kernel
theorem dX11_orders_34 : decode cX11_orders 34 = .ok (.if_icmp .lt 6, 3) := by decide +kernel
theorem dX11_orders_40 : decode cX11_orders 40 = .ok (.aload_n 0, 1) := by decide +kernel
theorem dX11_orders_41 : decode cX11_orders 41 = .ok (.aload_n 0, 1) := by decide +kernel
theorem dX11_orders_42 : decode cX11_orders 42 = .ok (.getfield 23, 3) := by decide +kernel
theorem dX11_orders_45 : decode cX11_orders 45 = .ok (.iload_n 1, 1) := by decide +kernel
set_option maxRecDepth 20000 in
theorem ggX11_orders_X9_read : GoodIn wsX11_orders wsX9_read := goodIn_r _ [21, 22, 23, 24, 25, 26, 27, 28, 29, 30, 31, 32, 33, 20, 34, 35, 36, 37, 38, 39, 40, 41, 42, 43, 44, 45, 46, 47, 48, 49, 50, 51, 52, 53, 54, 55, 56, 57, 58, 59, 60, 61, 62, 63, 64, 65, 66, 67, 68, 69, 70, 71, 72, 73, 74, 75, 76, 77, 78, 79, 80, 81, 82, 83, 84, 85, 86, 87, 88, 89, 90, 91, 92, 93, 94, 95, 96, 97, 98, 99, 100, 101, 102, 103, 104, 105, 106, 107, 108, 109, 110, 111, 112, 113, 114, 115, 116, 117, 118, 119, 120, 121, 122, 123, 124, 125, 126, 127, 128, 129, 130, 131, 132, 133, 134, 135, 136, 137, 138, 139, 140, 141, 142, 143, 144, 145, 146, 147, 148, 149, 150, 151, 152, 153, 154, 155, 156, 157, 158, 159, 160, 161, 162, 163, 164, 165, 166, 167, 168, 169, 170, 171, 172, 173, 174, 175, 176, 177, 178, 179, 180, 181, 182, 183, 184, 185, 186, 187, 188, 189, 190, 191, 192, 193, 194, 249, 250, 251, 252, 253, 254, 255, 256, 257, 258, 259, 260, 261, 262] (by decide +kernel) (by decide +kernel)
set_option maxRecDepth 20000 in
theorem gX11_orders_X9_read : GoodIn wsX11_orders (wsV RX11 128 RX9 yX9_read wsX9_read) := goodIn_app (goodIn_of _ (by decide +kernel)) ggX11_orders_X9_read
theorem dX11_orders_46 : decode cX11_orders 46 = .ok (.invokevirtual 128, 3) := by decide +kernel
theorem dX11_orders_49 : decode cX11_orders 49 = .ok (.putfield 9, 3) := by decide +kernel
theorem dX11_orders_52 : decode cX11_orders 52 = .ok (.aload_n 0, 1) := by decide +kernel
theorem dX11_orders_53 : decode cX11_orders 53 = .ok (.getfield 9, 3) := by decide +kernel
theorem dX11_orders_56 : decode cX11_orders 56 = .ok (.iconst (-1), 1) := by decide +kernel
theorem dX11_orders_57 : decode cX11_orders 57 = .ok (.if_icmp .eq 5, 3) := by decide +kernel
theorem dX11_orders_62 : decode cX11_orders 62 = .ok (.aload_n 0, 1) := by decide +kernel
theorem dX11_orders_63 : decode cX11_orders 63 = .ok (.getfield 30, 3) := by decide +kernel
theorem dX11_orders_66 : decode cX11_orders 66 = .ok (.new 132, 3) := by decide +kernel
theorem dX11_orders_69 : decode cX11_orders 69 = .ok (.dup, 1) := by decide +kernel
theorem dX11_orders_70 : decode cX11_orders 70 = .ok (.aload_n 0, 1) := by decide +kernel
theorem dX11_orders_71 : decode cX11_orders 71 = .ok (.getfield 23, 3) := by decide +kernel
theorem dX11_orders_74 : decode cX11_orders 74 = .ok (.iload_n 2, 1) := by decide +kernel
theorem dX11_orders_75 : decode cX11_orders 75 = .ok (.aload_n 0, 1) := by decide +kernel
theorem dX11_orders_76 : decode cX11_orders 76 = .ok (.getfield 85, 3) := by decide +kernel
set_option maxRecDepth 20000 in
theorem ggX11_orders_X7_init : GoodIn wsX11_orders wsX7_init := goodIn_r _ [197, 198, 199, 200, 201, 202, 203, 204, 205, 206, 207, 208, 209, 210, 211, 212, 15, 12, 16, 213, 214, 215, 216, 217, 218, 219, 220, 221, 222, 223, 224, 24, 25, 26, 225, 226, 227, 228, 266, 267, 268, 269, 270, 271, 249, 250, 251, 252, 253, 254, 255, 256, 257, 258, 259, 260, 261, 262] (by decide +kernel) (by decide +kernel)
set_option maxRecDepth 20000 in
theorem gX11_orders_X7_init : GoodIn wsX11_orders (wsX7_init) := ggX11_orders_X7_init
theorem dX11_orders_79 : decode cX11_orders 79 = .ok (.invokespecial 134, 3) := by decide +kernel
set_option maxRecDepth 20000 in
theorem ggX11_orders_X6_add : GoodIn wsX11_orders wsX6_add := goodIn_r _ [233, 234, 235, 263, 264, 265] (by decide +kernel) (by decide +kernel)
set_option maxRecDepth 20000 in
theorem gX11_orders_X6_add : GoodIn wsX11_orders (wsV RX11 137 RX6 yX6_add wsX6_add) := goodIn_app (goodIn_of _ (by decide +kernel)) ggX11_orders_X6_add
theorem dX11_orders_82 : decode cX11_orders 82 = .ok (.invokevirtual 137, 3) := by decide +kernel
theorem dX11_orders_85 : decode cX11_orders 85 = .ok (.ireturn, 1) := by decide +kernel

set_option maxHeartbeats 4000000 in
set_option maxRecDepth 100000 in
theorem ct_J7_copyOf_24 (l : Launch) (G : z_G) (ad : Nat → Nat) (u : z_U) (i : Nat) (hi : u.1 i = some (.inl (.int, 24))) : z_Mq l yJ7_copyOf_59c91 wsJ7_copyOf_59c91 { frames := 1, cells := 1, slots := 0, locals := 40 } [.ref (u.2.1 i), .int 0] G u (fun r u1 => ∃ a : Nat, r = some a ∧ u1 = u) 1 0 := by
  intro sz
  refine z_headQ (cc := cJ7_copyOf_59c91) (maxL := 3) (ret := (some (.array .int))) (by decide) rfl (Nat.le_of_ble_eq_true rfl) ?_
  intro p e s m below meth c ls hIn hK hsz hW hl
  obtain ⟨hx, hb, hr, hml, hown, hts, hlocks, hname⟩ := hIn
  subst hsz
  have hown : s.vm.findClass RJ7 = some m.cls := hown
  have hA : ∀ q : Nat, s.heap.size ≤ q → z_A u s.heap.size q := fun q h => Or.inr h
  generalize hAe : z_A u s.heap.size = A at *
  have hS : va_S A s.heap s.heap [] := va_S.rf
  have hl : lv_has ls 3 [(0, .ref (u.2.1 i)), (1, .int 0)] := hl
  refine lv_iload_n hx hb dJ7_copyOf_59c91_0 rfl (lv_at hl 1 rfl) ?_
  refine lv_aload_n hx hb dJ7_copyOf_59c91_1 rfl (lv_at hl 0 rfl) ?_
  refine z_alen (i := i) (v := 24) hx hb hK hW hi (by simp [z_tys]) (by rfl) dJ7_copyOf_59c91_2 ?_
  refine lv_icmp_ne (tgt := 14) hx hb dJ7_copyOf_59c91_3 (by decide) (fun c1 => ?_) (fun c1 => absurd c1 (by decide))
  refine lv_iload_n hx hb dJ7_copyOf_59c91_14 rfl (lv_at hl 1 rfl) ?_
  refine z_newF (N' := 0) hx hb (hts (.arrayClass .int) (List.mem_of_getElem? (i := 7) rfl)) hK hW hS (by decide) rfl (Nat.le_of_ble_eq_true rfl) (Nat.le_of_ble_eq_true rfl) (Nat.le_of_ble_eq_true rfl) dJ7_copyOf_59c91_15 (fun q2 H hq1 hq2 hW hS => ?_)
  refine lv_astore_n (lv' := [(2, .ref q2), (0, .ref (u.2.1 i)), (1, .int 0)]) hx hb dJ7_copyOf_59c91_17 rfl hl (by decide) rfl (fun ls hl => ?_)
  refine lv_aload_n hx hb dJ7_copyOf_59c91_18 rfl (lv_at hl 1 rfl) ?_
  refine lv_iconst (v := 0) hx hb dJ7_copyOf_59c91_19 (by decide) ?_
  refine lv_aload_n hx hb dJ7_copyOf_59c91_20 rfl (lv_at hl 0 rfl) ?_
  refine lv_iconst (v := 0) hx hb dJ7_copyOf_59c91_21 (by decide) ?_
  refine lv_aload_n hx hb dJ7_copyOf_59c91_22 rfl (lv_at hl 1 rfl) ?_
  refine z_alen (i := i) (v := 24) hx hb hK hW hi (by simp [z_tys]) (by rfl) dJ7_copyOf_59c91_23 ?_
  refine lv_iload_n hx hb dJ7_copyOf_59c91_24 rfl (lv_at hl 2 rfl) ?_
  refine va_mmin (x := 24) (y := 0) hx hb (hml.trans hl.1.symm) hown (hts (.methodLink RJ7 304 Lib.Math.min.name) (List.mem_of_getElem? (i := 8) rfl)) (hts (.static Lib.Math.min.name) (List.mem_of_getElem? (i := 9) rfl)) (hts (.initialized "java/lang/Math") (List.mem_of_getElem? (i := 10) rfl)) (hts (.code Lib.Math.min.name Lib.Math.min.code 2 (some .int)) (List.mem_of_getElem? (i := 11) rfl)) (Nat.le_of_ble_eq_true rfl) (Nat.le_of_ble_eq_true rfl) (Nat.le_of_ble_eq_true rfl) (Nat.le_of_ble_eq_true rfl) dJ7_copyOf_59c91_25 ?_
  refine z_topi (v := 0) (by decide) ?_
  refine z_copy0 (i := i) hx hb (hml.trans hl.1.symm) hown (hts (.methodLink RJ7 150 arraycopyName) (List.mem_of_getElem? (i := 12) rfl)) (hts (.native arraycopyName) (List.mem_of_getElem? (i := 13) rfl)) (hts (.static arraycopyName) (List.mem_of_getElem? (i := 14) rfl)) (hts (.initialized "java/lang/System") (List.mem_of_getElem? (i := 15) rfl)) hK hW hS hi hq2 (Nat.le_of_ble_eq_true rfl) (Nat.le_of_ble_eq_true rfl) dJ7_copyOf_59c91_28 (fun H hW hS => ?_)
  refine lv_aload_n hx hb dJ7_copyOf_59c91_31 rfl (lv_at hl 0 rfl) ?_
  exact z_qret hx hb hr hK hS (Nat.le_of_ble_eq_true rfl) (Nat.le_of_ble_eq_true rfl) hlocks dJ7_copyOf_59c91_32 u hW ⟨_, rfl, rfl⟩
set_option maxHeartbeats 4000000 in
set_option maxRecDepth 100000 in
theorem ct_J7_copyOf_500 (l : Launch) (G : z_G) (ad : Nat → Nat) (u : z_U) (i : Nat) (hi : u.1 i = some (.inl (.int, 500))) : z_Mq l yJ7_copyOf_59c91 wsJ7_copyOf_59c91 { frames := 1, cells := 1, slots := 0, locals := 40 } [.ref (u.2.1 i), .int 0] G u (fun r u1 => ∃ a : Nat, r = some a ∧ u1 = u) 1 0 := by
  intro sz
  refine z_headQ (cc := cJ7_copyOf_59c91) (maxL := 3) (ret := (some (.array .int))) (by decide) rfl (Nat.le_of_ble_eq_true rfl) ?_
  intro p e s m below meth c ls hIn hK hsz hW hl
  obtain ⟨hx, hb, hr, hml, hown, hts, hlocks, hname⟩ := hIn
  subst hsz
  have hown : s.vm.findClass RJ7 = some m.cls := hown
  have hA : ∀ q : Nat, s.heap.size ≤ q → z_A u s.heap.size q := fun q h => Or.inr h
  generalize hAe : z_A u s.heap.size = A at *
  have hS : va_S A s.heap s.heap [] := va_S.rf
  have hl : lv_has ls 3 [(0, .ref (u.2.1 i)), (1, .int 0)] := hl
  refine lv_iload_n hx hb dJ7_copyOf_59c91_0 rfl (lv_at hl 1 rfl) ?_
  refine lv_aload_n hx hb dJ7_copyOf_59c91_1 rfl (lv_at hl 0 rfl) ?_
  refine z_alen (i := i) (v := 500) hx hb hK hW hi (by simp [z_tys]) (by rfl) dJ7_copyOf_59c91_2 ?_
  refine lv_icmp_ne (tgt := 14) hx hb dJ7_copyOf_59c91_3 (by decide) (fun c1 => ?_) (fun c1 => absurd c1 (by decide))
  refine lv_iload_n hx hb dJ7_copyOf_59c91_14 rfl (lv_at hl 1 rfl) ?_
  refine z_newF (N' := 0) hx hb (hts (.arrayClass .int) (List.mem_of_getElem? (i := 7) rfl)) hK hW hS (by decide) rfl (Nat.le_of_ble_eq_true rfl) (Nat.le_of_ble_eq_true rfl) (Nat.le_of_ble_eq_true rfl) dJ7_copyOf_59c91_15 (fun q2 H hq1 hq2 hW hS => ?_)
  refine lv_astore_n (lv' := [(2, .ref q2), (0, .ref (u.2.1 i)), (1, .int 0)]) hx hb dJ7_copyOf_59c91_17 rfl hl (by decide) rfl (fun ls hl => ?_)
  refine lv_aload_n hx hb dJ7_copyOf_59c91_18 rfl (lv_at hl 1 rfl) ?_
  refine lv_iconst (v := 0) hx hb dJ7_copyOf_59c91_19 (by decide) ?_
  refine lv_aload_n hx hb dJ7_copyOf_59c91_20 rfl (lv_at hl 0 rfl) ?_
  refine lv_iconst (v := 0) hx hb dJ7_copyOf_59c91_21 (by decide) ?_
  refine lv_aload_n hx hb dJ7_copyOf_59c91_22 rfl (lv_at hl 1 rfl) ?_
  refine z_alen (i := i) (v := 500) hx hb hK hW hi (by simp [z_tys]) (by rfl) dJ7_copyOf_59c91_23 ?_
  refine lv_iload_n hx hb dJ7_copyOf_59c91_24 rfl (lv_at hl 2 rfl) ?_
  refine va_mmin (x := 500) (y := 0) hx hb (hml.trans hl.1.symm) hown (hts (.methodLink RJ7 304 Lib.Math.min.name) (List.mem_of_getElem? (i := 8) rfl)) (hts (.static Lib.Math.min.name) (List.mem_of_getElem? (i := 9) rfl)) (hts (.initialized "java/lang/Math") (List.mem_of_getElem? (i := 10) rfl)) (hts (.code Lib.Math.min.name Lib.Math.min.code 2 (some .int)) (List.mem_of_getElem? (i := 11) rfl)) (Nat.le_of_ble_eq_true rfl) (Nat.le_of_ble_eq_true rfl) (Nat.le_of_ble_eq_true rfl) (Nat.le_of_ble_eq_true rfl) dJ7_copyOf_59c91_25 ?_
  refine z_topi (v := 0) (by decide) ?_
  refine z_copy0 (i := i) hx hb (hml.trans hl.1.symm) hown (hts (.methodLink RJ7 150 arraycopyName) (List.mem_of_getElem? (i := 12) rfl)) (hts (.native arraycopyName) (List.mem_of_getElem? (i := 13) rfl)) (hts (.static arraycopyName) (List.mem_of_getElem? (i := 14) rfl)) (hts (.initialized "java/lang/System") (List.mem_of_getElem? (i := 15) rfl)) hK hW hS hi hq2 (Nat.le_of_ble_eq_true rfl) (Nat.le_of_ble_eq_true rfl) dJ7_copyOf_59c91_28 (fun H hW hS => ?_)
  refine lv_aload_n hx hb dJ7_copyOf_59c91_31 rfl (lv_at hl 0 rfl) ?_
  exact z_qret hx hb hr hK hS (Nat.le_of_ble_eq_true rfl) (Nat.le_of_ble_eq_true rfl) hlocks dJ7_copyOf_59c91_32 u hW ⟨_, rfl, rfl⟩
theorem zi_X7_init_X7 : ∀ w ∈ wsX70, w ∈ wsX7_init := fun w h => (List.mem_cons_of_mem _ (List.mem_append_left _ (List.mem_append_right _ h)))
theorem zi_X7_init_X9 : ∀ w ∈ wsX90, w ∈ wsX7_init := fun w h => (List.mem_cons_of_mem _ (List.mem_append_right _ h))
set_option maxHeartbeats 4000000 in
set_option maxRecDepth 100000 in
theorem ct_X7_init (l : Launch) (G : z_G) (ad : Nat → Nat) (I : z_I) (P : z_P) (a2 : Int32) (a3 : Int32) (hs : I 12 13 = 0) (hu : I 12 9 = 0) (p1 : P 12 10 = some (ad 18)) (p2 : P 12 11 = some (ad 19)) (p3 : P 12 12 = some (ad 20)) (p4 : P 12 8 = some (ad 17)) : z_Mv l yX7_init wsX7_init { frames := 2, cells := 4, slots := 0, locals := 62 } [.ref (ad 75), .ref (ad 12), .int a2, .int a3] G ((z_sh shX 75 (.inr 7)), ad, I, JX, P) (fun u1 => ∃ (I1 : z_I) (P1 : z_P), u1 = ((z_sh shX 75 (.inr 7)), ad, I1, JX, P1) ∧ (∀ a k, a ≠ 75 → I1 a k = I a k) ∧ ∀ a k, a ≠ 75 → P1 a k = P a k) 4 0 := by
  intro sz
  refine z_headQ (cc := cX7_init) (maxL := 6) (ret := none) (by decide) rfl (Nat.le_of_ble_eq_true rfl) ?_
  intro p e s m below meth c ls hIn hK hsz hW hl
  obtain ⟨hx, hb, hr, hml, hown, hts, hlocks, hname⟩ := hIn
  subst hsz
  have hown : s.vm.findClass RX7 = some m.cls := hown
  have hA : ∀ q : Nat, s.heap.size ≤ q → z_A ((z_sh shX 75 (.inr 7)), ad, I, JX, P) s.heap.size q := fun q h => Or.inr h
  generalize hAe : z_A ((z_sh shX 75 (.inr 7)), ad, I, JX, P) s.heap.size = A at *
  have hS : va_S A s.heap s.heap [] := va_S.rf
  have hl : lv_has ls 6 [(0, .ref (ad 75)), (1, .ref (ad 12)), (2, .int a2), (3, .int a3)] := hl
  have hname : meth.name = "<init>" := hname
  refine lv_aload_n hx hb dX7_init_0 rfl (lv_at hl 0 rfl) ?_
  refine W.objInit hx hb hown (hts (.methodLink RX7 3 objectInit) (List.mem_of_getElem? (i := 1) rfl)) (hts (.instanceMethod objectInit) (List.mem_of_getElem? (i := 2) rfl)) (hts (.code objectInit ⟨#[0xb1]⟩ 1 none) (List.mem_of_getElem? (i := 3) rfl)) rfl (by rw [hml]; exact hl.1) rfl dX7_init_1 (Nat.le_of_ble_eq_true rfl) (Nat.le_of_ble_eq_true rfl) ?_
  refine W.eq (g2 := F0 m 4 ls []) rfl ?_
  refine lv_aload_n hx hb dX7_init_4 rfl (lv_at hl 0 rfl) ?_
  refine lv_iload_n hx hb dX7_init_5 rfl (lv_at hl 2 rfl) ?_
  refine z_putF (T := TX7) (N := 6) (ci := 7) (i := 75) (v := .int a2) (I1 := (z_up I 75 0 a2)) (J1 := JX) (P1 := P) hx hb hts zi_X7_init_X7 tyX7 tyX7_ok nmX7 hown hK hW hS rfl rfl 0 (by decide) (hts (.fieldLink RX7 9 "PetrolBoard$Orders" "month" "I") (List.mem_of_getElem? (i := 4) rfl)) (fun _ h => h) rfl hname rfl rfl rfl (by first | rfl | exact congrArg _ z_up_s) (fun a b h ty => z_vI h ty) dX7_init_6 (fun H locs hz1 hW hS => ?_)
  obtain ⟨I1, eI1⟩ : ∃ J : z_I, J = (z_up I 75 0 a2) := ⟨_, rfl⟩
  rw [← eI1] at hW
  have I1_12_13 : I1 12 13 = 0 := by rw [eI1, z_up_n (by decide)]; exact hs
  have I1_12_9 : I1 12 9 = 0 := by rw [eI1, z_up_n (by decide)]; exact hu
  have I1_75_0 : I1 75 0 = a2 := by rw [eI1]; exact z_up_s
  refine lv_aload_n hx hb dX7_init_9 rfl (lv_at hl 0 rfl) ?_
  refine lv_iload_n hx hb dX7_init_10 rfl (lv_at hl 3 rfl) ?_
  refine z_putF (T := TX7) (N := 6) (ci := 7) (i := 75) (v := .int a3) (I1 := (z_up I1 75 1 a3)) (J1 := JX) (P1 := P) hx hb hts zi_X7_init_X7 tyX7 tyX7_ok nmX7 hown hK hW hS rfl rfl 1 (by decide) (hts (.fieldLink RX7 15 "PetrolBoard$Orders" "toldOn" "I") (List.mem_of_getElem? (i := 5) rfl)) (fun _ h => h) rfl hname rfl rfl rfl (by first | rfl | exact congrArg _ z_up_s) (fun a b h ty => z_vI h ty) dX7_init_11 (fun H locs hz1 hW hS => ?_)
  obtain ⟨I2, eI2⟩ : ∃ J : z_I, J = (z_up I1 75 1 a3) := ⟨_, rfl⟩
  rw [← eI2] at hW
  have I2_12_13 : I2 12 13 = 0 := by rw [eI2, z_up_n (by decide)]; exact I1_12_13
  have I2_12_9 : I2 12 9 = 0 := by rw [eI2, z_up_n (by decide)]; exact I1_12_9
  have I2_75_0 : I2 75 0 = a2 := by rw [eI2, z_up_k (by decide)]; exact I1_75_0
  have I2_75_1 : I2 75 1 = a3 := by rw [eI2]; exact z_up_s
  refine lv_aload_n hx hb dX7_init_14 rfl (lv_at hl 1 rfl) ?_
  refine z_get (T := TX9) (N := 14) (ci := 9) (i := 12) (v := .int 0) hx hb hts zi_X7_init_X9 hown hK hW rfl rfl 13 (by decide) (hts (.fieldLink RX7 18 "PetrolBoard$Reader" "statements" "I") (List.mem_of_getElem? (i := 6) rfl)) (fun _ h => h) (congrArg Value.int I2_12_13) dX7_init_15 ?_
  refine lv_iconst (v := 0) hx hb dX7_init_18 (by decide) ?_
  refine lv_bipush (v := 24) hx hb dX7_init_19 (by decide) ?_
  refine z_ci hW hS hA (va_runSN (As := [.int 0, .int 0, .int 24]) (rest := []) ⟨hx, hb, hml, hown, hts⟩ (ct_X11_within l G ((z_sh shX 75 (.inr 7)), ad, I2, JX, P) 0 0 24 _) ⟨va_cnB 3 hts gX7_init_X11_within_n23 rfl rfl rfl (hK.2.2.1 _ (List.mem_of_getElem? (i := 8) rfl)) (hts (.initialized RX11) (List.mem_of_getElem? (i := 17) rfl)) (by decide +kernel) ⟨Nat.le_of_ble_eq_true rfl, Nat.le_of_ble_eq_true rfl⟩, (hts (.static yX11_within) (List.mem_of_getElem? (i := 16) rfl)), trivial⟩ (z_preS hK hW) rfl rfl hl.1 rfl (lv_room (Nat.le_of_ble_eq_true rfl)) dX7_init_21 ⟨Nat.le_of_ble_eq_true rfl, Nat.le_of_ble_eq_true rfl⟩) (fun r u1 H locs hp hW hS => ?_)
  obtain ⟨e9, hp⟩ := hp
  rw [e9] at hW
  rcases hp with ⟨rfl, h3, h4⟩ | ⟨rfl, h5⟩
  · refine lv_if_eq (tgt := 34) hx hb dX7_init_24 (by decide) (fun c6 => absurd c6 (by decide)) (fun c6 => ?_)
    refine lv_aload_n hx hb dX7_init_27 rfl (lv_at hl 1 rfl) ?_
    refine z_get (T := TX9) (N := 14) (ci := 9) (i := 12) (v := .int 0) hx hb hts zi_X7_init_X9 hown hK hW rfl rfl 13 (by decide) (hts (.fieldLink RX7 18 "PetrolBoard$Reader" "statements" "I") (List.mem_of_getElem? (i := 6) rfl)) (fun _ h => h) (congrArg Value.int I2_12_13) dX7_init_28 ?_
    refine lv_goto (tgt := 35) hx hb dX7_init_31 (by decide) ?_
    refine lv_istore (lv' := [(4, .int 0), (0, .ref (ad 75)), (1, .ref (ad 12)), (2, .int a2), (3, .int a3)]) hx hb dX7_init_35 hl (by decide) rfl (fun ls hl => ?_)
    refine lv_aload_n hx hb dX7_init_37 rfl (lv_at hl 2 rfl) ?_
    refine z_get (T := TX9) (N := 14) (ci := 9) (i := 12) (v := .int 0) hx hb hts zi_X7_init_X9 hown hK hW rfl rfl 9 (by decide) (hts (.fieldLink RX7 27 "PetrolBoard$Reader" "used" "I") (List.mem_of_getElem? (i := 7) rfl)) (fun _ h => h) (congrArg Value.int I2_12_9) dX7_init_38 ?_
    refine lv_iconst (v := 0) hx hb dX7_init_41 (by decide) ?_
    refine lv_sipush (v := 500) hx hb dX7_init_42 (by decide) ?_
    refine z_ci hW hS hA (va_runSN (As := [.int 0, .int 0, .int 500]) (rest := []) ⟨hx, hb, hml, hown, hts⟩ (ct_X11_within l G ((z_sh shX 75 (.inr 7)), ad, I2, JX, P) 0 0 500 _) ⟨va_cnB 3 hts gX7_init_X11_within_n23 rfl rfl rfl (hK.2.2.1 _ (List.mem_of_getElem? (i := 8) rfl)) (hts (.initialized RX11) (List.mem_of_getElem? (i := 17) rfl)) (by decide +kernel) ⟨Nat.le_of_ble_eq_true rfl, Nat.le_of_ble_eq_true rfl⟩, (hts (.static yX11_within) (List.mem_of_getElem? (i := 16) rfl)), trivial⟩ (z_preS hK hW) rfl rfl hl.1 rfl (lv_room (Nat.le_of_ble_eq_true rfl)) dX7_init_45 ⟨Nat.le_of_ble_eq_true rfl, Nat.le_of_ble_eq_true rfl⟩) (fun r u1 H locs hp hW hS => ?_)
    obtain ⟨e9, hp⟩ := hp
    rw [e9] at hW
    rcases hp with ⟨rfl, h7, h8⟩ | ⟨rfl, h9⟩
    · refine lv_if_eq (tgt := 58) hx hb dX7_init_48 (by decide) (fun c10 => absurd c10 (by decide)) (fun c10 => ?_)
      refine lv_aload_n hx hb dX7_init_51 rfl (lv_at hl 2 rfl) ?_
      refine z_get (T := TX9) (N := 14) (ci := 9) (i := 12) (v := .int 0) hx hb hts zi_X7_init_X9 hown hK hW rfl rfl 9 (by decide) (hts (.fieldLink RX7 27 "PetrolBoard$Reader" "used" "I") (List.mem_of_getElem? (i := 7) rfl)) (fun _ h => h) (congrArg Value.int I2_12_9) dX7_init_52 ?_
      refine lv_goto (tgt := 59) hx hb dX7_init_55 (by decide) ?_
      refine lv_istore (lv' := [(5, .int 0), (4, .int 0), (0, .ref (ad 75)), (1, .ref (ad 12)), (2, .int a2), (3, .int a3)]) hx hb dX7_init_59 hl (by decide) rfl (fun ls hl => ?_)
      refine lv_aload_n hx hb dX7_init_61 rfl (lv_at hl 2 rfl) ?_
      refine lv_aload_n hx hb dX7_init_62 rfl (lv_at hl 3 rfl) ?_
      refine z_get (T := TX9) (N := 14) (ci := 9) (i := 12) (v := .ref (ad 18)) hx hb hts zi_X7_init_X9 hown hK hW rfl rfl 10 (by decide) (hts (.fieldLink RX7 30 "PetrolBoard$Reader" "head" "[I") (List.mem_of_getElem? (i := 8) rfl)) (fun _ h => h) (congrArg va_rf p1) dX7_init_63 ?_
      refine lv_iload hx hb dX7_init_66 (lv_at hl 1 rfl) ?_
      refine z_cq hW hS hA (va_runS (As := [.ref (ad 18), .int 0]) (rest := [.ref (ad 75)]) ⟨hx, hb, hml, hown, hts⟩ (ct_J7_copyOf_24 l G ad ((z_sh shX 75 (.inr 7)), ad, I2, JX, P) 18 rfl _) (va_cwS 2 hts gX7_init_J7_copyOf_59c91 rfl rfl rfl (by decide +kernel) ⟨Nat.le_of_ble_eq_true rfl, Nat.le_of_ble_eq_true rfl⟩) (z_preS hK hW) rfl rfl hl.1 rfl (lv_room (Nat.le_of_ble_eq_true rfl)) dX7_init_68 ⟨Nat.le_of_ble_eq_true rfl, Nat.le_of_ble_eq_true rfl⟩) (fun r u1 H locs hp hW hS => ?_)
      obtain ⟨q11, rfl, e9⟩ := hp
      rw [e9] at hW
      refine W.eq (g2 := F0 m 71 ls (.ref q11 :: [.ref (ad 75)])) rfl ?_
      refine z_putF (T := TX7) (N := 6) (ci := 7) (i := 75) (v := .ref q11) (I1 := I2) (J1 := JX) (P1 := (z_up P 75 2 (some q11))) hx hb hts zi_X7_init_X7 tyX7 tyX7_ok nmX7 hown hK hW hS rfl rfl 2 (by decide) (hts (.fieldLink RX7 40 "PetrolBoard$Orders" "head" "[I") (List.mem_of_getElem? (i := 9) rfl)) (fun _ h => h) rfl hname rfl rfl rfl (by first | rfl | exact congrArg _ z_up_s) (fun a b h ty => z_vP h ty) dX7_init_71 (fun H locs hz1 hW hS => ?_)
      obtain ⟨P12, eP12⟩ : ∃ J : z_P, J = (z_up P 75 2 (some q11)) := ⟨_, rfl⟩
      rw [← eP12] at hW
      have P12_12_10 : P12 12 10 = some (ad 18) := by rw [eP12, z_up_n (by decide)]; exact p1
      have P12_12_11 : P12 12 11 = some (ad 19) := by rw [eP12, z_up_n (by decide)]; exact p2
      have P12_12_12 : P12 12 12 = some (ad 20) := by rw [eP12, z_up_n (by decide)]; exact p3
      have P12_12_8 : P12 12 8 = some (ad 17) := by rw [eP12, z_up_n (by decide)]; exact p4
      refine lv_aload_n hx hb dX7_init_74 rfl (lv_at hl 2 rfl) ?_
      refine lv_aload_n hx hb dX7_init_75 rfl (lv_at hl 3 rfl) ?_
      refine z_get (T := TX9) (N := 14) (ci := 9) (i := 12) (v := .ref (ad 19)) hx hb hts zi_X7_init_X9 hown hK hW rfl rfl 11 (by decide) (hts (.fieldLink RX7 41 "PetrolBoard$Reader" "first" "[I") (List.mem_of_getElem? (i := 10) rfl)) (fun _ h => h) (congrArg va_rf P12_12_11) dX7_init_76 ?_
      refine lv_iload hx hb dX7_init_79 (lv_at hl 1 rfl) ?_
      refine z_cq hW hS hA (va_runS (As := [.ref (ad 19), .int 0]) (rest := [.ref (ad 75)]) ⟨hx, hb, hml, hown, hts⟩ (ct_J7_copyOf_24 l G ad ((z_sh shX 75 (.inr 7)), ad, I2, JX, P12) 19 rfl _) (va_cwS 2 hts gX7_init_J7_copyOf_59c91 rfl rfl rfl (by decide +kernel) ⟨Nat.le_of_ble_eq_true rfl, Nat.le_of_ble_eq_true rfl⟩) (z_preS hK hW) rfl rfl hl.1 rfl (lv_room (Nat.le_of_ble_eq_true rfl)) dX7_init_81 ⟨Nat.le_of_ble_eq_true rfl, Nat.le_of_ble_eq_true rfl⟩) (fun r u1 H locs hp hW hS => ?_)
      obtain ⟨q13, rfl, e9⟩ := hp
      rw [e9] at hW
      refine W.eq (g2 := F0 m 84 ls (.ref q13 :: [.ref (ad 75)])) rfl ?_
      refine z_putF (T := TX7) (N := 6) (ci := 7) (i := 75) (v := .ref q13) (I1 := I2) (J1 := JX) (P1 := (z_up P12 75 3 (some q13))) hx hb hts zi_X7_init_X7 tyX7 tyX7_ok nmX7 hown hK hW hS rfl rfl 3 (by decide) (hts (.fieldLink RX7 44 "PetrolBoard$Orders" "first" "[I") (List.mem_of_getElem? (i := 11) rfl)) (fun _ h => h) rfl hname rfl rfl rfl (by first | rfl | exact congrArg _ z_up_s) (fun a b h ty => z_vP h ty) dX7_init_84 (fun H locs hz1 hW hS => ?_)
      obtain ⟨P14, eP14⟩ : ∃ J : z_P, J = (z_up P12 75 3 (some q13)) := ⟨_, rfl⟩
      rw [← eP14] at hW
      have P14_12_10 : P14 12 10 = some (ad 18) := by rw [eP14, z_up_n (by decide)]; exact P12_12_10
      have P14_12_11 : P14 12 11 = some (ad 19) := by rw [eP14, z_up_n (by decide)]; exact P12_12_11
      have P14_12_12 : P14 12 12 = some (ad 20) := by rw [eP14, z_up_n (by decide)]; exact P12_12_12
      have P14_12_8 : P14 12 8 = some (ad 17) := by rw [eP14, z_up_n (by decide)]; exact P12_12_8
      refine lv_aload_n hx hb dX7_init_87 rfl (lv_at hl 2 rfl) ?_
      refine lv_aload_n hx hb dX7_init_88 rfl (lv_at hl 3 rfl) ?_
      refine z_get (T := TX9) (N := 14) (ci := 9) (i := 12) (v := .ref (ad 20)) hx hb hts zi_X7_init_X9 hown hK hW rfl rfl 12 (by decide) (hts (.fieldLink RX7 45 "PetrolBoard$Reader" "second" "[I") (List.mem_of_getElem? (i := 12) rfl)) (fun _ h => h) (congrArg va_rf P14_12_12) dX7_init_89 ?_
      refine lv_iload hx hb dX7_init_92 (lv_at hl 1 rfl) ?_
      refine z_cq hW hS hA (va_runS (As := [.ref (ad 20), .int 0]) (rest := [.ref (ad 75)]) ⟨hx, hb, hml, hown, hts⟩ (ct_J7_copyOf_24 l G ad ((z_sh shX 75 (.inr 7)), ad, I2, JX, P14) 20 rfl _) (va_cwS 2 hts gX7_init_J7_copyOf_59c91 rfl rfl rfl (by decide +kernel) ⟨Nat.le_of_ble_eq_true rfl, Nat.le_of_ble_eq_true rfl⟩) (z_preS hK hW) rfl rfl hl.1 rfl (lv_room (Nat.le_of_ble_eq_true rfl)) dX7_init_94 ⟨Nat.le_of_ble_eq_true rfl, Nat.le_of_ble_eq_true rfl⟩) (fun r u1 H locs hp hW hS => ?_)
      obtain ⟨q15, rfl, e9⟩ := hp
      rw [e9] at hW
      refine W.eq (g2 := F0 m 97 ls (.ref q15 :: [.ref (ad 75)])) rfl ?_
      refine z_putF (T := TX7) (N := 6) (ci := 7) (i := 75) (v := .ref q15) (I1 := I2) (J1 := JX) (P1 := (z_up P14 75 4 (some q15))) hx hb hts zi_X7_init_X7 tyX7 tyX7_ok nmX7 hown hK hW hS rfl rfl 4 (by decide) (hts (.fieldLink RX7 48 "PetrolBoard$Orders" "second" "[I") (List.mem_of_getElem? (i := 13) rfl)) (fun _ h => h) rfl hname rfl rfl rfl (by first | rfl | exact congrArg _ z_up_s) (fun a b h ty => z_vP h ty) dX7_init_97 (fun H locs hz1 hW hS => ?_)
      obtain ⟨P16, eP16⟩ : ∃ J : z_P, J = (z_up P14 75 4 (some q15)) := ⟨_, rfl⟩
      rw [← eP16] at hW
      have P16_12_10 : P16 12 10 = some (ad 18) := by rw [eP16, z_up_n (by decide)]; exact P14_12_10
      have P16_12_11 : P16 12 11 = some (ad 19) := by rw [eP16, z_up_n (by decide)]; exact P14_12_11
      have P16_12_12 : P16 12 12 = some (ad 20) := by rw [eP16, z_up_n (by decide)]; exact P14_12_12
      have P16_12_8 : P16 12 8 = some (ad 17) := by rw [eP16, z_up_n (by decide)]; exact P14_12_8
      refine lv_aload_n hx hb dX7_init_100 rfl (lv_at hl 2 rfl) ?_
      refine lv_aload_n hx hb dX7_init_101 rfl (lv_at hl 3 rfl) ?_
      refine z_get (T := TX9) (N := 14) (ci := 9) (i := 12) (v := .ref (ad 17)) hx hb hts zi_X7_init_X9 hown hK hW rfl rfl 8 (by decide) (hts (.fieldLink RX7 49 "PetrolBoard$Reader" "code" "[I") (List.mem_of_getElem? (i := 14) rfl)) (fun _ h => h) (congrArg va_rf P16_12_8) dX7_init_102 ?_
      refine lv_iload hx hb dX7_init_105 (lv_at hl 0 rfl) ?_
      refine z_cq hW hS hA (va_runS (As := [.ref (ad 17), .int 0]) (rest := [.ref (ad 75)]) ⟨hx, hb, hml, hown, hts⟩ (ct_J7_copyOf_500 l G ad ((z_sh shX 75 (.inr 7)), ad, I2, JX, P16) 17 rfl _) (va_cwS 2 hts gX7_init_J7_copyOf_59c91 rfl rfl rfl (by decide +kernel) ⟨Nat.le_of_ble_eq_true rfl, Nat.le_of_ble_eq_true rfl⟩) (z_preS hK hW) rfl rfl hl.1 rfl (lv_room (Nat.le_of_ble_eq_true rfl)) dX7_init_107 ⟨Nat.le_of_ble_eq_true rfl, Nat.le_of_ble_eq_true rfl⟩) (fun r u1 H locs hp hW hS => ?_)
      obtain ⟨q17, rfl, e9⟩ := hp
      rw [e9] at hW
      refine W.eq (g2 := F0 m 110 ls (.ref q17 :: [.ref (ad 75)])) rfl ?_
      refine z_putF (T := TX7) (N := 6) (ci := 7) (i := 75) (v := .ref q17) (I1 := I2) (J1 := JX) (P1 := (z_up P16 75 5 (some q17))) hx hb hts zi_X7_init_X7 tyX7 tyX7_ok nmX7 hown hK hW hS rfl rfl 5 (by decide) (hts (.fieldLink RX7 52 "PetrolBoard$Orders" "code" "[I") (List.mem_of_getElem? (i := 15) rfl)) (fun _ h => h) rfl hname rfl rfl rfl (by first | rfl | exact congrArg _ z_up_s) (fun a b h ty => z_vP h ty) dX7_init_110 (fun H locs hz1 hW hS => ?_)
      obtain ⟨P18, eP18⟩ : ∃ J : z_P, J = (z_up P16 75 5 (some q17)) := ⟨_, rfl⟩
      rw [← eP18] at hW
      have P18_12_10 : P18 12 10 = some (ad 18) := by rw [eP18, z_up_n (by decide)]; exact P16_12_10
      have P18_12_11 : P18 12 11 = some (ad 19) := by rw [eP18, z_up_n (by decide)]; exact P16_12_11
      have P18_12_12 : P18 12 12 = some (ad 20) := by rw [eP18, z_up_n (by decide)]; exact P16_12_12
      have P18_12_8 : P18 12 8 = some (ad 17) := by rw [eP18, z_up_n (by decide)]; exact P16_12_8
      exact z_vret hx hb hr hK hS (Nat.le_of_ble_eq_true rfl) (Nat.le_of_ble_eq_true rfl) hlocks dX7_init_113 ((z_sh shX 75 (.inr 7)), ad, I2, JX, P18) hW ⟨_, _, rfl, fun a k h => by rw [eI2, z_up_n h, eI1, z_up_n h], fun a k h => by rw [eP18, z_up_n h, eP16, z_up_n h, eP14, z_up_n h, eP12, z_up_n h]⟩
    · refine lv_if_eq (tgt := 58) hx hb dX7_init_48 (by decide) (fun c19 => ?_) (fun c19 => absurd (by decide) c19)
      refine lv_iconst (v := 0) hx hb dX7_init_58 (by decide) ?_
      refine lv_istore (lv' := [(5, .int 0), (4, .int 0), (0, .ref (ad 75)), (1, .ref (ad 12)), (2, .int a2), (3, .int a3)]) hx hb dX7_init_59 hl (by decide) rfl (fun ls hl => ?_)
      refine lv_aload_n hx hb dX7_init_61 rfl (lv_at hl 2 rfl) ?_
      refine lv_aload_n hx hb dX7_init_62 rfl (lv_at hl 3 rfl) ?_
      refine z_get (T := TX9) (N := 14) (ci := 9) (i := 12) (v := .ref (ad 18)) hx hb hts zi_X7_init_X9 hown hK hW rfl rfl 10 (by decide) (hts (.fieldLink RX7 30 "PetrolBoard$Reader" "head" "[I") (List.mem_of_getElem? (i := 8) rfl)) (fun _ h => h) (congrArg va_rf p1) dX7_init_63 ?_
      refine lv_iload hx hb dX7_init_66 (lv_at hl 1 rfl) ?_
      refine z_cq hW hS hA (va_runS (As := [.ref (ad 18), .int 0]) (rest := [.ref (ad 75)]) ⟨hx, hb, hml, hown, hts⟩ (ct_J7_copyOf_24 l G ad ((z_sh shX 75 (.inr 7)), ad, I2, JX, P) 18 rfl _) (va_cwS 2 hts gX7_init_J7_copyOf_59c91 rfl rfl rfl (by decide +kernel) ⟨Nat.le_of_ble_eq_true rfl, Nat.le_of_ble_eq_true rfl⟩) (z_preS hK hW) rfl rfl hl.1 rfl (lv_room (Nat.le_of_ble_eq_true rfl)) dX7_init_68 ⟨Nat.le_of_ble_eq_true rfl, Nat.le_of_ble_eq_true rfl⟩) (fun r u1 H locs hp hW hS => ?_)
      obtain ⟨q20, rfl, e9⟩ := hp
      rw [e9] at hW
      refine W.eq (g2 := F0 m 71 ls (.ref q20 :: [.ref (ad 75)])) rfl ?_
      refine z_putF (T := TX7) (N := 6) (ci := 7) (i := 75) (v := .ref q20) (I1 := I2) (J1 := JX) (P1 := (z_up P 75 2 (some q20))) hx hb hts zi_X7_init_X7 tyX7 tyX7_ok nmX7 hown hK hW hS rfl rfl 2 (by decide) (hts (.fieldLink RX7 40 "PetrolBoard$Orders" "head" "[I") (List.mem_of_getElem? (i := 9) rfl)) (fun _ h => h) rfl hname rfl rfl rfl (by first | rfl | exact congrArg _ z_up_s) (fun a b h ty => z_vP h ty) dX7_init_71 (fun H locs hz1 hW hS => ?_)
      obtain ⟨P21, eP21⟩ : ∃ J : z_P, J = (z_up P 75 2 (some q20)) := ⟨_, rfl⟩
      rw [← eP21] at hW
      have P21_12_10 : P21 12 10 = some (ad 18) := by rw [eP21, z_up_n (by decide)]; exact p1
      have P21_12_11 : P21 12 11 = some (ad 19) := by rw [eP21, z_up_n (by decide)]; exact p2
      have P21_12_12 : P21 12 12 = some (ad 20) := by rw [eP21, z_up_n (by decide)]; exact p3
      have P21_12_8 : P21 12 8 = some (ad 17) := by rw [eP21, z_up_n (by decide)]; exact p4
      refine lv_aload_n hx hb dX7_init_74 rfl (lv_at hl 2 rfl) ?_
      refine lv_aload_n hx hb dX7_init_75 rfl (lv_at hl 3 rfl) ?_
      refine z_get (T := TX9) (N := 14) (ci := 9) (i := 12) (v := .ref (ad 19)) hx hb hts zi_X7_init_X9 hown hK hW rfl rfl 11 (by decide) (hts (.fieldLink RX7 41 "PetrolBoard$Reader" "first" "[I") (List.mem_of_getElem? (i := 10) rfl)) (fun _ h => h) (congrArg va_rf P21_12_11) dX7_init_76 ?_
      refine lv_iload hx hb dX7_init_79 (lv_at hl 1 rfl) ?_
      refine z_cq hW hS hA (va_runS (As := [.ref (ad 19), .int 0]) (rest := [.ref (ad 75)]) ⟨hx, hb, hml, hown, hts⟩ (ct_J7_copyOf_24 l G ad ((z_sh shX 75 (.inr 7)), ad, I2, JX, P21) 19 rfl _) (va_cwS 2 hts gX7_init_J7_copyOf_59c91 rfl rfl rfl (by decide +kernel) ⟨Nat.le_of_ble_eq_true rfl, Nat.le_of_ble_eq_true rfl⟩) (z_preS hK hW) rfl rfl hl.1 rfl (lv_room (Nat.le_of_ble_eq_true rfl)) dX7_init_81 ⟨Nat.le_of_ble_eq_true rfl, Nat.le_of_ble_eq_true rfl⟩) (fun r u1 H locs hp hW hS => ?_)
      obtain ⟨q22, rfl, e9⟩ := hp
      rw [e9] at hW
      refine W.eq (g2 := F0 m 84 ls (.ref q22 :: [.ref (ad 75)])) rfl ?_
      refine z_putF (T := TX7) (N := 6) (ci := 7) (i := 75) (v := .ref q22) (I1 := I2) (J1 := JX) (P1 := (z_up P21 75 3 (some q22))) hx hb hts zi_X7_init_X7 tyX7 tyX7_ok nmX7 hown hK hW hS rfl rfl 3 (by decide) (hts (.fieldLink RX7 44 "PetrolBoard$Orders" "first" "[I") (List.mem_of_getElem? (i := 11) rfl)) (fun _ h => h) rfl hname rfl rfl rfl (by first | rfl | exact congrArg _ z_up_s) (fun a b h ty => z_vP h ty) dX7_init_84 (fun H locs hz1 hW hS => ?_)
      obtain ⟨P23, eP23⟩ : ∃ J : z_P, J = (z_up P21 75 3 (some q22)) := ⟨_, rfl⟩
      rw [← eP23] at hW
      have P23_12_10 : P23 12 10 = some (ad 18) := by rw [eP23, z_up_n (by decide)]; exact P21_12_10
      have P23_12_11 : P23 12 11 = some (ad 19) := by rw [eP23, z_up_n (by decide)]; exact P21_12_11
      have P23_12_12 : P23 12 12 = some (ad 20) := by rw [eP23, z_up_n (by decide)]; exact P21_12_12
      have P23_12_8 : P23 12 8 = some (ad 17) := by rw [eP23, z_up_n (by decide)]; exact P21_12_8
      refine lv_aload_n hx hb dX7_init_87 rfl (lv_at hl 2 rfl) ?_
      refine lv_aload_n hx hb dX7_init_88 rfl (lv_at hl 3 rfl) ?_
      refine z_get (T := TX9) (N := 14) (ci := 9) (i := 12) (v := .ref (ad 20)) hx hb hts zi_X7_init_X9 hown hK hW rfl rfl 12 (by decide) (hts (.fieldLink RX7 45 "PetrolBoard$Reader" "second" "[I") (List.mem_of_getElem? (i := 12) rfl)) (fun _ h => h) (congrArg va_rf P23_12_12) dX7_init_89 ?_
      refine lv_iload hx hb dX7_init_92 (lv_at hl 1 rfl) ?_
      refine z_cq hW hS hA (va_runS (As := [.ref (ad 20), .int 0]) (rest := [.ref (ad 75)]) ⟨hx, hb, hml, hown, hts⟩ (ct_J7_copyOf_24 l G ad ((z_sh shX 75 (.inr 7)), ad, I2, JX, P23) 20 rfl _) (va_cwS 2 hts gX7_init_J7_copyOf_59c91 rfl rfl rfl (by decide +kernel) ⟨Nat.le_of_ble_eq_true rfl, Nat.le_of_ble_eq_true rfl⟩) (z_preS hK hW) rfl rfl hl.1 rfl (lv_room (Nat.le_of_ble_eq_true rfl)) dX7_init_94 ⟨Nat.le_of_ble_eq_true rfl, Nat.le_of_ble_eq_true rfl⟩) (fun r u1 H locs hp hW hS => ?_)
      obtain ⟨q24, rfl, e9⟩ := hp
      rw [e9] at hW
      refine W.eq (g2 := F0 m 97 ls (.ref q24 :: [.ref (ad 75)])) rfl ?_
      refine z_putF (T := TX7) (N := 6) (ci := 7) (i := 75) (v := .ref q24) (I1 := I2) (J1 := JX) (P1 := (z_up P23 75 4 (some q24))) hx hb hts zi_X7_init_X7 tyX7 tyX7_ok nmX7 hown hK hW hS rfl rfl 4 (by decide) (hts (.fieldLink RX7 48 "PetrolBoard$Orders" "second" "[I") (List.mem_of_getElem? (i := 13) rfl)) (fun _ h => h) rfl hname rfl rfl rfl (by first | rfl | exact congrArg _ z_up_s) (fun a b h ty => z_vP h ty) dX7_init_97 (fun H locs hz1 hW hS => ?_)
      obtain ⟨P25, eP25⟩ : ∃ J : z_P, J = (z_up P23 75 4 (some q24)) := ⟨_, rfl⟩
      rw [← eP25] at hW
      have P25_12_10 : P25 12 10 = some (ad 18) := by rw [eP25, z_up_n (by decide)]; exact P23_12_10
      have P25_12_11 : P25 12 11 = some (ad 19) := by rw [eP25, z_up_n (by decide)]; exact P23_12_11
      have P25_12_12 : P25 12 12 = some (ad 20) := by rw [eP25, z_up_n (by decide)]; exact P23_12_12
      have P25_12_8 : P25 12 8 = some (ad 17) := by rw [eP25, z_up_n (by decide)]; exact P23_12_8
      refine lv_aload_n hx hb dX7_init_100 rfl (lv_at hl 2 rfl) ?_
      refine lv_aload_n hx hb dX7_init_101 rfl (lv_at hl 3 rfl) ?_
      refine z_get (T := TX9) (N := 14) (ci := 9) (i := 12) (v := .ref (ad 17)) hx hb hts zi_X7_init_X9 hown hK hW rfl rfl 8 (by decide) (hts (.fieldLink RX7 49 "PetrolBoard$Reader" "code" "[I") (List.mem_of_getElem? (i := 14) rfl)) (fun _ h => h) (congrArg va_rf P25_12_8) dX7_init_102 ?_
      refine lv_iload hx hb dX7_init_105 (lv_at hl 0 rfl) ?_
      refine z_cq hW hS hA (va_runS (As := [.ref (ad 17), .int 0]) (rest := [.ref (ad 75)]) ⟨hx, hb, hml, hown, hts⟩ (ct_J7_copyOf_500 l G ad ((z_sh shX 75 (.inr 7)), ad, I2, JX, P25) 17 rfl _) (va_cwS 2 hts gX7_init_J7_copyOf_59c91 rfl rfl rfl (by decide +kernel) ⟨Nat.le_of_ble_eq_true rfl, Nat.le_of_ble_eq_true rfl⟩) (z_preS hK hW) rfl rfl hl.1 rfl (lv_room (Nat.le_of_ble_eq_true rfl)) dX7_init_107 ⟨Nat.le_of_ble_eq_true rfl, Nat.le_of_ble_eq_true rfl⟩) (fun r u1 H locs hp hW hS => ?_)
      obtain ⟨q26, rfl, e9⟩ := hp
      rw [e9] at hW
      refine W.eq (g2 := F0 m 110 ls (.ref q26 :: [.ref (ad 75)])) rfl ?_
      refine z_putF (T := TX7) (N := 6) (ci := 7) (i := 75) (v := .ref q26) (I1 := I2) (J1 := JX) (P1 := (z_up P25 75 5 (some q26))) hx hb hts zi_X7_init_X7 tyX7 tyX7_ok nmX7 hown hK hW hS rfl rfl 5 (by decide) (hts (.fieldLink RX7 52 "PetrolBoard$Orders" "code" "[I") (List.mem_of_getElem? (i := 15) rfl)) (fun _ h => h) rfl hname rfl rfl rfl (by first | rfl | exact congrArg _ z_up_s) (fun a b h ty => z_vP h ty) dX7_init_110 (fun H locs hz1 hW hS => ?_)
      obtain ⟨P27, eP27⟩ : ∃ J : z_P, J = (z_up P25 75 5 (some q26)) := ⟨_, rfl⟩
      rw [← eP27] at hW
      have P27_12_10 : P27 12 10 = some (ad 18) := by rw [eP27, z_up_n (by decide)]; exact P25_12_10
      have P27_12_11 : P27 12 11 = some (ad 19) := by rw [eP27, z_up_n (by decide)]; exact P25_12_11
      have P27_12_12 : P27 12 12 = some (ad 20) := by rw [eP27, z_up_n (by decide)]; exact P25_12_12
      have P27_12_8 : P27 12 8 = some (ad 17) := by rw [eP27, z_up_n (by decide)]; exact P25_12_8
      exact z_vret hx hb hr hK hS (Nat.le_of_ble_eq_true rfl) (Nat.le_of_ble_eq_true rfl) hlocks dX7_init_113 ((z_sh shX 75 (.inr 7)), ad, I2, JX, P27) hW ⟨_, _, rfl, fun a k h => by rw [eI2, z_up_n h, eI1, z_up_n h], fun a k h => by rw [eP27, z_up_n h, eP25, z_up_n h, eP23, z_up_n h, eP21, z_up_n h]⟩
  · refine lv_if_eq (tgt := 34) hx hb dX7_init_24 (by decide) (fun c28 => ?_) (fun c28 => absurd (by decide) c28)
    refine lv_iconst (v := 0) hx hb dX7_init_34 (by decide) ?_
    refine lv_istore (lv' := [(4, .int 0), (0, .ref (ad 75)), (1, .ref (ad 12)), (2, .int a2), (3, .int a3)]) hx hb dX7_init_35 hl (by decide) rfl (fun ls hl => ?_)
    refine lv_aload_n hx hb dX7_init_37 rfl (lv_at hl 2 rfl) ?_
    refine z_get (T := TX9) (N := 14) (ci := 9) (i := 12) (v := .int 0) hx hb hts zi_X7_init_X9 hown hK hW rfl rfl 9 (by decide) (hts (.fieldLink RX7 27 "PetrolBoard$Reader" "used" "I") (List.mem_of_getElem? (i := 7) rfl)) (fun _ h => h) (congrArg Value.int I2_12_9) dX7_init_38 ?_
    refine lv_iconst (v := 0) hx hb dX7_init_41 (by decide) ?_
    refine lv_sipush (v := 500) hx hb dX7_init_42 (by decide) ?_
    refine z_ci hW hS hA (va_runSN (As := [.int 0, .int 0, .int 500]) (rest := []) ⟨hx, hb, hml, hown, hts⟩ (ct_X11_within l G ((z_sh shX 75 (.inr 7)), ad, I2, JX, P) 0 0 500 _) ⟨va_cnB 3 hts gX7_init_X11_within_n23 rfl rfl rfl (hK.2.2.1 _ (List.mem_of_getElem? (i := 8) rfl)) (hts (.initialized RX11) (List.mem_of_getElem? (i := 17) rfl)) (by decide +kernel) ⟨Nat.le_of_ble_eq_true rfl, Nat.le_of_ble_eq_true rfl⟩, (hts (.static yX11_within) (List.mem_of_getElem? (i := 16) rfl)), trivial⟩ (z_preS hK hW) rfl rfl hl.1 rfl (lv_room (Nat.le_of_ble_eq_true rfl)) dX7_init_45 ⟨Nat.le_of_ble_eq_true rfl, Nat.le_of_ble_eq_true rfl⟩) (fun r u1 H locs hp hW hS => ?_)
    obtain ⟨e9, hp⟩ := hp
    rw [e9] at hW
    rcases hp with ⟨rfl, h29, h30⟩ | ⟨rfl, h31⟩
    · refine lv_if_eq (tgt := 58) hx hb dX7_init_48 (by decide) (fun c32 => absurd c32 (by decide)) (fun c32 => ?_)
      refine lv_aload_n hx hb dX7_init_51 rfl (lv_at hl 2 rfl) ?_
      refine z_get (T := TX9) (N := 14) (ci := 9) (i := 12) (v := .int 0) hx hb hts zi_X7_init_X9 hown hK hW rfl rfl 9 (by decide) (hts (.fieldLink RX7 27 "PetrolBoard$Reader" "used" "I") (List.mem_of_getElem? (i := 7) rfl)) (fun _ h => h) (congrArg Value.int I2_12_9) dX7_init_52 ?_
      refine lv_goto (tgt := 59) hx hb dX7_init_55 (by decide) ?_
      refine lv_istore (lv' := [(5, .int 0), (4, .int 0), (0, .ref (ad 75)), (1, .ref (ad 12)), (2, .int a2), (3, .int a3)]) hx hb dX7_init_59 hl (by decide) rfl (fun ls hl => ?_)
      refine lv_aload_n hx hb dX7_init_61 rfl (lv_at hl 2 rfl) ?_
      refine lv_aload_n hx hb dX7_init_62 rfl (lv_at hl 3 rfl) ?_
      refine z_get (T := TX9) (N := 14) (ci := 9) (i := 12) (v := .ref (ad 18)) hx hb hts zi_X7_init_X9 hown hK hW rfl rfl 10 (by decide) (hts (.fieldLink RX7 30 "PetrolBoard$Reader" "head" "[I") (List.mem_of_getElem? (i := 8) rfl)) (fun _ h => h) (congrArg va_rf p1) dX7_init_63 ?_
      refine lv_iload hx hb dX7_init_66 (lv_at hl 1 rfl) ?_
      refine z_cq hW hS hA (va_runS (As := [.ref (ad 18), .int 0]) (rest := [.ref (ad 75)]) ⟨hx, hb, hml, hown, hts⟩ (ct_J7_copyOf_24 l G ad ((z_sh shX 75 (.inr 7)), ad, I2, JX, P) 18 rfl _) (va_cwS 2 hts gX7_init_J7_copyOf_59c91 rfl rfl rfl (by decide +kernel) ⟨Nat.le_of_ble_eq_true rfl, Nat.le_of_ble_eq_true rfl⟩) (z_preS hK hW) rfl rfl hl.1 rfl (lv_room (Nat.le_of_ble_eq_true rfl)) dX7_init_68 ⟨Nat.le_of_ble_eq_true rfl, Nat.le_of_ble_eq_true rfl⟩) (fun r u1 H locs hp hW hS => ?_)
      obtain ⟨q33, rfl, e9⟩ := hp
      rw [e9] at hW
      refine W.eq (g2 := F0 m 71 ls (.ref q33 :: [.ref (ad 75)])) rfl ?_
      refine z_putF (T := TX7) (N := 6) (ci := 7) (i := 75) (v := .ref q33) (I1 := I2) (J1 := JX) (P1 := (z_up P 75 2 (some q33))) hx hb hts zi_X7_init_X7 tyX7 tyX7_ok nmX7 hown hK hW hS rfl rfl 2 (by decide) (hts (.fieldLink RX7 40 "PetrolBoard$Orders" "head" "[I") (List.mem_of_getElem? (i := 9) rfl)) (fun _ h => h) rfl hname rfl rfl rfl (by first | rfl | exact congrArg _ z_up_s) (fun a b h ty => z_vP h ty) dX7_init_71 (fun H locs hz1 hW hS => ?_)
      obtain ⟨P34, eP34⟩ : ∃ J : z_P, J = (z_up P 75 2 (some q33)) := ⟨_, rfl⟩
      rw [← eP34] at hW
      have P34_12_10 : P34 12 10 = some (ad 18) := by rw [eP34, z_up_n (by decide)]; exact p1
      have P34_12_11 : P34 12 11 = some (ad 19) := by rw [eP34, z_up_n (by decide)]; exact p2
      have P34_12_12 : P34 12 12 = some (ad 20) := by rw [eP34, z_up_n (by decide)]; exact p3
      have P34_12_8 : P34 12 8 = some (ad 17) := by rw [eP34, z_up_n (by decide)]; exact p4
      refine lv_aload_n hx hb dX7_init_74 rfl (lv_at hl 2 rfl) ?_
      refine lv_aload_n hx hb dX7_init_75 rfl (lv_at hl 3 rfl) ?_
      refine z_get (T := TX9) (N := 14) (ci := 9) (i := 12) (v := .ref (ad 19)) hx hb hts zi_X7_init_X9 hown hK hW rfl rfl 11 (by decide) (hts (.fieldLink RX7 41 "PetrolBoard$Reader" "first" "[I") (List.mem_of_getElem? (i := 10) rfl)) (fun _ h => h) (congrArg va_rf P34_12_11) dX7_init_76 ?_
      refine lv_iload hx hb dX7_init_79 (lv_at hl 1 rfl) ?_
      refine z_cq hW hS hA (va_runS (As := [.ref (ad 19), .int 0]) (rest := [.ref (ad 75)]) ⟨hx, hb, hml, hown, hts⟩ (ct_J7_copyOf_24 l G ad ((z_sh shX 75 (.inr 7)), ad, I2, JX, P34) 19 rfl _) (va_cwS 2 hts gX7_init_J7_copyOf_59c91 rfl rfl rfl (by decide +kernel) ⟨Nat.le_of_ble_eq_true rfl, Nat.le_of_ble_eq_true rfl⟩) (z_preS hK hW) rfl rfl hl.1 rfl (lv_room (Nat.le_of_ble_eq_true rfl)) dX7_init_81 ⟨Nat.le_of_ble_eq_true rfl, Nat.le_of_ble_eq_true rfl⟩) (fun r u1 H locs hp hW hS => ?_)
      obtain ⟨q35, rfl, e9⟩ := hp
      rw [e9] at hW
      refine W.eq (g2 := F0 m 84 ls (.ref q35 :: [.ref (ad 75)])) rfl ?_
      refine z_putF (T := TX7) (N := 6) (ci := 7) (i := 75) (v := .ref q35) (I1 := I2) (J1 := JX) (P1 := (z_up P34 75 3 (some q35))) hx hb hts zi_X7_init_X7 tyX7 tyX7_ok nmX7 hown hK hW hS rfl rfl 3 (by decide) (hts (.fieldLink RX7 44 "PetrolBoard$Orders" "first" "[I") (List.mem_of_getElem? (i := 11) rfl)) (fun _ h => h) rfl hname rfl rfl rfl (by first | rfl | exact congrArg _ z_up_s) (fun a b h ty => z_vP h ty) dX7_init_84 (fun H locs hz1 hW hS => ?_)
      obtain ⟨P36, eP36⟩ : ∃ J : z_P, J = (z_up P34 75 3 (some q35)) := ⟨_, rfl⟩
      rw [← eP36] at hW
      have P36_12_10 : P36 12 10 = some (ad 18) := by rw [eP36, z_up_n (by decide)]; exact P34_12_10
      have P36_12_11 : P36 12 11 = some (ad 19) := by rw [eP36, z_up_n (by decide)]; exact P34_12_11
      have P36_12_12 : P36 12 12 = some (ad 20) := by rw [eP36, z_up_n (by decide)]; exact P34_12_12
      have P36_12_8 : P36 12 8 = some (ad 17) := by rw [eP36, z_up_n (by decide)]; exact P34_12_8
      refine lv_aload_n hx hb dX7_init_87 rfl (lv_at hl 2 rfl) ?_
      refine lv_aload_n hx hb dX7_init_88 rfl (lv_at hl 3 rfl) ?_
      refine z_get (T := TX9) (N := 14) (ci := 9) (i := 12) (v := .ref (ad 20)) hx hb hts zi_X7_init_X9 hown hK hW rfl rfl 12 (by decide) (hts (.fieldLink RX7 45 "PetrolBoard$Reader" "second" "[I") (List.mem_of_getElem? (i := 12) rfl)) (fun _ h => h) (congrArg va_rf P36_12_12) dX7_init_89 ?_
      refine lv_iload hx hb dX7_init_92 (lv_at hl 1 rfl) ?_
      refine z_cq hW hS hA (va_runS (As := [.ref (ad 20), .int 0]) (rest := [.ref (ad 75)]) ⟨hx, hb, hml, hown, hts⟩ (ct_J7_copyOf_24 l G ad ((z_sh shX 75 (.inr 7)), ad, I2, JX, P36) 20 rfl _) (va_cwS 2 hts gX7_init_J7_copyOf_59c91 rfl rfl rfl (by decide +kernel) ⟨Nat.le_of_ble_eq_true rfl, Nat.le_of_ble_eq_true rfl⟩) (z_preS hK hW) rfl rfl hl.1 rfl (lv_room (Nat.le_of_ble_eq_true rfl)) dX7_init_94 ⟨Nat.le_of_ble_eq_true rfl, Nat.le_of_ble_eq_true rfl⟩) (fun r u1 H locs hp hW hS => ?_)
      obtain ⟨q37, rfl, e9⟩ := hp
      rw [e9] at hW
      refine W.eq (g2 := F0 m 97 ls (.ref q37 :: [.ref (ad 75)])) rfl ?_
      refine z_putF (T := TX7) (N := 6) (ci := 7) (i := 75) (v := .ref q37) (I1 := I2) (J1 := JX) (P1 := (z_up P36 75 4 (some q37))) hx hb hts zi_X7_init_X7 tyX7 tyX7_ok nmX7 hown hK hW hS rfl rfl 4 (by decide) (hts (.fieldLink RX7 48 "PetrolBoard$Orders" "second" "[I") (List.mem_of_getElem? (i := 13) rfl)) (fun _ h => h) rfl hname rfl rfl rfl (by first | rfl | exact congrArg _ z_up_s) (fun a b h ty => z_vP h ty) dX7_init_97 (fun H locs hz1 hW hS => ?_)
      obtain ⟨P38, eP38⟩ : ∃ J : z_P, J = (z_up P36 75 4 (some q37)) := ⟨_, rfl⟩
      rw [← eP38] at hW
      have P38_12_10 : P38 12 10 = some (ad 18) := by rw [eP38, z_up_n (by decide)]; exact P36_12_10
      have P38_12_11 : P38 12 11 = some (ad 19) := by rw [eP38, z_up_n (by decide)]; exact P36_12_11
      have P38_12_12 : P38 12 12 = some (ad 20) := by rw [eP38, z_up_n (by decide)]; exact P36_12_12
      have P38_12_8 : P38 12 8 = some (ad 17) := by rw [eP38, z_up_n (by decide)]; exact P36_12_8
      refine lv_aload_n hx hb dX7_init_100 rfl (lv_at hl 2 rfl) ?_
      refine lv_aload_n hx hb dX7_init_101 rfl (lv_at hl 3 rfl) ?_
      refine z_get (T := TX9) (N := 14) (ci := 9) (i := 12) (v := .ref (ad 17)) hx hb hts zi_X7_init_X9 hown hK hW rfl rfl 8 (by decide) (hts (.fieldLink RX7 49 "PetrolBoard$Reader" "code" "[I") (List.mem_of_getElem? (i := 14) rfl)) (fun _ h => h) (congrArg va_rf P38_12_8) dX7_init_102 ?_
      refine lv_iload hx hb dX7_init_105 (lv_at hl 0 rfl) ?_
      refine z_cq hW hS hA (va_runS (As := [.ref (ad 17), .int 0]) (rest := [.ref (ad 75)]) ⟨hx, hb, hml, hown, hts⟩ (ct_J7_copyOf_500 l G ad ((z_sh shX 75 (.inr 7)), ad, I2, JX, P38) 17 rfl _) (va_cwS 2 hts gX7_init_J7_copyOf_59c91 rfl rfl rfl (by decide +kernel) ⟨Nat.le_of_ble_eq_true rfl, Nat.le_of_ble_eq_true rfl⟩) (z_preS hK hW) rfl rfl hl.1 rfl (lv_room (Nat.le_of_ble_eq_true rfl)) dX7_init_107 ⟨Nat.le_of_ble_eq_true rfl, Nat.le_of_ble_eq_true rfl⟩) (fun r u1 H locs hp hW hS => ?_)
      obtain ⟨q39, rfl, e9⟩ := hp
      rw [e9] at hW
      refine W.eq (g2 := F0 m 110 ls (.ref q39 :: [.ref (ad 75)])) rfl ?_
      refine z_putF (T := TX7) (N := 6) (ci := 7) (i := 75) (v := .ref q39) (I1 := I2) (J1 := JX) (P1 := (z_up P38 75 5 (some q39))) hx hb hts zi_X7_init_X7 tyX7 tyX7_ok nmX7 hown hK hW hS rfl rfl 5 (by decide) (hts (.fieldLink RX7 52 "PetrolBoard$Orders" "code" "[I") (List.mem_of_getElem? (i := 15) rfl)) (fun _ h => h) rfl hname rfl rfl rfl (by first | rfl | exact congrArg _ z_up_s) (fun a b h ty => z_vP h ty) dX7_init_110 (fun H locs hz1 hW hS => ?_)
      obtain ⟨P40, eP40⟩ : ∃ J : z_P, J = (z_up P38 75 5 (some q39)) := ⟨_, rfl⟩
      rw [← eP40] at hW
      have P40_12_10 : P40 12 10 = some (ad 18) := by rw [eP40, z_up_n (by decide)]; exact P38_12_10
      have P40_12_11 : P40 12 11 = some (ad 19) := by rw [eP40, z_up_n (by decide)]; exact P38_12_11
      have P40_12_12 : P40 12 12 = some (ad 20) := by rw [eP40, z_up_n (by decide)]; exact P38_12_12
      have P40_12_8 : P40 12 8 = some (ad 17) := by rw [eP40, z_up_n (by decide)]; exact P38_12_8
      exact z_vret hx hb hr hK hS (Nat.le_of_ble_eq_true rfl) (Nat.le_of_ble_eq_true rfl) hlocks dX7_init_113 ((z_sh shX 75 (.inr 7)), ad, I2, JX, P40) hW ⟨_, _, rfl, fun a k h => by rw [eI2, z_up_n h, eI1, z_up_n h], fun a k h => by rw [eP40, z_up_n h, eP38, z_up_n h, eP36, z_up_n h, eP34, z_up_n h]⟩
    · refine lv_if_eq (tgt := 58) hx hb dX7_init_48 (by decide) (fun c41 => ?_) (fun c41 => absurd (by decide) c41)
      refine lv_iconst (v := 0) hx hb dX7_init_58 (by decide) ?_
      refine lv_istore (lv' := [(5, .int 0), (4, .int 0), (0, .ref (ad 75)), (1, .ref (ad 12)), (2, .int a2), (3, .int a3)]) hx hb dX7_init_59 hl (by decide) rfl (fun ls hl => ?_)
      refine lv_aload_n hx hb dX7_init_61 rfl (lv_at hl 2 rfl) ?_
      refine lv_aload_n hx hb dX7_init_62 rfl (lv_at hl 3 rfl) ?_
      refine z_get (T := TX9) (N := 14) (ci := 9) (i := 12) (v := .ref (ad 18)) hx hb hts zi_X7_init_X9 hown hK hW rfl rfl 10 (by decide) (hts (.fieldLink RX7 30 "PetrolBoard$Reader" "head" "[I") (List.mem_of_getElem? (i := 8) rfl)) (fun _ h => h) (congrArg va_rf p1) dX7_init_63 ?_
      refine lv_iload hx hb dX7_init_66 (lv_at hl 1 rfl) ?_
      refine z_cq hW hS hA (va_runS (As := [.ref (ad 18), .int 0]) (rest := [.ref (ad 75)]) ⟨hx, hb, hml, hown, hts⟩ (ct_J7_copyOf_24 l G ad ((z_sh shX 75 (.inr 7)), ad, I2, JX, P) 18 rfl _) (va_cwS 2 hts gX7_init_J7_copyOf_59c91 rfl rfl rfl (by decide +kernel) ⟨Nat.le_of_ble_eq_true rfl, Nat.le_of_ble_eq_true rfl⟩) (z_preS hK hW) rfl rfl hl.1 rfl (lv_room (Nat.le_of_ble_eq_true rfl)) dX7_init_68 ⟨Nat.le_of_ble_eq_true rfl, Nat.le_of_ble_eq_true rfl⟩) (fun r u1 H locs hp hW hS => ?_)
      obtain ⟨q42, rfl, e9⟩ := hp
      rw [e9] at hW
      refine W.eq (g2 := F0 m 71 ls (.ref q42 :: [.ref (ad 75)])) rfl ?_
      refine z_putF (T := TX7) (N := 6) (ci := 7) (i := 75) (v := .ref q42) (I1 := I2) (J1 := JX) (P1 := (z_up P 75 2 (some q42))) hx hb hts zi_X7_init_X7 tyX7 tyX7_ok nmX7 hown hK hW hS rfl rfl 2 (by decide) (hts (.fieldLink RX7 40 "PetrolBoard$Orders" "head" "[I") (List.mem_of_getElem? (i := 9) rfl)) (fun _ h => h) rfl hname rfl rfl rfl (by first | rfl | exact congrArg _ z_up_s) (fun a b h ty => z_vP h ty) dX7_init_71 (fun H locs hz1 hW hS => ?_)
      obtain ⟨P43, eP43⟩ : ∃ J : z_P, J = (z_up P 75 2 (some q42)) := ⟨_, rfl⟩
      rw [← eP43] at hW
      have P43_12_10 : P43 12 10 = some (ad 18) := by rw [eP43, z_up_n (by decide)]; exact p1
      have P43_12_11 : P43 12 11 = some (ad 19) := by rw [eP43, z_up_n (by decide)]; exact p2
      have P43_12_12 : P43 12 12 = some (ad 20) := by rw [eP43, z_up_n (by decide)]; exact p3
      have P43_12_8 : P43 12 8 = some (ad 17) := by rw [eP43, z_up_n (by decide)]; exact p4
      refine lv_aload_n hx hb dX7_init_74 rfl (lv_at hl 2 rfl) ?_
      refine lv_aload_n hx hb dX7_init_75 rfl (lv_at hl 3 rfl) ?_
      refine z_get (T := TX9) (N := 14) (ci := 9) (i := 12) (v := .ref (ad 19)) hx hb hts zi_X7_init_X9 hown hK hW rfl rfl 11 (by decide) (hts (.fieldLink RX7 41 "PetrolBoard$Reader" "first" "[I") (List.mem_of_getElem? (i := 10) rfl)) (fun _ h => h) (congrArg va_rf P43_12_11) dX7_init_76 ?_
      refine lv_iload hx hb dX7_init_79 (lv_at hl 1 rfl) ?_
      refine z_cq hW hS hA (va_runS (As := [.ref (ad 19), .int 0]) (rest := [.ref (ad 75)]) ⟨hx, hb, hml, hown, hts⟩ (ct_J7_copyOf_24 l G ad ((z_sh shX 75 (.inr 7)), ad, I2, JX, P43) 19 rfl _) (va_cwS 2 hts gX7_init_J7_copyOf_59c91 rfl rfl rfl (by decide +kernel) ⟨Nat.le_of_ble_eq_true rfl, Nat.le_of_ble_eq_true rfl⟩) (z_preS hK hW) rfl rfl hl.1 rfl (lv_room (Nat.le_of_ble_eq_true rfl)) dX7_init_81 ⟨Nat.le_of_ble_eq_true rfl, Nat.le_of_ble_eq_true rfl⟩) (fun r u1 H locs hp hW hS => ?_)
      obtain ⟨q44, rfl, e9⟩ := hp
      rw [e9] at hW
      refine W.eq (g2 := F0 m 84 ls (.ref q44 :: [.ref (ad 75)])) rfl ?_
      refine z_putF (T := TX7) (N := 6) (ci := 7) (i := 75) (v := .ref q44) (I1 := I2) (J1 := JX) (P1 := (z_up P43 75 3 (some q44))) hx hb hts zi_X7_init_X7 tyX7 tyX7_ok nmX7 hown hK hW hS rfl rfl 3 (by decide) (hts (.fieldLink RX7 44 "PetrolBoard$Orders" "first" "[I") (List.mem_of_getElem? (i := 11) rfl)) (fun _ h => h) rfl hname rfl rfl rfl (by first | rfl | exact congrArg _ z_up_s) (fun a b h ty => z_vP h ty) dX7_init_84 (fun H locs hz1 hW hS => ?_)
      obtain ⟨P45, eP45⟩ : ∃ J : z_P, J = (z_up P43 75 3 (some q44)) := ⟨_, rfl⟩
      rw [← eP45] at hW
      have P45_12_10 : P45 12 10 = some (ad 18) := by rw [eP45, z_up_n (by decide)]; exact P43_12_10
      have P45_12_11 : P45 12 11 = some (ad 19) := by rw [eP45, z_up_n (by decide)]; exact P43_12_11
      have P45_12_12 : P45 12 12 = some (ad 20) := by rw [eP45, z_up_n (by decide)]; exact P43_12_12
      have P45_12_8 : P45 12 8 = some (ad 17) := by rw [eP45, z_up_n (by decide)]; exact P43_12_8
      refine lv_aload_n hx hb dX7_init_87 rfl (lv_at hl 2 rfl) ?_
      refine lv_aload_n hx hb dX7_init_88 rfl (lv_at hl 3 rfl) ?_
      refine z_get (T := TX9) (N := 14) (ci := 9) (i := 12) (v := .ref (ad 20)) hx hb hts zi_X7_init_X9 hown hK hW rfl rfl 12 (by decide) (hts (.fieldLink RX7 45 "PetrolBoard$Reader" "second" "[I") (List.mem_of_getElem? (i := 12) rfl)) (fun _ h => h) (congrArg va_rf P45_12_12) dX7_init_89 ?_
      refine lv_iload hx hb dX7_init_92 (lv_at hl 1 rfl) ?_
      refine z_cq hW hS hA (va_runS (As := [.ref (ad 20), .int 0]) (rest := [.ref (ad 75)]) ⟨hx, hb, hml, hown, hts⟩ (ct_J7_copyOf_24 l G ad ((z_sh shX 75 (.inr 7)), ad, I2, JX, P45) 20 rfl _) (va_cwS 2 hts gX7_init_J7_copyOf_59c91 rfl rfl rfl (by decide +kernel) ⟨Nat.le_of_ble_eq_true rfl, Nat.le_of_ble_eq_true rfl⟩) (z_preS hK hW) rfl rfl hl.1 rfl (lv_room (Nat.le_of_ble_eq_true rfl)) dX7_init_94 ⟨Nat.le_of_ble_eq_true rfl, Nat.le_of_ble_eq_true rfl⟩) (fun r u1 H locs hp hW hS => ?_)
      obtain ⟨q46, rfl, e9⟩ := hp
      rw [e9] at hW
      refine W.eq (g2 := F0 m 97 ls (.ref q46 :: [.ref (ad 75)])) rfl ?_
      refine z_putF (T := TX7) (N := 6) (ci := 7) (i := 75) (v := .ref q46) (I1 := I2) (J1 := JX) (P1 := (z_up P45 75 4 (some q46))) hx hb hts zi_X7_init_X7 tyX7 tyX7_ok nmX7 hown hK hW hS rfl rfl 4 (by decide) (hts (.fieldLink RX7 48 "PetrolBoard$Orders" "second" "[I") (List.mem_of_getElem? (i := 13) rfl)) (fun _ h => h) rfl hname rfl rfl rfl (by first | rfl | exact congrArg _ z_up_s) (fun a b h ty => z_vP h ty) dX7_init_97 (fun H locs hz1 hW hS => ?_)
      obtain ⟨P47, eP47⟩ : ∃ J : z_P, J = (z_up P45 75 4 (some q46)) := ⟨_, rfl⟩
      rw [← eP47] at hW
      have P47_12_10 : P47 12 10 = some (ad 18) := by rw [eP47, z_up_n (by decide)]; exact P45_12_10
      have P47_12_11 : P47 12 11 = some (ad 19) := by rw [eP47, z_up_n (by decide)]; exact P45_12_11
      have P47_12_12 : P47 12 12 = some (ad 20) := by rw [eP47, z_up_n (by decide)]; exact P45_12_12
      have P47_12_8 : P47 12 8 = some (ad 17) := by rw [eP47, z_up_n (by decide)]; exact P45_12_8
      refine lv_aload_n hx hb dX7_init_100 rfl (lv_at hl 2 rfl) ?_
      refine lv_aload_n hx hb dX7_init_101 rfl (lv_at hl 3 rfl) ?_
      refine z_get (T := TX9) (N := 14) (ci := 9) (i := 12) (v := .ref (ad 17)) hx hb hts zi_X7_init_X9 hown hK hW rfl rfl 8 (by decide) (hts (.fieldLink RX7 49 "PetrolBoard$Reader" "code" "[I") (List.mem_of_getElem? (i := 14) rfl)) (fun _ h => h) (congrArg va_rf P47_12_8) dX7_init_102 ?_
      refine lv_iload hx hb dX7_init_105 (lv_at hl 0 rfl) ?_
      refine z_cq hW hS hA (va_runS (As := [.ref (ad 17), .int 0]) (rest := [.ref (ad 75)]) ⟨hx, hb, hml, hown, hts⟩ (ct_J7_copyOf_500 l G ad ((z_sh shX 75 (.inr 7)), ad, I2, JX, P47) 17 rfl _) (va_cwS 2 hts gX7_init_J7_copyOf_59c91 rfl rfl rfl (by decide +kernel) ⟨Nat.le_of_ble_eq_true rfl, Nat.le_of_ble_eq_true rfl⟩) (z_preS hK hW) rfl rfl hl.1 rfl (lv_room (Nat.le_of_ble_eq_true rfl)) dX7_init_107 ⟨Nat.le_of_ble_eq_true rfl, Nat.le_of_ble_eq_true rfl⟩) (fun r u1 H locs hp hW hS => ?_)
      obtain ⟨q48, rfl, e9⟩ := hp
      rw [e9] at hW
      refine W.eq (g2 := F0 m 110 ls (.ref q48 :: [.ref (ad 75)])) rfl ?_
      refine z_putF (T := TX7) (N := 6) (ci := 7) (i := 75) (v := .ref q48) (I1 := I2) (J1 := JX) (P1 := (z_up P47 75 5 (some q48))) hx hb hts zi_X7_init_X7 tyX7 tyX7_ok nmX7 hown hK hW hS rfl rfl 5 (by decide) (hts (.fieldLink RX7 52 "PetrolBoard$Orders" "code" "[I") (List.mem_of_getElem? (i := 15) rfl)) (fun _ h => h) rfl hname rfl rfl rfl (by first | rfl | exact congrArg _ z_up_s) (fun a b h ty => z_vP h ty) dX7_init_110 (fun H locs hz1 hW hS => ?_)
      obtain ⟨P49, eP49⟩ : ∃ J : z_P, J = (z_up P47 75 5 (some q48)) := ⟨_, rfl⟩
      rw [← eP49] at hW
      have P49_12_10 : P49 12 10 = some (ad 18) := by rw [eP49, z_up_n (by decide)]; exact P47_12_10
      have P49_12_11 : P49 12 11 = some (ad 19) := by rw [eP49, z_up_n (by decide)]; exact P47_12_11
      have P49_12_12 : P49 12 12 = some (ad 20) := by rw [eP49, z_up_n (by decide)]; exact P47_12_12
      have P49_12_8 : P49 12 8 = some (ad 17) := by rw [eP49, z_up_n (by decide)]; exact P47_12_8
      exact z_vret hx hb hr hK hS (Nat.le_of_ble_eq_true rfl) (Nat.le_of_ble_eq_true rfl) hlocks dX7_init_113 ((z_sh shX 75 (.inr 7)), ad, I2, JX, P49) hW ⟨_, _, rfl, fun a k h => by rw [eI2, z_up_n h, eI1, z_up_n h], fun a k h => by rw [eP49, z_up_n h, eP47, z_up_n h, eP45, z_up_n h, eP43, z_up_n h]⟩
theorem zi_X6_add_X6 : ∀ w ∈ wsX60, w ∈ wsX6_add := fun w h => (List.mem_cons_of_mem _ (List.mem_append_right _ h))
set_option maxHeartbeats 4000000 in
set_option maxRecDepth 100000 in
theorem ct_X6_add (l : Launch) (G : z_G) (ad : Nat → Nat) (I : z_I) (P : z_P) (hn : I 21 2 = 0) (p1 : P 21 0 = some (ad 22)) : z_M l yX6_add wsX6_add { frames := 1, cells := 0, slots := 0, locals := 12 } [.ref (ad 21), .ref (ad 75)] G ((z_sh shX 75 (.inr 7)), ad, I, JX, P) (fun r u1 => r = 0) 0 0 := by
  intro sz
  refine z_headQ (cc := cX6_add) (maxL := 2) (ret := (some .int)) (by decide) rfl (Nat.le_of_ble_eq_true rfl) ?_
  intro p e s m below meth c ls hIn hK hsz hW hl
  obtain ⟨hx, hb, hr, hml, hown, hts, hlocks, hname⟩ := hIn
  subst hsz
  have hown : s.vm.findClass RX6 = some m.cls := hown
  have hA : ∀ q : Nat, s.heap.size ≤ q → z_A ((z_sh shX 75 (.inr 7)), ad, I, JX, P) s.heap.size q := fun q h => Or.inr h
  generalize hAe : z_A ((z_sh shX 75 (.inr 7)), ad, I, JX, P) s.heap.size = A at *
  have hS : va_S A s.heap s.heap [] := va_S.rf
  have hl : lv_has ls 2 [(0, .ref (ad 21)), (1, .ref (ad 75))] := hl
  refine lv_aload_n hx hb dX6_add_0 rfl (lv_at hl 0 rfl) ?_
  refine z_get (T := TX6) (N := 3) (ci := 6) (i := 21) (v := .int 0) hx hb hts zi_X6_add_X6 hown hK hW rfl rfl 2 (by decide) (hts (.fieldLink RX6 24 "PetrolBoard$OrderBook" "number" "I") (List.mem_of_getElem? (i := 1) rfl)) (fun _ h => h) (congrArg Value.int hn) dX6_add_1 ?_
  refine lv_aload_n hx hb dX6_add_4 rfl (lv_at hl 0 rfl) ?_
  refine z_get (T := TX6) (N := 3) (ci := 6) (i := 21) (v := .ref (ad 22)) hx hb hts zi_X6_add_X6 hown hK hW rfl rfl 0 (by decide) (hts (.fieldLink RX6 11 "PetrolBoard$OrderBook" "told" "[LPetrolBoard$Orders;") (List.mem_of_getElem? (i := 2) rfl)) (fun _ h => h) (congrArg va_rf p1) dX6_add_5 ?_
  refine z_alen (i := 22) (v := 12) hx hb hK hW rfl (by simp [z_tys]) (by rfl) dX6_add_8 ?_
  refine lv_icmp_lt (tgt := 14) hx hb dX6_add_9 (by decide) (fun c1 => ?_) (fun c1 => absurd (by decide) c1)
  refine lv_aload_n hx hb dX6_add_14 rfl (lv_at hl 0 rfl) ?_
  refine z_get (T := TX6) (N := 3) (ci := 6) (i := 21) (v := .ref (ad 22)) hx hb hts zi_X6_add_X6 hown hK hW rfl rfl 0 (by decide) (hts (.fieldLink RX6 11 "PetrolBoard$OrderBook" "told" "[LPetrolBoard$Orders;") (List.mem_of_getElem? (i := 2) rfl)) (fun _ h => h) (congrArg va_rf p1) dX6_add_15 ?_
  refine lv_aload_n hx hb dX6_add_18 rfl (lv_at hl 0 rfl) ?_
  refine z_get (T := TX6) (N := 3) (ci := 6) (i := 21) (v := .int 0) hx hb hts zi_X6_add_X6 hown hK hW rfl rfl 2 (by decide) (hts (.fieldLink RX6 24 "PetrolBoard$OrderBook" "number" "I") (List.mem_of_getElem? (i := 1) rfl)) (fun _ h => h) (congrArg Value.int hn) dX6_add_19 ?_
  refine lv_aload_n hx hb dX6_add_22 rfl (lv_at hl 1 rfl) ?_
  refine z_aast (i := 22) (j := 75) (x := 0) (ci := 7) hx hb hK hW hS rfl (by simp [z_tys]) rfl rfl (z_inl (by decide)) dX6_add_23 (fun H locs hz1 hW hS => ?_)
  refine lv_aload_n hx hb dX6_add_24 rfl (lv_at hl 0 rfl) ?_
  refine lv_dup hx hb dX6_add_25 rfl ?_
  refine z_get (T := TX6) (N := 3) (ci := 6) (i := 21) (v := .int 0) hx hb hts zi_X6_add_X6 hown hK hW rfl rfl 2 (by decide) (hts (.fieldLink RX6 24 "PetrolBoard$OrderBook" "number" "I") (List.mem_of_getElem? (i := 1) rfl)) (fun _ h => h) (congrArg Value.int hn) dX6_add_26 ?_
  refine lv_iconst (v := 1) hx hb dX6_add_29 (by decide) ?_
  refine lv_iadd hx hb dX6_add_30 ?_
  refine z_topi (v := 1) (by decide) ?_
  refine z_put (T := TX6) (N := 3) (ci := 6) (i := 21) (v := .int 1) (I1 := (z_up I 21 2 1)) (J1 := JX) (P1 := (z_up P 22 (0 : Int32).toNatClampNeg (some (ad 75)))) hx hb hts zi_X6_add_X6 tyX6 tyX6_ok nmX6 hown hK hW hS rfl rfl 2 (by decide) (hts (.fieldLink RX6 24 "PetrolBoard$OrderBook" "number" "I") (List.mem_of_getElem? (i := 1) rfl)) (fun _ h => h) rfl rfl rfl (by first | rfl | exact congrArg _ z_up_s) (fun a b h ty => z_vI h ty) dX6_add_31 (fun H locs hz1 hW hS => ?_)
  obtain ⟨I2, eI2⟩ : ∃ J : z_I, J = (z_up I 21 2 1) := ⟨_, rfl⟩
  rw [← eI2] at hW
  have I2_21_2 : I2 21 2 = 1 := by rw [eI2]; exact z_up_s
  refine lv_aload_n hx hb dX6_add_34 rfl (lv_at hl 0 rfl) ?_
  refine z_get (T := TX6) (N := 3) (ci := 6) (i := 21) (v := .int 1) hx hb hts zi_X6_add_X6 hown hK hW rfl rfl 2 (by decide) (hts (.fieldLink RX6 24 "PetrolBoard$OrderBook" "number" "I") (List.mem_of_getElem? (i := 1) rfl)) (fun _ h => h) (congrArg Value.int I2_21_2) dX6_add_35 ?_
  refine lv_iconst (v := 1) hx hb dX6_add_38 (by decide) ?_
  refine lv_isub hx hb dX6_add_39 ?_
  refine z_topi (v := 0) (by decide) ?_
  exact z_iret hx hb hr hK hS (Nat.le_of_ble_eq_true rfl) (Nat.le_of_ble_eq_true rfl) hlocks dX6_add_40 ((z_sh shX 75 (.inr 7)), ad, I2, JX, (z_up P 22 (0 : Int32).toNatClampNeg (some (ad 75)))) hW rfl
theorem zi_X11_orders_X6 : ∀ w ∈ wsX60, w ∈ wsX11_orders := fun w h => (List.mem_cons_of_mem _ (List.mem_append_left _ (List.mem_append_right _ h)))
theorem zi_X11_orders_X7 : ∀ w ∈ wsX70, w ∈ wsX11_orders := fun w h => (List.mem_cons_of_mem _ (List.mem_append_right _ h))
theorem zi_X11_orders_X9 : ∀ w ∈ wsX90, w ∈ wsX11_orders := fun w h => (List.mem_cons_of_mem _ (List.mem_append_left _ (List.mem_append_left _ (List.mem_append_right _ h))))
theorem zi_X11_orders_X11 : ∀ w ∈ wsX110, w ∈ wsX11_orders := fun w h => (List.mem_cons_of_mem _ (List.mem_append_left _ (List.mem_append_left _ (List.mem_append_left _ (List.mem_append_right _ h)))))
set_option maxHeartbeats 4000000 in
set_option maxRecDepth 100000 in
theorem ct_X11_orders (l : Launch) (G : z_G) (ad : Nat → Nat) (a1 : Int32) (a2 : Int32) : z_M l yX11_orders wsX11_orders { frames := 4, cells := 5, slots := 6, locals := 87 } [.ref (ad 0), .int a1, .int a2] G (shX, ad, IX, JX, PX ad) (fun r u1 => r = fr_orders a1 a2) 5 6 := by
  intro sz
  refine z_headQ (cc := cX11_orders) (maxL := 3) (ret := (some .int)) (by decide) rfl (Nat.le_of_ble_eq_true rfl) ?_
  intro p e s m below meth c ls hIn hK hsz hW hl
  obtain ⟨hx, hb, hr, hml, hown, hts, hlocks, hname⟩ := hIn
  subst hsz
  have hown : s.vm.findClass RX11 = some m.cls := hown
  have hA : ∀ q : Nat, s.heap.size ≤ q → z_A (shX, ad, IX, JX, PX ad) s.heap.size q := fun q h => Or.inr h
  generalize hAe : z_A (shX, ad, IX, JX, PX ad) s.heap.size = A at *
  have hS : va_S A s.heap s.heap [] := va_S.rf
  have hl : lv_has ls 3 [(0, .ref (ad 0)), (1, .int a1), (2, .int a2)] := hl
  refine lv_iload_n hx hb dX11_orders_0 rfl (lv_at hl 1 rfl) ?_
  refine lv_if_lt (tgt := 22) hx hb dX11_orders_1 (by decide) (fun c1 => ?_) (fun c1 => ?_)
  · refine lv_bipush (v := (-2)) hx hb dX11_orders_22 (by decide) ?_
    exact z_iret hx hb hr hK hS (Nat.le_of_ble_eq_true rfl) (Nat.le_of_ble_eq_true rfl) hlocks dX11_orders_24 (shX, ad, IX, JX, PX ad) hW (by unfold fr_orders; split <;> first | rfl | decide | (rename_i q; exfalso; simp only [Int32.lt_iff_toInt_lt, Int32.le_iff_toInt_le, ← Int32.toInt_inj, z_l0, z_l1, z_l23, true_and, and_true] at q c1; omega))
  · refine lv_iload_n hx hb dX11_orders_4 rfl (lv_at hl 1 rfl) ?_
    refine lv_aload_n hx hb dX11_orders_5 rfl (lv_at hl 0 rfl) ?_
    refine z_get (T := TX11) (N := 13) (ci := 11) (i := 0) (v := .ref (ad 12)) hx hb hts zi_X11_orders_X11 hown hK hW rfl rfl 3 (by decide) (hts (.fieldLink RX11 23 "PetrolBoard" "reader" "LPetrolBoard$Reader;") (List.mem_of_getElem? (i := 1) rfl)) (fun _ h => h) rfl dX11_orders_6 ?_
    refine z_get (T := TX9) (N := 14) (ci := 9) (i := 12) (v := .int 0) hx hb hts zi_X11_orders_X9 hown hK hW rfl rfl 1 (by decide) (hts (.fieldLink RX11 115 "PetrolBoard$Reader" "taped" "I") (List.mem_of_getElem? (i := 2) rfl)) (fun _ h => h) rfl dX11_orders_9 ?_
    refine lv_icmp_gt (tgt := 22) hx hb dX11_orders_12 (by decide) (fun c2 => ?_) (fun c2 => ?_)
    · refine lv_bipush (v := (-2)) hx hb dX11_orders_22 (by decide) ?_
      exact z_iret hx hb hr hK hS (Nat.le_of_ble_eq_true rfl) (Nat.le_of_ble_eq_true rfl) hlocks dX11_orders_24 (shX, ad, IX, JX, PX ad) hW (by unfold fr_orders; split <;> first | rfl | decide | (rename_i q; exfalso; simp only [Int32.lt_iff_toInt_lt, Int32.le_iff_toInt_le, ← Int32.toInt_inj, z_l0, z_l1, z_l23, true_and, and_true] at q c1 c2; omega))
    · refine lv_iload_n hx hb dX11_orders_15 rfl (lv_at hl 2 rfl) ?_
      refine z_ci hW hS hA (va_runS (As := [.int a2]) (rest := []) ⟨hx, hb, hml, hown, hts⟩ (ct_X11_isMonth l G (shX, ad, IX, JX, PX ad) a2 _) (va_cwS 1 hts gX11_orders_X11_isMonth rfl rfl rfl (by decide +kernel) ⟨Nat.le_of_ble_eq_true rfl, Nat.le_of_ble_eq_true rfl⟩) (z_preS hK hW) rfl rfl hl.1 rfl (lv_room (Nat.le_of_ble_eq_true rfl)) dX11_orders_16 ⟨Nat.le_of_ble_eq_true rfl, Nat.le_of_ble_eq_true rfl⟩) (fun r u1 H locs hp hW hS => ?_)
      obtain ⟨e9, hp⟩ := hp
      rw [e9] at hW
      rcases hp with ⟨rfl, h3, h4⟩ | ⟨rfl, h5⟩
      · refine lv_if_ne (tgt := 25) hx hb dX11_orders_19 (by decide) (fun c6 => ?_) (fun c6 => absurd c6 (by decide))
        have e6 : a1 = 0 := (by simp only [Int32.lt_iff_toInt_lt, Int32.le_iff_toInt_le, ← Int32.toInt_inj, z_l0, z_l23] at c1 c2 ⊢; omega)
        subst e6
        refine lv_aload_n hx hb dX11_orders_25 rfl (lv_at hl 0 rfl) ?_
        refine z_get (T := TX11) (N := 13) (ci := 11) (i := 0) (v := .ref (ad 21)) hx hb hts zi_X11_orders_X11 hown hK hW rfl rfl 4 (by decide) (hts (.fieldLink RX11 30 "PetrolBoard" "orderBook" "LPetrolBoard$OrderBook;") (List.mem_of_getElem? (i := 3) rfl)) (fun _ h => h) rfl dX11_orders_26 ?_
        refine z_get (T := TX6) (N := 3) (ci := 6) (i := 21) (v := .int 0) hx hb hts zi_X11_orders_X6 hown hK hW rfl rfl 2 (by decide) (hts (.fieldLink RX11 125 "PetrolBoard$OrderBook" "number" "I") (List.mem_of_getElem? (i := 4) rfl)) (fun _ h => h) rfl dX11_orders_29 ?_
        refine lv_bipush (v := 12) hx hb dX11_orders_32 (by decide) ?_
        refine lv_icmp_lt (tgt := 40) hx hb dX11_orders_34 (by decide) (fun c7 => ?_) (fun c7 => absurd (by decide) c7)
        refine lv_aload_n hx hb dX11_orders_40 rfl (lv_at hl 0 rfl) ?_
        refine lv_aload_n hx hb dX11_orders_41 rfl (lv_at hl 0 rfl) ?_
        refine z_get (T := TX11) (N := 13) (ci := 11) (i := 0) (v := .ref (ad 12)) hx hb hts zi_X11_orders_X11 hown hK hW rfl rfl 3 (by decide) (hts (.fieldLink RX11 23 "PetrolBoard" "reader" "LPetrolBoard$Reader;") (List.mem_of_getElem? (i := 1) rfl)) (fun _ h => h) rfl dX11_orders_42 ?_
        refine lv_iload_n hx hb dX11_orders_45 rfl (lv_at hl 1 rfl) ?_
        refine z_ci hW hS hA (va_runV (As := [.int 0]) (rest := [.ref (ad 0)]) ⟨hx, hb, hml, hown, hts⟩ (ct_X9_read l G ad _) (cwV 1 hts gX11_orders_X9_read rfl rfl rfl (by decide +kernel) ⟨Nat.le_of_ble_eq_true rfl, Nat.le_of_ble_eq_true rfl⟩) (z_preV hK hW rfl rfl) rfl rfl hl.1 rfl (lv_room (Nat.le_of_ble_eq_true rfl)) dX11_orders_46 ⟨Nat.le_of_ble_eq_true rfl, Nat.le_of_ble_eq_true rfl⟩) (fun r u1 H locs hp hW hS => ?_)
        obtain ⟨e9, rfl⟩ := hp
        rw [e9] at hW
        refine z_put (T := TX11) (N := 13) (ci := 11) (i := 0) (v := .int (-1)) (I1 := (z_up (z_up (z_up (z_up (z_up (z_up IX 14 (0 : Int32).toNatClampNeg 401) 12 5 1) 12 6 (-1)) 12 6 0) 12 7 401) 0 1 (-1))) (J1 := JX) (P1 := PX ad) hx hb hts zi_X11_orders_X11 tyX11 tyX11_ok nmX11 hown hK hW hS rfl rfl 1 (by decide) (hts (.fieldLink RX11 9 "PetrolBoard" "faultPlace" "I") (List.mem_of_getElem? (i := 5) rfl)) (fun _ h => h) rfl rfl rfl (by first | rfl | exact congrArg _ z_up_s) (fun a b h ty => z_vI h ty) dX11_orders_49 (fun H locs hz1 hW hS => ?_)
        rw [show (z_up (z_up (z_up (z_up (z_up (z_up IX 14 (0 : Int32).toNatClampNeg 401) 12 5 1) 12 6 (-1)) 12 6 0) 12 7 401) 0 1 (-1)) = (z_up (z_up (z_up (z_up (z_up IX 14 (0 : Int32).toNatClampNeg 401) 12 5 1) 12 6 (-1)) 12 6 0) 12 7 401) from z_up_id rfl] at hW
        refine lv_aload_n hx hb dX11_orders_52 rfl (lv_at hl 0 rfl) ?_
        refine z_get (T := TX11) (N := 13) (ci := 11) (i := 0) (v := .int (-1)) hx hb hts zi_X11_orders_X11 hown hK hW rfl rfl 1 (by decide) (hts (.fieldLink RX11 9 "PetrolBoard" "faultPlace" "I") (List.mem_of_getElem? (i := 5) rfl)) (fun _ h => h) rfl dX11_orders_53 ?_
        refine lv_iconst (v := (-1)) hx hb dX11_orders_56 (by decide) ?_
        refine lv_icmp_eq (tgt := 62) hx hb dX11_orders_57 (by decide) (fun c8 => ?_) (fun c8 => absurd (by decide) c8)
        refine lv_aload_n hx hb dX11_orders_62 rfl (lv_at hl 0 rfl) ?_
        refine z_get (T := TX11) (N := 13) (ci := 11) (i := 0) (v := .ref (ad 21)) hx hb hts zi_X11_orders_X11 hown hK hW rfl rfl 4 (by decide) (hts (.fieldLink RX11 30 "PetrolBoard" "orderBook" "LPetrolBoard$OrderBook;") (List.mem_of_getElem? (i := 3) rfl)) (fun _ h => h) rfl dX11_orders_63 ?_
        obtain ⟨q9, eq9⟩ : ∃ q : Nat, q = H.size := ⟨_, rfl⟩
        refine z_new 75 (z_ad ad 75 q9) (T := TX7) (N := 6) (ci := 7) hx hb hts zi_X11_orders_X7 tyX7 tyX7_ok hown (hts (.classLink RX11 132 RX7) (List.mem_of_getElem? (i := 6) rfl)) (hts (.instantiable RX7 6) (List.mem_of_getElem? (i := 7) rfl)) (hts (.initialized RX7) (List.mem_of_getElem? (i := 8) rfl)) hK hW hS hA (z_ad_s.trans eq9) z_ad_n rfl (fun k hk => (z_v0 rfl rfl rfl (ndX7 k hk)).symm) (Nat.le_of_ble_eq_true rfl) (Nat.le_of_ble_eq_true rfl) dX11_orders_66 (fun H hz1 hW hS => ?_)
        have hl : lv_has ls 3 [(0, .ref ((z_ad ad 75 q9) 0)), (1, .int 0), (2, .int a2)] := hl
        refine lv_dup hx hb dX11_orders_69 rfl ?_
        refine lv_aload_n hx hb dX11_orders_70 rfl (lv_at hl 0 rfl) ?_
        refine z_get (T := TX11) (N := 13) (ci := 11) (i := 0) (v := .ref ((z_ad ad 75 q9) 12)) hx hb hts zi_X11_orders_X11 hown hK hW rfl rfl 3 (by decide) (hts (.fieldLink RX11 23 "PetrolBoard" "reader" "LPetrolBoard$Reader;") (List.mem_of_getElem? (i := 1) rfl)) (fun _ h => h) rfl dX11_orders_71 ?_
        refine lv_iload_n hx hb dX11_orders_74 rfl (lv_at hl 2 rfl) ?_
        refine lv_aload_n hx hb dX11_orders_75 rfl (lv_at hl 0 rfl) ?_
        refine z_get (T := TX11) (N := 13) (ci := 11) (i := 0) (v := .int 0) hx hb hts zi_X11_orders_X11 hown hK hW rfl rfl 0 (by decide) (hts (.fieldLink RX11 85 "PetrolBoard" "today" "I") (List.mem_of_getElem? (i := 9) rfl)) (fun _ h => h) rfl dX11_orders_76 ?_
        refine z_cv hW hS hA (va_runI (As := [.ref ((z_ad ad 75 q9) 12), .int a2, .int 0]) (rest := [.ref ((z_ad ad 75 q9) 75), .ref ((z_ad ad 75 q9) 21)]) ⟨hx, hb, hml, hown, hts⟩ ((ct_X7_init l G (z_ad ad 75 q9) (z_up (z_up (z_up (z_up (z_up IX 14 (0 : Int32).toNatClampNeg 401) 12 5 1) 12 6 (-1)) 12 6 0) 12 7 401) (PX ad) a2 0 rfl rfl rfl rfl rfl rfl) _) (cwI 3 hts gX11_orders_X7_init rfl rfl rfl (hts (.initialized RX7) (List.mem_of_getElem? (i := 8) rfl)) (hts (.methodLink RX11 134 yX7_init) (List.mem_of_getElem? (i := 195) rfl)) (hts (.instanceMethod yX7_init) (List.mem_of_getElem? (i := 196) rfl)) rfl (by decide +kernel) ⟨Nat.le_of_ble_eq_true rfl, Nat.le_of_ble_eq_true rfl⟩) (z_preS hK hW) rfl rfl hl.1 rfl (lv_room (Nat.le_of_ble_eq_true rfl)) dX11_orders_79 ⟨Nat.le_of_ble_eq_true rfl, Nat.le_of_ble_eq_true rfl⟩) (fun u1 H locs hp hW hS => ?_)
        obtain ⟨I1, P1, e9, hI1, hP1⟩ := hp
        rw [e9] at hW
        refine z_ci hW hS hA (va_runV (As := [.ref ((z_ad ad 75 q9) 75)]) (rest := []) ⟨hx, hb, hml, hown, hts⟩ (ct_X6_add l G (z_ad ad 75 q9) I1 P1 ((hI1 21 2 (by decide)).trans rfl) ((hP1 21 0 (by decide)).trans rfl) _) (cwV 1 hts gX11_orders_X6_add rfl rfl rfl (by decide +kernel) ⟨Nat.le_of_ble_eq_true rfl, Nat.le_of_ble_eq_true rfl⟩) (z_preV (i := 21) hK hW rfl rfl) rfl rfl hl.1 rfl (lv_room (Nat.le_of_ble_eq_true rfl)) dX11_orders_82 ⟨Nat.le_of_ble_eq_true rfl, Nat.le_of_ble_eq_true rfl⟩) (fun r u1 H locs hp hW hS => ?_)
        rw [hp]
        exact z_iret hx hb hr hK hS (Nat.le_of_ble_eq_true rfl) (Nat.le_of_ble_eq_true rfl) hlocks dX11_orders_85 u1 hW (by unfold fr_orders; split <;> first | rfl | decide | (rename_i q; exfalso; simp only [Int32.lt_iff_toInt_lt, Int32.le_iff_toInt_le, ← Int32.toInt_inj, z_l0, z_l1, z_l23, true_and, and_true] at q h3 h4; omega))
      · refine lv_if_ne (tgt := 25) hx hb dX11_orders_19 (by decide) (fun c10 => absurd (by decide) c10) (fun c10 => ?_)
        refine lv_bipush (v := (-2)) hx hb dX11_orders_22 (by decide) ?_
        exact z_iret hx hb hr hK hS (Nat.le_of_ble_eq_true rfl) (Nat.le_of_ble_eq_true rfl) hlocks dX11_orders_24 (shX, ad, IX, JX, PX ad) hW (by unfold fr_orders; split <;> first | rfl | decide | (rename_i q; exfalso; simp only [Int32.lt_iff_toInt_lt, Int32.le_iff_toInt_le, ← Int32.toInt_inj, z_l0, z_l1, z_l23, true_and, and_true] at q c1 c2 h5; omega))
