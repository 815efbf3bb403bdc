theorem dX11_isWay_0 : decode cX11_isWay 0 = .ok (.iload_n 0, 1) := z_dd_26 (by decide +kernel)
theorem dX11_isWay_1 : decode cX11_isWay 1 = .ok (.iconst 0, 1) := z_dd_3 (by decide +kernel)
theorem dX11_isWay_2 : decode cX11_isWay 2 = .ok (.bipush 99, 2) := z_dd_16 (by decide +kernel)
set_option maxRecDepth 20000 in
theorem ggX11_isWay_X11_within : GoodIn wsX11_isWay wsX11_within := goodIn_sub (fa_c (me_s (List.mem_of_getElem? (i := 3) rfl)) fa_n) (by decide +kernel)
set_option maxRecDepth 20000 in
theorem gX11_isWay_X11_within : GoodIn wsX11_isWay (va_wsS RX11 88 yX11_within wsX11_within) := goodIn_app (goodIn_sub (fa_c (me_s (List.mem_of_getElem? (i := 0) rfl)) (fa_c (me_s (List.mem_of_getElem? (i := 1) rfl)) (fa_c (me_s (List.mem_of_getElem? (i := 2) rfl)) fa_n))) (by decide +kernel)) ggX11_isWay_X11_within
theorem dX11_isWay_4 : decode cX11_isWay 4 = .ok (.invokestatic 88, 3) := z_dd_184 (by decide +kernel)
theorem dX11_isWay_7 : decode cX11_isWay 7 = .ok (.ifCond .eq 18, 3) := z_dd_153 (by decide +kernel)
theorem dX11_isWay_10 : decode cX11_isWay 10 = .ok (.iload_n 0, 1) := z_dd_26 (by decide +kernel)
theorem dX11_isWay_11 : decode cX11_isWay 11 = .ok (.bipush 10, 2) := z_dd_16 (by decide +kernel)
theorem dX11_isWay_13 : decode cX11_isWay 13 = .ok (.idiv, 1) := z_dd_108 (by decide +kernel)
theorem dX11_isWay_14 : decode cX11_isWay 14 = .ok (.iload_n 0, 1) := z_dd_26 (by decide +kernel)
theorem dX11_isWay_15 : decode cX11_isWay 15 = .ok (.bipush 10, 2) := z_dd_16 (by decide +kernel)
theorem dX11_isWay_17 : decode cX11_isWay 17 = .ok (.irem, 1) := z_dd_112 (by decide +kernel)
theorem dX11_isWay_18 : decode cX11_isWay 18 = .ok (.if_icmp .eq 7, 3) := z_dd_159 (by decide +kernel)
theorem dX11_isWay_25 : decode cX11_isWay 25 = .ok (.iconst 0, 1) := z_dd_3 (by decide +kernel)
theorem dX11_isWay_26 : decode cX11_isWay 26 = .ok (.ireturn, 1) := z_dd_172 (by decide +kernel)
theorem dX11_isWay_21 : decode cX11_isWay 21 = .ok (.iconst 1, 1) := z_dd_4 (by decide +kernel)
theorem dX11_isWay_22 : decode cX11_isWay 22 = .ok (.goto 4, 3) := z_dd_167 (by decide +kernel)
theorem dX2_has_12 : decode cX2_has 12 = .ok (.iload_n 1, 1) := z_dd_27 (by decide +kernel)
theorem dX2_has_13 : decode cX2_has 13 = .ok (.bipush 30, 2) := z_dd_16 (by decide +kernel)
theorem dX2_has_15 : decode cX2_has 15 = .ok (.if_icmp .ge 7, 3) := z_dd_162 (by decide +kernel)
theorem dX2_has_18 : decode cX2_has 18 = .ok (.iconst 1, 1) := z_dd_4 (by decide +kernel)
theorem dX2_has_19 : decode cX2_has 19 = .ok (.goto 4, 3) := z_dd_167 (by decide +kernel)
theorem dX2_add_9 : decode cX2_add 9 = .ok (.iconst (-1), 1) := z_dd_2 (by decide +kernel)
theorem dX2_add_10 : decode cX2_add 10 = .ok (.ireturn, 1) := z_dd_172 (by decide +kernel)
theorem dX2_addNote_0 : decode cX2_addNote 0 = .ok (.aload_n 0, 1) := z_dd_42 (by decide +kernel)
theorem dX2_addNote_1 : decode cX2_addNote 1 = .ok (.getfield 46, 3) := z_dd_180 (by decide +kernel)
theorem dX2_addNote_4 : decode cX2_addNote 4 = .ok (.sipush 200, 3) := z_dd_17 (by decide +kernel)
theorem dX2_addNote_7 : decode cX2_addNote 7 = .ok (.if_icmp .lt 5, 3) := z_dd_161 (by decide +kernel)
theorem dX2_addNote_12 : decode cX2_addNote 12 = .ok (.aload_n 0, 1) := z_dd_42 (by decide +kernel)
theorem dX2_addNote_13 : decode cX2_addNote 13 = .ok (.getfield 27, 3) := z_dd_180 (by decide +kernel)
theorem dX2_addNote_16 : decode cX2_addNote 16 = .ok (.aload_n 0, 1) := z_dd_42 (by decide +kernel)
theorem dX2_addNote_17 : decode cX2_addNote 17 = .ok (.getfield 46, 3) := z_dd_180 (by decide +kernel)
theorem dX2_addNote_20 : decode cX2_addNote 20 = .ok (.iload_n 1, 1) := z_dd_27 (by decide +kernel)
theorem dX2_addNote_21 : decode cX2_addNote 21 = .ok (.iastore, 1) := z_dd_79 (by decide +kernel)
theorem dX2_addNote_22 : decode cX2_addNote 22 = .ok (.aload_n 0, 1) := z_dd_42 (by decide +kernel)
theorem dX2_addNote_23 : decode cX2_addNote 23 = .ok (.getfield 30, 3) := z_dd_180 (by decide +kernel)
theorem dX2_addNote_26 : decode cX2_addNote 26 = .ok (.aload_n 0, 1) := z_dd_42 (by decide +kernel)
theorem dX2_addNote_27 : decode cX2_addNote 27 = .ok (.getfield 46, 3) := z_dd_180 (by decide +kernel)
theorem dX2_addNote_30 : decode cX2_addNote 30 = .ok (.iload_n 2, 1) := z_dd_28 (by decide +kernel)
theorem dX2_addNote_31 : decode cX2_addNote 31 = .ok (.iastore, 1) := z_dd_79 (by decide +kernel)
theorem dX2_addNote_32 : decode cX2_addNote 32 = .ok (.aload_n 0, 1) := z_dd_42 (by decide +kernel)
theorem dX2_addNote_33 : decode cX2_addNote 33 = .ok (.getfield 33, 3) := z_dd_180 (by decide +kernel)
theorem dX2_addNote_36 : decode cX2_addNote 36 = .ok (.aload_n 0, 1) := z_dd_42 (by decide +kernel)
theorem dX2_addNote_37 : decode cX2_addNote 37 = .ok (.getfield 46, 3) := z_dd_180 (by decide +kernel)
theorem dX2_addNote_40 : decode cX2_addNote 40 = .ok (.iload_n 3, 1) := z_dd_29 (by decide +kernel)
theorem dX2_addNote_41 : decode cX2_addNote 41 = .ok (.iastore, 1) := z_dd_79 (by decide +kernel)
theorem dX2_addNote_42 : decode cX2_addNote 42 = .ok (.aload_n 0, 1) := z_dd_42 (by decide +kernel)
theorem dX2_addNote_43 : decode cX2_addNote 43 = .ok (.getfield 36, 3) := z_dd_180 (by decide +kernel)
theorem dX2_addNote_46 : decode cX2_addNote 46 = .ok (.aload_n 0, 1) := z_dd_42 (by decide +kernel)
theorem dX2_addNote_47 : decode cX2_addNote 47 = .ok (.getfield 46, 3) := z_dd_180 (by decide +kernel)
theorem dX2_addNote_50 : decode cX2_addNote 50 = .ok (.iload 4, 2) := z_dd_21 (by decide +kernel)
theorem dX2_addNote_52 : decode cX2_addNote 52 = .ok (.iastore, 1) := z_dd_79 (by decide +kernel)
theorem dX2_addNote_53 : decode cX2_addNote 53 = .ok (.aload_n 0, 1) := z_dd_42 (by decide +kernel)
theorem dX2_addNote_54 : decode cX2_addNote 54 = .ok (.getfield 39, 3) := z_dd_180 (by decide +kernel)
theorem dX2_addNote_57 : decode cX2_addNote 57 = .ok (.aload_n 0, 1) := z_dd_42 (by decide +kernel)
theorem dX2_addNote_58 : decode cX2_addNote 58 = .ok (.getfield 46, 3) := z_dd_180 (by decide +kernel)
theorem dX2_addNote_61 : decode cX2_addNote 61 = .ok (.sipush 720, 3) := z_dd_17 (by decide +kernel)
theorem dX2_addNote_64 : decode cX2_addNote 64 = .ok (.iastore, 1) := z_dd_79 (by decide +kernel)
theorem dX2_addNote_65 : decode cX2_addNote 65 = .ok (.aload_n 0, 1) := z_dd_42 (by decide +kernel)
theorem dX2_addNote_66 : decode cX2_addNote 66 = .ok (.dup, 1) := z_dd_89 (by decide +kernel)
theorem dX2_addNote_67 : decode cX2_addNote 67 = .ok (.getfield 46, 3) := z_dd_180 (by decide +kernel)
theorem dX2_addNote_70 : decode cX2_addNote 70 = .ok (.iconst 1, 1) := z_dd_4 (by decide +kernel)
theorem dX2_addNote_71 : decode cX2_addNote 71 = .ok (.iadd, 1) := z_dd_96 (by decide +kernel)
theorem dX2_addNote_72 : decode cX2_addNote 72 = .ok (.putfield 46, 3) := z_dd_181 (by decide +kernel)
theorem dX2_addNote_75 : decode cX2_addNote 75 = .ok (.aload_n 0, 1) := z_dd_42 (by decide +kernel)
theorem dX2_addNote_76 : decode cX2_addNote 76 = .ok (.getfield 46, 3) := z_dd_180 (by decide +kernel)
theorem dX2_addNote_79 : decode cX2_addNote 79 = .ok (.iconst 1, 1) := z_dd_4 (by decide +kernel)
theorem dX2_addNote_80 : decode cX2_addNote 80 = .ok (.isub, 1) := z_dd_100 (by decide +kernel)
theorem dX2_addNote_81 : decode cX2_addNote 81 = .ok (.ireturn, 1) := z_dd_172 (by decide +kernel)
theorem dX2_addNote_10 : decode cX2_addNote 10 = .ok (.iconst (-1), 1) := z_dd_2 (by decide +kernel)
theorem dX2_addNote_11 : decode cX2_addNote 11 = .ok (.ireturn, 1) := z_dd_172 (by decide +kernel)
theorem dX2_cancelNote_12 : decode cX2_cancelNote 12 = .ok (.iload_n 1, 1) := z_dd_27 (by decide +kernel)
theorem dX2_cancelNote_13 : decode cX2_cancelNote 13 = .ok (.sipush 200, 3) := z_dd_17 (by decide +kernel)
theorem dX2_cancelNote_16 : decode cX2_cancelNote 16 = .ok (.if_icmp .ge 15, 3) := z_dd_162 (by decide +kernel)
theorem dX2_cancelNote_19 : decode cX2_cancelNote 19 = .ok (.aload_n 0, 1) := z_dd_42 (by decide +kernel)
theorem dX2_cancelNote_20 : decode cX2_cancelNote 20 = .ok (.getfield 39, 3) := z_dd_180 (by decide +kernel)
theorem dX2_cancelNote_23 : decode cX2_cancelNote 23 = .ok (.iload_n 1, 1) := z_dd_27 (by decide +kernel)
theorem dX2_cancelNote_24 : decode cX2_cancelNote 24 = .ok (.iaload, 1) := z_dd_46 (by decide +kernel)
theorem dX2_cancelNote_25 : decode cX2_cancelNote 25 = .ok (.sipush 720, 3) := z_dd_17 (by decide +kernel)
theorem dX2_cancelNote_28 : decode cX2_cancelNote 28 = .ok (.if_icmp .ge 5, 3) := z_dd_162 (by decide +kernel)
theorem dX2_cancelNote_33 : decode cX2_cancelNote 33 = .ok (.aload_n 0, 1) := z_dd_42 (by decide +kernel)
theorem dX2_cancelNote_34 : decode cX2_cancelNote 34 = .ok (.getfield 39, 3) := z_dd_180 (by decide +kernel)
theorem dX2_cancelNote_37 : decode cX2_cancelNote 37 = .ok (.iload_n 1, 1) := z_dd_27 (by decide +kernel)
theorem dX2_cancelNote_38 : decode cX2_cancelNote 38 = .ok (.iload_n 2, 1) := z_dd_28 (by decide +kernel)
theorem dX2_cancelNote_39 : decode cX2_cancelNote 39 = .ok (.iastore, 1) := z_dd_79 (by decide +kernel)
theorem dX2_cancelNote_40 : decode cX2_cancelNote 40 = .ok (.iconst 1, 1) := z_dd_4 (by decide +kernel)
theorem dX2_cancelNote_41 : decode cX2_cancelNote 41 = .ok (.ireturn, 1) := z_dd_172 (by decide +kernel)
theorem dX2_kindOn_0 : decode cX2_kindOn 0 = .ok (.iconst (-1), 1) := z_dd_2 (by decide +kernel)
theorem dX2_kindOn_1 : decode cX2_kindOn 1 = .ok (.istore 4, 2) := z_dd_54 (by decide +kernel)
theorem dX2_kindOn_3 : decode cX2_kindOn 3 = .ok (.iconst 0, 1) := z_dd_3 (by decide +kernel)
theorem dX2_kindOn_4 : decode cX2_kindOn 4 = .ok (.istore 5, 2) := z_dd_54 (by decide +kernel)
theorem dX2_kindOn_6 : decode cX2_kindOn 6 = .ok (.iconst 0, 1) := z_dd_3 (by decide +kernel)
theorem dX2_kindOn_7 : decode cX2_kindOn 7 = .ok (.istore 6, 2) := z_dd_54 (by decide +kernel)
theorem dX2_kindOn_9 : decode cX2_kindOn 9 = .ok (.iload 6, 2) := z_dd_21 (by decide +kernel)
theorem dX2_kindOn_11 : decode cX2_kindOn 11 = .ok (.aload_n 0, 1) := z_dd_42 (by decide +kernel)
theorem dX2_kindOn_12 : decode cX2_kindOn 12 = .ok (.getfield 46, 3) := z_dd_180 (by decide +kernel)
theorem dX2_kindOn_15 : decode cX2_kindOn 15 = .ok (.if_icmp .ge 103, 3) := z_dd_162 (by decide +kernel)
theorem dX2_kindOn_118 : decode cX2_kindOn 118 = .ok (.iload 5, 2) := z_dd_21 (by decide +kernel)
theorem dX2_kindOn_120 : decode cX2_kindOn 120 = .ok (.ireturn, 1) := z_dd_172 (by decide +kernel)
theorem dX2_kindOn_18 : decode cX2_kindOn 18 = .ok (.iload 6, 2) := z_dd_21 (by decide +kernel)
theorem dX2_kindOn_20 : decode cX2_kindOn 20 = .ok (.sipush 200, 3) := z_dd_17 (by decide +kernel)
theorem dX2_kindOn_23 : decode cX2_kindOn 23 = .ok (.if_icmp .ge 95, 3) := z_dd_162 (by decide +kernel)
theorem dX2_kindOn_26 : decode cX2_kindOn 26 = .ok (.aload_n 0, 1) := z_dd_42 (by decide +kernel)
theorem dX2_kindOn_27 : decode cX2_kindOn 27 = .ok (.getfield 27, 3) := z_dd_180 (by decide +kernel)
theorem dX2_kindOn_30 : decode cX2_kindOn 30 = .ok (.iload 6, 2) := z_dd_21 (by decide +kernel)
theorem dX2_kindOn_32 : decode cX2_kindOn 32 = .ok (.iaload, 1) := z_dd_46 (by decide +kernel)
theorem dX2_kindOn_33 : decode cX2_kindOn 33 = .ok (.iload_n 1, 1) := z_dd_27 (by decide +kernel)
theorem dX2_kindOn_34 : decode cX2_kindOn 34 = .ok (.if_icmp .ne 40, 3) := z_dd_160 (by decide +kernel)
theorem dX2_kindOn_74 : decode cX2_kindOn 74 = .ok (.iconst 0, 1) := z_dd_3 (by decide +kernel)
theorem dX2_kindOn_75 : decode cX2_kindOn 75 = .ok (.istore 7, 2) := z_dd_54 (by decide +kernel)
theorem dX2_kindOn_77 : decode cX2_kindOn 77 = .ok (.iload 7, 2) := z_dd_21 (by decide +kernel)
theorem dX2_kindOn_79 : decode cX2_kindOn 79 = .ok (.ifCond .eq 33, 3) := z_dd_153 (by decide +kernel)
theorem dX2_kindOn_112 : decode cX2_kindOn 112 = .ok (.iinc 6 1, 3) := z_dd_132 (by decide +kernel)
theorem dX2_kindOn_115 : decode cX2_kindOn 115 = .ok (.goto (-106), 3) := z_dd_167 (by decide +kernel)
theorem dX2_kindOn_37 : decode cX2_kindOn 37 = .ok (.aload_n 0, 1) := z_dd_42 (by decide +kernel)
theorem dX2_kindOn_38 : decode cX2_kindOn 38 = .ok (.getfield 33, 3) := z_dd_180 (by decide +kernel)
theorem dX2_kindOn_41 : decode cX2_kindOn 41 = .ok (.iload 6, 2) := z_dd_21 (by decide +kernel)
theorem dX2_kindOn_43 : decode cX2_kindOn 43 = .ok (.iaload, 1) := z_dd_46 (by decide +kernel)
theorem dX2_kindOn_44 : decode cX2_kindOn 44 = .ok (.iload_n 2, 1) := z_dd_28 (by decide +kernel)
theorem dX2_kindOn_45 : decode cX2_kindOn 45 = .ok (.if_icmp .gt 29, 3) := z_dd_163 (by decide +kernel)
theorem dX2_kindOn_48 : decode cX2_kindOn 48 = .ok (.aload_n 0, 1) := z_dd_42 (by decide +kernel)
theorem dX2_kindOn_49 : decode cX2_kindOn 49 = .ok (.getfield 36, 3) := z_dd_180 (by decide +kernel)
theorem dX2_kindOn_52 : decode cX2_kindOn 52 = .ok (.iload 6, 2) := z_dd_21 (by decide +kernel)
theorem dX2_kindOn_54 : decode cX2_kindOn 54 = .ok (.iaload, 1) := z_dd_46 (by decide +kernel)
theorem dX2_kindOn_55 : decode cX2_kindOn 55 = .ok (.iload_n 3, 1) := z_dd_29 (by decide +kernel)
theorem dX2_kindOn_56 : decode cX2_kindOn 56 = .ok (.if_icmp .gt 18, 3) := z_dd_163 (by decide +kernel)
theorem dX2_kindOn_59 : decode cX2_kindOn 59 = .ok (.iload_n 3, 1) := z_dd_29 (by decide +kernel)
theorem dX2_kindOn_60 : decode cX2_kindOn 60 = .ok (.aload_n 0, 1) := z_dd_42 (by decide +kernel)
theorem dX2_kindOn_61 : decode cX2_kindOn 61 = .ok (.getfield 39, 3) := z_dd_180 (by decide +kernel)
theorem dX2_kindOn_64 : decode cX2_kindOn 64 = .ok (.iload 6, 2) := z_dd_21 (by decide +kernel)
theorem dX2_kindOn_66 : decode cX2_kindOn 66 = .ok (.iaload, 1) := z_dd_46 (by decide +kernel)
theorem dX2_kindOn_67 : decode cX2_kindOn 67 = .ok (.if_icmp .ge 7, 3) := z_dd_162 (by decide +kernel)
theorem dX2_kindOn_70 : decode cX2_kindOn 70 = .ok (.iconst 1, 1) := z_dd_4 (by decide +kernel)
theorem dX2_kindOn_71 : decode cX2_kindOn 71 = .ok (.goto 4, 3) := z_dd_167 (by decide +kernel)
theorem dX2_kindOn_82 : decode cX2_kindOn 82 = .ok (.aload_n 0, 1) := z_dd_42 (by decide +kernel)
theorem dX2_kindOn_83 : decode cX2_kindOn 83 = .ok (.getfield 33, 3) := z_dd_180 (by decide +kernel)
theorem dX2_kindOn_86 : decode cX2_kindOn 86 = .ok (.iload 6, 2) := z_dd_21 (by decide +kernel)
theorem dX2_kindOn_88 : decode cX2_kindOn 88 = .ok (.iaload, 1) := z_dd_46 (by decide +kernel)
theorem dX2_kindOn_89 : decode cX2_kindOn 89 = .ok (.iload 4, 2) := z_dd_21 (by decide +kernel)
theorem dX2_kindOn_91 : decode cX2_kindOn 91 = .ok (.if_icmp .lt 21, 3) := z_dd_161 (by decide +kernel)
theorem dX2_kindOn_94 : decode cX2_kindOn 94 = .ok (.aload_n 0, 1) := z_dd_42 (by decide +kernel)
theorem dX2_kindOn_95 : decode cX2_kindOn 95 = .ok (.getfield 33, 3) := z_dd_180 (by decide +kernel)
theorem dX2_kindOn_98 : decode cX2_kindOn 98 = .ok (.iload 6, 2) := z_dd_21 (by decide +kernel)
theorem dX2_kindOn_100 : decode cX2_kindOn 100 = .ok (.iaload, 1) := z_dd_46 (by decide +kernel)
theorem dX2_kindOn_101 : decode cX2_kindOn 101 = .ok (.istore 4, 2) := z_dd_54 (by decide +kernel)
theorem dX2_kindOn_103 : decode cX2_kindOn 103 = .ok (.aload_n 0, 1) := z_dd_42 (by decide +kernel)
theorem dX2_kindOn_104 : decode cX2_kindOn 104 = .ok (.getfield 30, 3) := z_dd_180 (by decide +kernel)
theorem dX2_kindOn_107 : decode cX2_kindOn 107 = .ok (.iload 6, 2) := z_dd_21 (by decide +kernel)
theorem dX2_kindOn_109 : decode cX2_kindOn 109 = .ok (.iaload, 1) := z_dd_46 (by decide +kernel)
theorem dX2_kindOn_110 : decode cX2_kindOn 110 = .ok (.istore 5, 2) := z_dd_54 (by decide +kernel)
theorem z_lm1 : ((-1) : Int32).toInt = -1 := by decide
theorem z_l200 : (200 : Int32).toInt = 200 := by decide
set_option maxHeartbeats 8000000 in
set_option maxRecDepth 100000 in
theorem sx_X11_within (l : Launch) (G : z_G) (ad : Nat → Nat) (c : z_C) (I : z_I) (a1 : Int32) (a2 : Int32) (a3 : Int32) : z_M l yX11_within wsX11_within { frames := 1, cells := 0, slots := 0, locals := 12 } [.int a1, .int a2, .int a3] G (shC c, ad, I, JX, PC c ad) (fun r u1 => u1 = (shC c, ad, I, JX, PC c ad) ∧ (r = 1 ∧ a2.toInt ≤ a1.toInt ∧ a1.toInt ≤ a3.toInt ∨ r = 0)) 0 0 := by
  intro sz
  refine z_headQ (cc := cX11_within) (maxL := 3) (ret := (some .boolean)) (by decide) rfl (Nat.le_of_ble_eq_true rfl) ?_
  intro p e s m below meth c0 ls hIn hK hsz hW hl
  obtain ⟨hx, hb, hr, hml, hown, hts, hlocks, hname⟩ := hIn
  subst hsz
  have hown : s.vm.findClass RX11 = some m.cls := hown
  have hA : ∀ q : Nat, s.heap.size ≤ q → z_A (shC c, ad, I, JX, PC c ad) s.heap.size q := fun q h => Or.inr h
  generalize hAe : z_A (shC c, ad, I, JX, PC c ad) s.heap.size = A at *
  have hS : va_S A s.heap s.heap [] := va_S.rf
  have hl : lv_has ls 3 [(0, .int a1), (1, .int a2), (2, .int a3)] := hl
  refine lv_iload_n hx hb dX11_within_0 rfl (lv_at hl 0 rfl) ?_
  refine lv_iload_n hx hb dX11_within_1 rfl (lv_at hl 1 rfl) ?_
  refine lv_icmp_lt (tgt := 14) hx hb dX11_within_2 (by decide) (fun c1 => ?_) (fun c1 => ?_)
  · have g2 := z_f_lt rfl rfl c1
    refine lv_iconst (v := 0) hx hb dX11_within_14 (by decide) ?_
    exact z_zret hx hb hr (by decide) hK hS (Nat.le_of_ble_eq_true rfl) (Nat.le_of_ble_eq_true rfl) hlocks dX11_within_15 (shC c, ad, I, JX, PC c ad) hW ⟨rfl, Or.inr rfl⟩
  · have g3 := z_f_nlt rfl rfl c1
    refine lv_iload_n hx hb dX11_within_5 rfl (lv_at hl 0 rfl) ?_
    refine lv_iload_n hx hb dX11_within_6 rfl (lv_at hl 2 rfl) ?_
    refine lv_icmp_gt (tgt := 14) hx hb dX11_within_7 (by decide) (fun c4 => ?_) (fun c4 => ?_)
    · have g5 := z_f_gt rfl rfl c4
      refine lv_iconst (v := 0) hx hb dX11_within_14 (by decide) ?_
      exact z_zret hx hb hr (by decide) hK hS (Nat.le_of_ble_eq_true rfl) (Nat.le_of_ble_eq_true rfl) hlocks dX11_within_15 (shC c, ad, I, JX, PC c ad) hW ⟨rfl, Or.inr rfl⟩
    · have g6 := z_f_ngt rfl rfl c4
      refine lv_iconst (v := 1) hx hb dX11_within_10 (by decide) ?_
      refine lv_goto (tgt := 15) hx hb dX11_within_11 (by decide) ?_
      exact z_zret hx hb hr (by decide) hK hS (Nat.le_of_ble_eq_true rfl) (Nat.le_of_ble_eq_true rfl) hlocks dX11_within_15 (shC c, ad, I, JX, PC c ad) hW ⟨rfl, Or.inl ⟨rfl, (by omega), (by omega)⟩⟩
set_option maxHeartbeats 8000000 in
set_option maxRecDepth 100000 in
theorem sx_X11_isDay (l : Launch) (G : z_G) (ad : Nat → Nat) (c : z_C) (I : z_I) (a1 : Int32) : z_M l yX11_isDay wsX11_isDay { frames := 2, cells := 0, slots := 0, locals := 34 } [.int a1] G (shC c, ad, I, JX, PC c ad) (fun r u1 => u1 = (shC c, ad, I, JX, PC c ad) ∧ (r = 1 ∧ 0 ≤ a1.toInt ∧ a1.toInt ≤ 719 ∨ r = 0)) 0 0 := by
  intro sz
  refine z_headQ (cc := cX11_isDay) (maxL := 1) (ret := (some .boolean)) (by decide) rfl (Nat.le_of_ble_eq_true rfl) ?_
  intro p e s m below meth c0 ls hIn hK hsz hW hl
  obtain ⟨hx, hb, hr, hml, hown, hts, hlocks, hname⟩ := hIn
  subst hsz
  have hown : s.vm.findClass RX11 = some m.cls := hown
  have hA : ∀ q : Nat, s.heap.size ≤ q → z_A (shC c, ad, I, JX, PC c ad) s.heap.size q := fun q h => Or.inr h
  generalize hAe : z_A (shC c, ad, I, JX, PC c ad) s.heap.size = A at *
  have hS : va_S A s.heap s.heap [] := va_S.rf
  have hl : lv_has ls 1 [(0, .int a1)] := hl
  refine lv_iload_n hx hb dX11_isDay_0 rfl (lv_at hl 0 rfl) ?_
  refine lv_iconst (v := 0) hx hb dX11_isDay_1 (by decide) ?_
  refine lv_sipush (v := 719) hx hb dX11_isDay_2 (by decide) ?_
  refine z_ci hW hS hA (va_runS (As := [.int a1, .int 0, .int 719]) (rest := []) ⟨hx, hb, hml, hown, hts⟩ (sx_X11_within l G ad c I  a1 0 719 _) (va_cwS 3 hts gX11_isDay_X11_within rfl rfl rfl hy_X11_within.2 ⟨Nat.le_of_ble_eq_true rfl, Nat.le_of_ble_eq_true rfl⟩) (z_preS hK hW) rfl rfl hl.1 rfl (lv_room (Nat.le_of_ble_eq_true rfl)) dX11_isDay_5 ⟨Nat.le_of_ble_eq_true rfl, Nat.le_of_ble_eq_true rfl⟩) (fun r u1 H locs hp hW hS => ?_)
  obtain ⟨e9, hp⟩ := hp
  rw [e9] at hW
  rcases hp with ⟨rfl, h1, h2⟩ | rfl
  · have h1 := z_t_le z_l0 rfl h1
    have h2 := z_t_le rfl z_l719 h2
    exact z_zret hx hb hr (by decide) hK hS (Nat.le_of_ble_eq_true rfl) (Nat.le_of_ble_eq_true rfl) hlocks dX11_isDay_8 (shC c, ad, I, JX, PC c ad) hW ⟨rfl, Or.inl ⟨rfl, (by omega), (by omega)⟩⟩
  · exact z_zret hx hb hr (by decide) hK hS (Nat.le_of_ble_eq_true rfl) (Nat.le_of_ble_eq_true rfl) hlocks dX11_isDay_8 (shC c, ad, I, JX, PC c ad) hW ⟨rfl, Or.inr rfl⟩
set_option maxHeartbeats 8000000 in
set_option maxRecDepth 100000 in
theorem sx_X11_isMonth (l : Launch) (G : z_G) (ad : Nat → Nat) (c : z_C) (I : z_I) (a1 : Int32) : z_M l yX11_isMonth wsX11_isMonth { frames := 2, cells := 0, slots := 0, locals := 34 } [.int a1] G (shC c, ad, I, JX, PC c ad) (fun r u1 => u1 = (shC c, ad, I, JX, PC c ad) ∧ (r = 1 ∧ 0 ≤ a1.toInt ∧ a1.toInt ≤ 23 ∨ r = 0)) 0 0 := by
  intro sz
  refine z_headQ (cc := cX11_isMonth) (maxL := 1) (ret := (some .boolean)) (by decide) rfl (Nat.le_of_ble_eq_true rfl) ?_
  intro p e s m below meth c0 ls hIn hK hsz hW hl
  obtain ⟨hx, hb, hr, hml, hown, hts, hlocks, hname⟩ := hIn
  subst hsz
  have hown : s.vm.findClass RX11 = some m.cls := hown
  have hA : ∀ q : Nat, s.heap.size ≤ q → z_A (shC c, ad, I, JX, PC c ad) s.heap.size q := fun q h => Or.inr h
  generalize hAe : z_A (shC c, ad, I, JX, PC c ad) s.heap.size = A at *
  have hS : va_S A s.heap s.heap [] := va_S.rf
  have hl : lv_has ls 1 [(0, .int a1)] := hl
  refine lv_iload_n hx hb dX11_isMonth_0 rfl (lv_at hl 0 rfl) ?_
  refine lv_iconst (v := 0) hx hb dX11_isMonth_1 (by decide) ?_
  refine lv_bipush (v := 23) hx hb dX11_isMonth_2 (by decide) ?_
  refine z_ci hW hS hA (va_runS (As := [.int a1, .int 0, .int 23]) (rest := []) ⟨hx, hb, hml, hown, hts⟩ (sx_X11_within l G ad c I  a1 0 23 _) (va_cwS 3 hts gX11_isMonth_X11_within rfl rfl rfl hy_X11_within.2 ⟨Nat.le_of_ble_eq_true rfl, Nat.le_of_ble_eq_true rfl⟩) (z_preS hK hW) rfl rfl hl.1 rfl (lv_room (Nat.le_of_ble_eq_true rfl)) dX11_isMonth_4 ⟨Nat.le_of_ble_eq_true rfl, Nat.le_of_ble_eq_true rfl⟩) (fun r u1 H locs hp hW hS => ?_)
  obtain ⟨e9, hp⟩ := hp
  rw [e9] at hW
  rcases hp with ⟨rfl, h1, h2⟩ | rfl
  · have h1 := z_t_le z_l0 rfl h1
    have h2 := z_t_le rfl z_l23 h2
    exact z_zret hx hb hr (by decide) hK hS (Nat.le_of_ble_eq_true rfl) (Nat.le_of_ble_eq_true rfl) hlocks dX11_isMonth_7 (shC c, ad, I, JX, PC c ad) hW ⟨rfl, Or.inl ⟨rfl, (by omega), (by omega)⟩⟩
  · exact z_zret hx hb hr (by decide) hK hS (Nat.le_of_ble_eq_true rfl) (Nat.le_of_ble_eq_true rfl) hlocks dX11_isMonth_7 (shC c, ad, I, JX, PC c ad) hW ⟨rfl, Or.inr rfl⟩
set_option maxHeartbeats 8000000 in
set_option maxRecDepth 100000 in
theorem sx_X11_isReason (l : Launch) (G : z_G) (ad : Nat → Nat) (c : z_C) (I : z_I) (a1 : Int32) : z_M l yX11_isReason wsX11_isReason { frames := 2, cells := 0, slots := 0, locals := 34 } [.int a1] G (shC c, ad, I, JX, PC c ad) (fun r u1 => u1 = (shC c, ad, I, JX, PC c ad) ∧ (r = 1 ∧ 0 ≤ a1.toInt ∧ a1.toInt ≤ 4 ∨ r = 0)) 0 0 := by
  intro sz
  refine z_headQ (cc := cX11_isReason) (maxL := 1) (ret := (some .boolean)) (by decide) rfl (Nat.le_of_ble_eq_true rfl) ?_
  intro p e s m below meth c0 ls hIn hK hsz hW hl
  obtain ⟨hx, hb, hr, hml, hown, hts, hlocks, hname⟩ := hIn
  subst hsz
  have hown : s.vm.findClass RX11 = some m.cls := hown
  have hA : ∀ q : Nat, s.heap.size ≤ q → z_A (shC c, ad, I, JX, PC c ad) s.heap.size q := fun q h => Or.inr h
  generalize hAe : z_A (shC c, ad, I, JX, PC c ad) s.heap.size = A at *
  have hS : va_S A s.heap s.heap [] := va_S.rf
  have hl : lv_has ls 1 [(0, .int a1)] := hl
  refine lv_iload_n hx hb dX11_isReason_0 rfl (lv_at hl 0 rfl) ?_
  refine lv_iconst (v := 0) hx hb dX11_isReason_1 (by decide) ?_
  refine lv_iconst (v := 4) hx hb dX11_isReason_2 (by decide) ?_
  refine z_ci hW hS hA (va_runS (As := [.int a1, .int 0, .int 4]) (rest := []) ⟨hx, hb, hml, hown, hts⟩ (sx_X11_within l G ad c I  a1 0 4 _) (va_cwS 3 hts gX11_isReason_X11_within rfl rfl rfl hy_X11_within.2 ⟨Nat.le_of_ble_eq_true rfl, Nat.le_of_ble_eq_true rfl⟩) (z_preS hK hW) rfl rfl hl.1 rfl (lv_room (Nat.le_of_ble_eq_true rfl)) dX11_isReason_3 ⟨Nat.le_of_ble_eq_true rfl, Nat.le_of_ble_eq_true rfl⟩) (fun r u1 H locs hp hW hS => ?_)
  obtain ⟨e9, hp⟩ := hp
  rw [e9] at hW
  rcases hp with ⟨rfl, h1, h2⟩ | rfl
  · have h1 := z_t_le z_l0 rfl h1
    have h2 := z_t_le rfl z_l4 h2
    exact z_zret hx hb hr (by decide) hK hS (Nat.le_of_ble_eq_true rfl) (Nat.le_of_ble_eq_true rfl) hlocks dX11_isReason_6 (shC c, ad, I, JX, PC c ad) hW ⟨rfl, Or.inl ⟨rfl, (by omega), (by omega)⟩⟩
  · exact z_zret hx hb hr (by decide) hK hS (Nat.le_of_ble_eq_true rfl) (Nat.le_of_ble_eq_true rfl) hlocks dX11_isReason_6 (shC c, ad, I, JX, PC c ad) hW ⟨rfl, Or.inr rfl⟩
set_option maxHeartbeats 8000000 in
set_option maxRecDepth 100000 in
theorem sx_X11_isWay (l : Launch) (G : z_G) (ad : Nat → Nat) (c : z_C) (I : z_I) (a1 : Int32) : z_M l yX11_isWay wsX11_isWay { frames := 2, cells := 0, slots := 0, locals := 34 } [.int a1] G (shC c, ad, I, JX, PC c ad) (fun r u1 => u1 = (shC c, ad, I, JX, PC c ad) ∧ (r = 1 ∨ r = 0)) 0 0 := by
  intro sz
  refine z_headQ (cc := cX11_isWay) (maxL := 1) (ret := (some .boolean)) (by decide) rfl (Nat.le_of_ble_eq_true rfl) ?_
  intro p e s m below meth c0 ls hIn hK hsz hW hl
  obtain ⟨hx, hb, hr, hml, hown, hts, hlocks, hname⟩ := hIn
  subst hsz
  have hown : s.vm.findClass RX11 = some m.cls := hown
  have hA : ∀ q : Nat, s.heap.size ≤ q → z_A (shC c, ad, I, JX, PC c ad) s.heap.size q := fun q h => Or.inr h
  generalize hAe : z_A (shC c, ad, I, JX, PC c ad) s.heap.size = A at *
  have hS : va_S A s.heap s.heap [] := va_S.rf
  have hl : lv_has ls 1 [(0, .int a1)] := hl
  refine lv_iload_n hx hb dX11_isWay_0 rfl (lv_at hl 0 rfl) ?_
  refine lv_iconst (v := 0) hx hb dX11_isWay_1 (by decide) ?_
  refine lv_bipush (v := 99) hx hb dX11_isWay_2 (by decide) ?_
  refine z_ci hW hS hA (va_runS (As := [.int a1, .int 0, .int 99]) (rest := []) ⟨hx, hb, hml, hown, hts⟩ (sx_X11_within l G ad c I  a1 0 99 _) (va_cwS 3 hts gX11_isWay_X11_within rfl rfl rfl hy_X11_within.2 ⟨Nat.le_of_ble_eq_true rfl, Nat.le_of_ble_eq_true rfl⟩) (z_preS hK hW) rfl rfl hl.1 rfl (lv_room (Nat.le_of_ble_eq_true rfl)) dX11_isWay_4 ⟨Nat.le_of_ble_eq_true rfl, Nat.le_of_ble_eq_true rfl⟩) (fun r u1 H locs hp hW hS => ?_)
  obtain ⟨e9, hp⟩ := hp
  rw [e9] at hW
  rcases hp with ⟨rfl, h1, h2⟩ | rfl
  · have h1 := z_t_le z_l0 rfl h1
    have h2 := z_t_le rfl z_l99 h2
    refine lv_if_eq (tgt := 25) hx hb dX11_isWay_7 (by decide) (fun c3 => absurd c3 (by decide)) (fun c3 => ?_)
    refine lv_iload_n hx hb dX11_isWay_10 rfl (lv_at hl 0 rfl) ?_
    refine lv_bipush (v := 10) hx hb dX11_isWay_11 (by decide) ?_
    refine lv_idiv hx hb dX11_isWay_13 (by decide) ?_
    refine lv_topi (fun x4 ex4 => ?_)
    have tx4 := z_tdiv ex4 rfl z_l10 (by decide)
    refine lv_iload_n hx hb dX11_isWay_14 rfl (lv_at hl 0 rfl) ?_
    refine lv_bipush (v := 10) hx hb dX11_isWay_15 (by decide) ?_
    refine lv_irem hx hb dX11_isWay_17 (by decide) ?_
    refine lv_topi (fun x5 ex5 => ?_)
    have tx5 := z_trem ex5 rfl z_l10 (by decide)
    refine lv_icmp_eq (tgt := 25) hx hb dX11_isWay_18 (by decide) (fun c6 => ?_) (fun c6 => ?_)
    · have g7 := z_f_eq rfl rfl c6
      refine lv_iconst (v := 0) hx hb dX11_isWay_25 (by decide) ?_
      exact z_zret hx hb hr (by decide) hK hS (Nat.le_of_ble_eq_true rfl) (Nat.le_of_ble_eq_true rfl) hlocks dX11_isWay_26 (shC c, ad, I, JX, PC c ad) hW ⟨rfl, Or.inr rfl⟩
    · have g8 := z_f_ne rfl rfl c6
      refine lv_iconst (v := 1) hx hb dX11_isWay_21 (by decide) ?_
      refine lv_goto (tgt := 26) hx hb dX11_isWay_22 (by decide) ?_
      exact z_zret hx hb hr (by decide) hK hS (Nat.le_of_ble_eq_true rfl) (Nat.le_of_ble_eq_true rfl) hlocks dX11_isWay_26 (shC c, ad, I, JX, PC c ad) hW ⟨rfl, Or.inl rfl⟩
  · refine lv_if_eq (tgt := 25) hx hb dX11_isWay_7 (by decide) (fun c9 => ?_) (fun c9 => absurd (by decide) c9)
    refine lv_iconst (v := 0) hx hb dX11_isWay_25 (by decide) ?_
    exact z_zret hx hb hr (by decide) hK hS (Nat.le_of_ble_eq_true rfl) (Nat.le_of_ble_eq_true rfl) hlocks dX11_isWay_26 (shC c, ad, I, JX, PC c ad) hW ⟨rfl, Or.inr rfl⟩
theorem zj_X2_has_X2 : ∀ w ∈ wsX20, w ∈ wsX2_has := fun w h => (List.mem_cons_of_mem _ (List.mem_append_right _ h))
set_option maxHeartbeats 8000000 in
set_option maxRecDepth 100000 in
theorem sx_X2_has (l : Launch) (G : z_G) (ad : Nat → Nat) (c : z_C) (I : z_I) (hH : z_iH I) (a1 : Int32) : z_M l yX2_has wsX2_has { frames := 1, cells := 0, slots := 0, locals := 12 } [.ref (ad 1), .int a1] G (shC c, ad, I, JX, PC c ad) (fun r u1 => u1 = (shC c, ad, I, JX, PC c ad) ∧ (r = 1 ∧ 0 ≤ a1.toInt ∧ a1.toInt ≤ 29 ∨ r = 0)) 0 0 := by
  intro sz
  refine z_headQ (cc := cX2_has) (maxL := 2) (ret := (some .boolean)) (by decide) rfl (Nat.le_of_ble_eq_true rfl) ?_
  intro p e s m below meth c0 ls hIn hK hsz hW hl
  obtain ⟨hx, hb, hr, hml, hown, hts, hlocks, hname⟩ := hIn
  subst hsz
  have hown : s.vm.findClass RX2 = some m.cls := hown
  have hA : ∀ q : Nat, s.heap.size ≤ q → z_A (shC c, ad, I, JX, PC c ad) s.heap.size q := fun q h => Or.inr h
  generalize hAe : z_A (shC c, ad, I, JX, PC c ad) s.heap.size = A at *
  have hS : va_S A s.heap s.heap [] := va_S.rf
  have hl : lv_has ls 2 [(0, .ref (ad 1)), (1, .int a1)] := hl
  refine lv_iload_n hx hb dX2_has_0 rfl (lv_at hl 1 rfl) ?_
  refine lv_if_lt (tgt := 22) hx hb dX2_has_1 (by decide) (fun c1 => ?_) (fun c1 => ?_)
  · have g2 := z_f_lt rfl z_l0 c1
    refine lv_iconst (v := 0) hx hb dX2_has_22 (by decide) ?_
    exact z_zret hx hb hr (by decide) hK hS (Nat.le_of_ble_eq_true rfl) (Nat.le_of_ble_eq_true rfl) hlocks dX2_has_23 (shC c, ad, I, JX, PC c ad) hW ⟨rfl, Or.inr rfl⟩
  · have g3 := z_f_nlt rfl z_l0 c1
    refine lv_iload_n hx hb dX2_has_4 rfl (lv_at hl 1 rfl) ?_
    refine lv_aload_n hx hb dX2_has_5 rfl (lv_at hl 0 rfl) ?_
    have r4 : 0 ≤ (I 1 5).toInt ∧ (I 1 5).toInt ≤ 30 := hH.1
    refine z_get (T := TX2) (N := 12) (ci := 2) (i := 1) (v := .int (I 1 5)) hx hb hts zj_X2_has_X2 hown hK hW rfl rfl 5 (by decide) (hts (.fieldLink RX2 42 "PetrolBoard$Holders" "number" "I") (me_s (me_l (List.mem_of_getElem? (i := 0) rfl)))) (fun _ h => h) rfl dX2_has_6 ?_
    refine lv_icmp_ge (tgt := 22) hx hb dX2_has_9 (by decide) (fun c5 => ?_) (fun c5 => ?_)
    · have g6 := z_f_ge rfl rfl c5
      refine lv_iconst (v := 0) hx hb dX2_has_22 (by decide) ?_
      exact z_zret hx hb hr (by decide) hK hS (Nat.le_of_ble_eq_true rfl) (Nat.le_of_ble_eq_true rfl) hlocks dX2_has_23 (shC c, ad, I, JX, PC c ad) hW ⟨rfl, Or.inr rfl⟩
    · have g7 := z_f_nge rfl rfl c5
      refine lv_iload_n hx hb dX2_has_12 rfl (lv_at hl 1 rfl) ?_
      refine lv_bipush (v := 30) hx hb dX2_has_13 (by decide) ?_
      refine lv_icmp_ge (tgt := 22) hx hb dX2_has_15 (by decide) (fun c8 => (by have g := z_f_ge rfl z_l30 c8; omega)) (fun c8 => ?_)
      have g9 := z_f_nge rfl z_l30 c8
      refine lv_iconst (v := 1) hx hb dX2_has_18 (by decide) ?_
      refine lv_goto (tgt := 23) hx hb dX2_has_19 (by decide) ?_
      exact z_zret hx hb hr (by decide) hK hS (Nat.le_of_ble_eq_true rfl) (Nat.le_of_ble_eq_true rfl) hlocks dX2_has_23 (shC c, ad, I, JX, PC c ad) hW ⟨rfl, Or.inl ⟨rfl, (by omega), (by omega)⟩⟩
theorem zj_X2_add_X2 : ∀ w ∈ wsX20, w ∈ wsX2_add := fun w h => (List.mem_cons_of_mem _ (List.mem_append_right _ h))
noncomputable def L_X2_addNote : z_L := [(7, 999), (8, 999), (9, 999), (10, 999), (11, 999), (1, 11)]
theorem zj_X2_addNote_X2 : ∀ w ∈ wsX20, w ∈ wsX2_addNote := fun w h => (List.mem_cons_of_mem _ (List.mem_append_right _ h))
set_option maxHeartbeats 8000000 in
set_option maxRecDepth 100000 in
theorem sx_X2_addNote (l : Launch) (G : z_G) (ad : Nat → Nat) (c : z_C) (I : z_I) (hH : z_iH I) (a1 : Int32) (a2 : Int32) (a3 : Int32) (a4 : Int32) : z_M l yX2_addNote wsX2_addNote { frames := 1, cells := 0, slots := 0, locals := 12 } [.ref (ad 1), .int a1, .int a2, .int a3, .int a4] G (shC c, ad, I, JX, PC c ad) (fun r u1 => ∃ I1 : z_I, u1 = (shC c, ad, I1, JX, PC c ad) ∧ z_iH I1 ∧ z_fr L_X2_addNote I1 I) 0 0 := by
  intro sz
  refine z_headQ (cc := cX2_addNote) (maxL := 5) (ret := (some .int)) (by decide) rfl (Nat.le_of_ble_eq_true rfl) ?_
  intro p e s m below meth c0 ls hIn hK hsz hW hl
  obtain ⟨hx, hb, hr, hml, hown, hts, hlocks, hname⟩ := hIn
  subst hsz
  have hown : s.vm.findClass RX2 = some m.cls := hown
  have hA : ∀ q : Nat, s.heap.size ≤ q → z_A (shC c, ad, I, JX, PC c ad) s.heap.size q := fun q h => Or.inr h
  generalize hAe : z_A (shC c, ad, I, JX, PC c ad) s.heap.size = A at *
  have hS : va_S A s.heap s.heap [] := va_S.rf
  have hl : lv_has ls 5 [(0, .ref (ad 1)), (1, .int a1), (2, .int a2), (3, .int a3), (4, .int a4)] := hl
  refine lv_aload_n hx hb dX2_addNote_0 rfl (lv_at hl 0 rfl) ?_
  have r1 : 0 ≤ (I 1 11).toInt ∧ (I 1 11).toInt ≤ 200 := hH.2
  refine z_get (T := TX2) (N := 12) (ci := 2) (i := 1) (v := .int (I 1 11)) hx hb hts zj_X2_addNote_X2 hown hK hW rfl rfl 11 (by decide) (hts (.fieldLink RX2 46 "PetrolBoard$Holders" "notes" "I") (me_s (me_l (List.mem_of_getElem? (i := 0) rfl)))) (fun _ h => h) rfl dX2_addNote_1 ?_
  refine lv_sipush (v := 200) hx hb dX2_addNote_4 (by decide) ?_
  refine lv_icmp_lt (tgt := 12) hx hb dX2_addNote_7 (by decide) (fun c2 => ?_) (fun c2 => ?_)
  · have g3 := z_f_lt rfl z_l200 c2
    refine lv_aload_n hx hb dX2_addNote_12 rfl (lv_at hl 0 rfl) ?_
    refine z_get (T := TX2) (N := 12) (ci := 2) (i := 1) (v := .ref (ad 7)) hx hb hts zj_X2_addNote_X2 hown hK hW rfl rfl 6 (by decide) (hts (.fieldLink RX2 27 "PetrolBoard$Holders" "noteOf" "[I") (me_s (me_l (List.mem_of_getElem? (i := 1) rfl)))) (fun _ h => h) rfl dX2_addNote_13 ?_
    refine lv_aload_n hx hb dX2_addNote_16 rfl (lv_at hl 0 rfl) ?_
    refine z_get (T := TX2) (N := 12) (ci := 2) (i := 1) (v := .int (I 1 11)) hx hb hts zj_X2_addNote_X2 hown hK hW rfl rfl 11 (by decide) (hts (.fieldLink RX2 46 "PetrolBoard$Holders" "notes" "I") (me_s (me_l (List.mem_of_getElem? (i := 0) rfl)))) (fun _ h => h) rfl dX2_addNote_17 ?_
    refine lv_iload_n hx hb dX2_addNote_20 rfl (lv_at hl 1 rfl) ?_
    refine z_iast (i := 7) hx hb hK hW hS rfl (z_ix rfl (by omega) (by omega)) dX2_addNote_21 (fun H locs hz1 hW hS => ?_)
    obtain ⟨I4, eI4⟩ : ∃ K : z_I, K = z_up I 7 (I 1 11).toNatClampNeg a1 := ⟨_, rfl⟩
    rw [← eI4] at hW
    have f5 := z_fr_a z_fr_0 (show z_wa L_X2_addNote 7 = true by decide) eI4
    refine lv_aload_n hx hb dX2_addNote_22 rfl (lv_at hl 0 rfl) ?_
    refine z_get (T := TX2) (N := 12) (ci := 2) (i := 1) (v := .ref (ad 8)) hx hb hts zj_X2_addNote_X2 hown hK hW rfl rfl 7 (by decide) (hts (.fieldLink RX2 30 "PetrolBoard$Holders" "kind" "[I") (me_s (me_l (List.mem_of_getElem? (i := 2) rfl)))) (fun _ h => h) rfl dX2_addNote_23 ?_
    refine lv_aload_n hx hb dX2_addNote_26 rfl (lv_at hl 0 rfl) ?_
    refine z_get (T := TX2) (N := 12) (ci := 2) (i := 1) (v := .int (I 1 11)) hx hb hts zj_X2_addNote_X2 hown hK hW rfl rfl 11 (by decide) (hts (.fieldLink RX2 46 "PetrolBoard$Holders" "notes" "I") (me_s (me_l (List.mem_of_getElem? (i := 0) rfl)))) (fun _ h => h) (congrArg Value.int (by rw [eI4, z_up_n (by decide)])) dX2_addNote_27 ?_
    refine lv_iload_n hx hb dX2_addNote_30 rfl (lv_at hl 2 rfl) ?_
    refine z_iast (i := 8) hx hb hK hW hS rfl (z_ix rfl (by omega) (by omega)) dX2_addNote_31 (fun H locs hz1 hW hS => ?_)
    obtain ⟨I6, eI6⟩ : ∃ K : z_I, K = z_up I4 8 (I 1 11).toNatClampNeg a2 := ⟨_, rfl⟩
    rw [← eI6] at hW
    have f7 := z_fr_a f5 (show z_wa L_X2_addNote 8 = true by decide) eI6
    refine lv_aload_n hx hb dX2_addNote_32 rfl (lv_at hl 0 rfl) ?_
    refine z_get (T := TX2) (N := 12) (ci := 2) (i := 1) (v := .ref (ad 9)) hx hb hts zj_X2_addNote_X2 hown hK hW rfl rfl 8 (by decide) (hts (.fieldLink RX2 33 "PetrolBoard$Holders" "from" "[I") (me_s (me_l (List.mem_of_getElem? (i := 3) rfl)))) (fun _ h => h) rfl dX2_addNote_33 ?_
    refine lv_aload_n hx hb dX2_addNote_36 rfl (lv_at hl 0 rfl) ?_
    refine z_get (T := TX2) (N := 12) (ci := 2) (i := 1) (v := .int (I 1 11)) hx hb hts zj_X2_addNote_X2 hown hK hW rfl rfl 11 (by decide) (hts (.fieldLink RX2 46 "PetrolBoard$Holders" "notes" "I") (me_s (me_l (List.mem_of_getElem? (i := 0) rfl)))) (fun _ h => h) (congrArg Value.int (by rw [eI6, z_up_n (by decide), eI4, z_up_n (by decide)])) dX2_addNote_37 ?_
    refine lv_iload_n hx hb dX2_addNote_40 rfl (lv_at hl 3 rfl) ?_
    refine z_iast (i := 9) hx hb hK hW hS rfl (z_ix rfl (by omega) (by omega)) dX2_addNote_41 (fun H locs hz1 hW hS => ?_)
    obtain ⟨I8, eI8⟩ : ∃ K : z_I, K = z_up I6 9 (I 1 11).toNatClampNeg a3 := ⟨_, rfl⟩
    rw [← eI8] at hW
    have f9 := z_fr_a f7 (show z_wa L_X2_addNote 9 = true by decide) eI8
    refine lv_aload_n hx hb dX2_addNote_42 rfl (lv_at hl 0 rfl) ?_
    refine z_get (T := TX2) (N := 12) (ci := 2) (i := 1) (v := .ref (ad 10)) hx hb hts zj_X2_addNote_X2 hown hK hW rfl rfl 9 (by decide) (hts (.fieldLink RX2 36 "PetrolBoard$Holders" "toldOn" "[I") (me_s (me_l (List.mem_of_getElem? (i := 4) rfl)))) (fun _ h => h) rfl dX2_addNote_43 ?_
    refine lv_aload_n hx hb dX2_addNote_46 rfl (lv_at hl 0 rfl) ?_
    refine z_get (T := TX2) (N := 12) (ci := 2) (i := 1) (v := .int (I 1 11)) hx hb hts zj_X2_addNote_X2 hown hK hW rfl rfl 11 (by decide) (hts (.fieldLink RX2 46 "PetrolBoard$Holders" "notes" "I") (me_s (me_l (List.mem_of_getElem? (i := 0) rfl)))) (fun _ h => h) (congrArg Value.int (by rw [eI8, z_up_n (by decide), eI6, z_up_n (by decide), eI4, z_up_n (by decide)])) dX2_addNote_47 ?_
    refine lv_iload hx hb dX2_addNote_50 (lv_at hl 4 rfl) ?_
    refine z_iast (i := 10) hx hb hK hW hS rfl (z_ix rfl (by omega) (by omega)) dX2_addNote_52 (fun H locs hz1 hW hS => ?_)
    obtain ⟨I10, eI10⟩ : ∃ K : z_I, K = z_up I8 10 (I 1 11).toNatClampNeg a4 := ⟨_, rfl⟩
    rw [← eI10] at hW
    have f11 := z_fr_a f9 (show z_wa L_X2_addNote 10 = true by decide) eI10
    refine lv_aload_n hx hb dX2_addNote_53 rfl (lv_at hl 0 rfl) ?_
    refine z_get (T := TX2) (N := 12) (ci := 2) (i := 1) (v := .ref (ad 11)) hx hb hts zj_X2_addNote_X2 hown hK hW rfl rfl 10 (by decide) (hts (.fieldLink RX2 39 "PetrolBoard$Holders" "undoneOn" "[I") (me_s (me_l (List.mem_of_getElem? (i := 5) rfl)))) (fun _ h => h) rfl dX2_addNote_54 ?_
    refine lv_aload_n hx hb dX2_addNote_57 rfl (lv_at hl 0 rfl) ?_
    refine z_get (T := TX2) (N := 12) (ci := 2) (i := 1) (v := .int (I 1 11)) hx hb hts zj_X2_addNote_X2 hown hK hW rfl rfl 11 (by decide) (hts (.fieldLink RX2 46 "PetrolBoard$Holders" "notes" "I") (me_s (me_l (List.mem_of_getElem? (i := 0) rfl)))) (fun _ h => h) (congrArg Value.int (by rw [eI10, z_up_n (by decide), eI8, z_up_n (by decide), eI6, z_up_n (by decide), eI4, z_up_n (by decide)])) dX2_addNote_58 ?_
    refine lv_sipush (v := 720) hx hb dX2_addNote_61 (by decide) ?_
    refine z_iast (i := 11) hx hb hK hW hS rfl (z_ix rfl (by omega) (by omega)) dX2_addNote_64 (fun H locs hz1 hW hS => ?_)
    obtain ⟨I12, eI12⟩ : ∃ K : z_I, K = z_up I10 11 (I 1 11).toNatClampNeg 720 := ⟨_, rfl⟩
    rw [← eI12] at hW
    have f13 := z_fr_a f11 (show z_wa L_X2_addNote 11 = true by decide) eI12
    refine lv_aload_n hx hb dX2_addNote_65 rfl (lv_at hl 0 rfl) ?_
    refine lv_dup hx hb dX2_addNote_66 rfl ?_
    refine z_get (T := TX2) (N := 12) (ci := 2) (i := 1) (v := .int (I 1 11)) hx hb hts zj_X2_addNote_X2 hown hK hW rfl rfl 11 (by decide) (hts (.fieldLink RX2 46 "PetrolBoard$Holders" "notes" "I") (me_s (me_l (List.mem_of_getElem? (i := 0) rfl)))) (fun _ h => h) (congrArg Value.int (by rw [eI12, z_up_n (by decide), eI10, z_up_n (by decide), eI8, z_up_n (by decide), eI6, z_up_n (by decide), eI4, z_up_n (by decide)])) dX2_addNote_67 ?_
    refine lv_iconst (v := 1) hx hb dX2_addNote_70 (by decide) ?_
    refine lv_iadd hx hb dX2_addNote_71 ?_
    refine lv_topi (fun x14 ex14 => ?_)
    have tx14 : x14.toInt = (I 1 11).toInt + 1 := z_tadd ex14 rfl z_l1 (by omega) (by omega)
    refine z_put (T := TX2) (N := 12) (ci := 2) (i := 1) (v := .int x14) (I1 := z_up I12 1 11 x14) (J1 := JX) (P1 := PC c ad) hx hb hts zj_X2_addNote_X2 tyX2 tyX2_ok nmX2 hown hK hW hS rfl rfl 11 (by decide) (hts (.fieldLink RX2 46 "PetrolBoard$Holders" "notes" "I") (me_s (me_l (List.mem_of_getElem? (i := 0) rfl)))) (fun _ h => h) rfl rfl rfl (by first | rfl | exact congrArg _ z_up_s) (fun a b h ty => z_vI h ty) dX2_addNote_72 (fun H locs hz1 hW hS => ?_)
    obtain ⟨I15, eI15⟩ : ∃ K : z_I, K = z_up I12 1 11 x14 := ⟨_, rfl⟩
    rw [← eI15] at hW
    have f16 := z_fr_k f13 (show z_wr L_X2_addNote 1 11 = true by decide) eI15
    refine lv_aload_n hx hb dX2_addNote_75 rfl (lv_at hl 0 rfl) ?_
    refine z_get (T := TX2) (N := 12) (ci := 2) (i := 1) (v := .int x14) hx hb hts zj_X2_addNote_X2 hown hK hW rfl rfl 11 (by decide) (hts (.fieldLink RX2 46 "PetrolBoard$Holders" "notes" "I") (me_s (me_l (List.mem_of_getElem? (i := 0) rfl)))) (fun _ h => h) (congrArg Value.int (by rw [eI15, z_up_s])) dX2_addNote_76 ?_
    refine lv_iconst (v := 1) hx hb dX2_addNote_79 (by decide) ?_
    refine lv_isub hx hb dX2_addNote_80 ?_
    refine lv_topi (fun x17 ex17 => ?_)
    have tx17 : x17.toInt = x14.toInt - 1 := z_tsub ex17 rfl z_l1 (by omega) (by omega)
    exact z_iret hx hb hr hK hS (Nat.le_of_ble_eq_true rfl) (Nat.le_of_ble_eq_true rfl) hlocks dX2_addNote_81 (shC c, ad, I15, JX, PC c ad) hW ⟨I15, rfl, ⟨(by show 0 ≤ (I15 1 5).toInt ∧ (I15 1 5).toInt ≤ 30; rw [eI15, z_up_k (by decide), eI12, z_up_n (by decide), eI10, z_up_n (by decide), eI8, z_up_n (by decide), eI6, z_up_n (by decide), eI4, z_up_n (by decide)]; exact hH.1), (by show 0 ≤ (I15 1 11).toInt ∧ (I15 1 11).toInt ≤ 200; rw [eI15, z_up_s]; omega)⟩, f16⟩
  · have g18 := z_f_nlt rfl z_l200 c2
    refine lv_iconst (v := (-1)) hx hb dX2_addNote_10 (by decide) ?_
    exact z_iret hx hb hr hK hS (Nat.le_of_ble_eq_true rfl) (Nat.le_of_ble_eq_true rfl) hlocks dX2_addNote_11 (shC c, ad, I, JX, PC c ad) hW ⟨I, rfl, ⟨(by show 0 ≤ (I 1 5).toInt ∧ (I 1 5).toInt ≤ 30; exact hH.1), (by show 0 ≤ (I 1 11).toInt ∧ (I 1 11).toInt ≤ 200; exact hH.2)⟩, z_fr_0⟩
noncomputable def L_X2_cancelNote : z_L := [(11, 999)]
theorem zj_X2_cancelNote_X2 : ∀ w ∈ wsX20, w ∈ wsX2_cancelNote := fun w h => (List.mem_cons_of_mem _ (List.mem_append_right _ h))
set_option maxHeartbeats 8000000 in
set_option maxRecDepth 100000 in
theorem sx_X2_cancelNote (l : Launch) (G : z_G) (ad : Nat → Nat) (c : z_C) (I : z_I) (hH : z_iH I) (a1 : Int32) (a2 : Int32) : z_M l yX2_cancelNote wsX2_cancelNote { frames := 1, cells := 0, slots := 0, locals := 12 } [.ref (ad 1), .int a1, .int a2] G (shC c, ad, I, JX, PC c ad) (fun r u1 => ∃ I1 : z_I, u1 = (shC c, ad, I1, JX, PC c ad) ∧ z_iH I1 ∧ z_fr L_X2_cancelNote I1 I ∧ (r = 1 ∨ r = 0)) 0 0 := by
  intro sz
  refine z_headQ (cc := cX2_cancelNote) (maxL := 3) (ret := (some .boolean)) (by decide) rfl (Nat.le_of_ble_eq_true rfl) ?_
  intro p e s m below meth c0 ls hIn hK hsz hW hl
  obtain ⟨hx, hb, hr, hml, hown, hts, hlocks, hname⟩ := hIn
  subst hsz
  have hown : s.vm.findClass RX2 = some m.cls := hown
  have hA : ∀ q : Nat, s.heap.size ≤ q → z_A (shC c, ad, I, JX, PC c ad) s.heap.size q := fun q h => Or.inr h
  generalize hAe : z_A (shC c, ad, I, JX, PC c ad) s.heap.size = A at *
  have hS : va_S A s.heap s.heap [] := va_S.rf
  have hl : lv_has ls 3 [(0, .ref (ad 1)), (1, .int a1), (2, .int a2)] := hl
  refine lv_iload_n hx hb dX2_cancelNote_0 rfl (lv_at hl 1 rfl) ?_
  refine lv_if_lt (tgt := 31) hx hb dX2_cancelNote_1 (by decide) (fun c1 => ?_) (fun c1 => ?_)
  · have g2 := z_f_lt rfl z_l0 c1
    refine lv_iconst (v := 0) hx hb dX2_cancelNote_31 (by decide) ?_
    exact z_zret hx hb hr (by decide) hK hS (Nat.le_of_ble_eq_true rfl) (Nat.le_of_ble_eq_true rfl) hlocks dX2_cancelNote_32 (shC c, ad, I, JX, PC c ad) hW ⟨I, rfl, ⟨(by show 0 ≤ (I 1 5).toInt ∧ (I 1 5).toInt ≤ 30; exact hH.1), (by show 0 ≤ (I 1 11).toInt ∧ (I 1 11).toInt ≤ 200; exact hH.2)⟩, z_fr_0, Or.inr rfl⟩
  · have g3 := z_f_nlt rfl z_l0 c1
    refine lv_iload_n hx hb dX2_cancelNote_4 rfl (lv_at hl 1 rfl) ?_
    refine lv_aload_n hx hb dX2_cancelNote_5 rfl (lv_at hl 0 rfl) ?_
    have r4 : 0 ≤ (I 1 11).toInt ∧ (I 1 11).toInt ≤ 200 := hH.2
    refine z_get (T := TX2) (N := 12) (ci := 2) (i := 1) (v := .int (I 1 11)) hx hb hts zj_X2_cancelNote_X2 hown hK hW rfl rfl 11 (by decide) (hts (.fieldLink RX2 46 "PetrolBoard$Holders" "notes" "I") (me_s (me_l (List.mem_of_getElem? (i := 0) rfl)))) (fun _ h => h) rfl dX2_cancelNote_6 ?_
    refine lv_icmp_ge (tgt := 31) hx hb dX2_cancelNote_9 (by decide) (fun c5 => ?_) (fun c5 => ?_)
    · have g6 := z_f_ge rfl rfl c5
      refine lv_iconst (v := 0) hx hb dX2_cancelNote_31 (by decide) ?_
      exact z_zret hx hb hr (by decide) hK hS (Nat.le_of_ble_eq_true rfl) (Nat.le_of_ble_eq_true rfl) hlocks dX2_cancelNote_32 (shC c, ad, I, JX, PC c ad) hW ⟨I, rfl, ⟨(by show 0 ≤ (I 1 5).toInt ∧ (I 1 5).toInt ≤ 30; exact hH.1), (by show 0 ≤ (I 1 11).toInt ∧ (I 1 11).toInt ≤ 200; exact hH.2)⟩, z_fr_0, Or.inr rfl⟩
    · have g7 := z_f_nge rfl rfl c5
      refine lv_iload_n hx hb dX2_cancelNote_12 rfl (lv_at hl 1 rfl) ?_
      refine lv_sipush (v := 200) hx hb dX2_cancelNote_13 (by decide) ?_
      refine lv_icmp_ge (tgt := 31) hx hb dX2_cancelNote_16 (by decide) (fun c8 => (by have g := z_f_ge rfl z_l200 c8; omega)) (fun c8 => ?_)
      have g9 := z_f_nge rfl z_l200 c8
      refine lv_aload_n hx hb dX2_cancelNote_19 rfl (lv_at hl 0 rfl) ?_
      refine z_get (T := TX2) (N := 12) (ci := 2) (i := 1) (v := .ref (ad 11)) hx hb hts zj_X2_cancelNote_X2 hown hK hW rfl rfl 10 (by decide) (hts (.fieldLink RX2 39 "PetrolBoard$Holders" "undoneOn" "[I") (me_s (me_l (List.mem_of_getElem? (i := 1) rfl)))) (fun _ h => h) rfl dX2_cancelNote_20 ?_
      refine lv_iload_n hx hb dX2_cancelNote_23 rfl (lv_at hl 1 rfl) ?_
      refine z_iald (i := 11) hx hb hK hW rfl (z_ix rfl (by omega) (by omega)) dX2_cancelNote_24 ?_
      refine lv_topi (fun x10 ex10 => ?_)
      refine lv_sipush (v := 720) hx hb dX2_cancelNote_25 (by decide) ?_
      refine lv_icmp_ge (tgt := 33) hx hb dX2_cancelNote_28 (by decide) (fun c11 => ?_) (fun c11 => ?_)
      · have g12 := z_f_ge rfl z_l720 c11
        refine lv_aload_n hx hb dX2_cancelNote_33 rfl (lv_at hl 0 rfl) ?_
        refine z_get (T := TX2) (N := 12) (ci := 2) (i := 1) (v := .ref (ad 11)) hx hb hts zj_X2_cancelNote_X2 hown hK hW rfl rfl 10 (by decide) (hts (.fieldLink RX2 39 "PetrolBoard$Holders" "undoneOn" "[I") (me_s (me_l (List.mem_of_getElem? (i := 1) rfl)))) (fun _ h => h) rfl dX2_cancelNote_34 ?_
        refine lv_iload_n hx hb dX2_cancelNote_37 rfl (lv_at hl 1 rfl) ?_
        refine lv_iload_n hx hb dX2_cancelNote_38 rfl (lv_at hl 2 rfl) ?_
        refine z_iast (i := 11) hx hb hK hW hS rfl (z_ix rfl (by omega) (by omega)) dX2_cancelNote_39 (fun H locs hz1 hW hS => ?_)
        obtain ⟨I13, eI13⟩ : ∃ K : z_I, K = z_up I 11 a1.toNatClampNeg a2 := ⟨_, rfl⟩
        rw [← eI13] at hW
        have f14 := z_fr_a z_fr_0 (show z_wa L_X2_cancelNote 11 = true by decide) eI13
        refine lv_iconst (v := 1) hx hb dX2_cancelNote_40 (by decide) ?_
        exact z_zret hx hb hr (by decide) hK hS (Nat.le_of_ble_eq_true rfl) (Nat.le_of_ble_eq_true rfl) hlocks dX2_cancelNote_41 (shC c, ad, I13, JX, PC c ad) hW ⟨I13, rfl, ⟨(by show 0 ≤ (I13 1 5).toInt ∧ (I13 1 5).toInt ≤ 30; rw [eI13, z_up_n (by decide)]; exact hH.1), (by show 0 ≤ (I13 1 11).toInt ∧ (I13 1 11).toInt ≤ 200; rw [eI13, z_up_n (by decide)]; exact hH.2)⟩, f14, Or.inl rfl⟩
      · have g15 := z_f_nge rfl z_l720 c11
        refine lv_iconst (v := 0) hx hb dX2_cancelNote_31 (by decide) ?_
        exact z_zret hx hb hr (by decide) hK hS (Nat.le_of_ble_eq_true rfl) (Nat.le_of_ble_eq_true rfl) hlocks dX2_cancelNote_32 (shC c, ad, I, JX, PC c ad) hW ⟨I, rfl, ⟨(by show 0 ≤ (I 1 5).toInt ∧ (I 1 5).toInt ≤ 30; exact hH.1), (by show 0 ≤ (I 1 11).toInt ∧ (I 1 11).toInt ≤ 200; exact hH.2)⟩, z_fr_0, Or.inr rfl⟩
theorem zj_X2_kindOn_X2 : ∀ w ∈ wsX20, w ∈ wsX2_kindOn := fun w h => (List.mem_cons_of_mem _ (List.mem_append_right _ h))
set_option maxHeartbeats 8000000 in
set_option maxRecDepth 100000 in
theorem sx_X2_kindOn (l : Launch) (G : z_G) (ad : Nat → Nat) (c : z_C) (I : z_I) (hH : z_iH I) (a1 : Int32) (a2 : Int32) (a3 : Int32) : z_M l yX2_kindOn wsX2_kindOn { frames := 1, cells := 0, slots := 0, locals := 12 } [.ref (ad 1), .int a1, .int a2, .int a3] G (shC c, ad, I, JX, PC c ad) (fun r u1 => u1 = (shC c, ad, I, JX, PC c ad)) 0 0 := by
  intro sz
  refine z_headQ (cc := cX2_kindOn) (maxL := 8) (ret := (some .int)) (by decide) rfl (Nat.le_of_ble_eq_true rfl) ?_
  intro p e s m below meth c0 ls hIn hK hsz hW hl
  obtain ⟨hx, hb, hr, hml, hown, hts, hlocks, hname⟩ := hIn
  subst hsz
  have hown : s.vm.findClass RX2 = some m.cls := hown
  have hA : ∀ q : Nat, s.heap.size ≤ q → z_A (shC c, ad, I, JX, PC c ad) s.heap.size q := fun q h => Or.inr h
  generalize hAe : z_A (shC c, ad, I, JX, PC c ad) s.heap.size = A at *
  have hS : va_S A s.heap s.heap [] := va_S.rf
  have hl : lv_has ls 8 [(0, .ref (ad 1)), (1, .int a1), (2, .int a2), (3, .int a3)] := hl
  refine lv_iconst (v := (-1)) hx hb dX2_kindOn_0 (by decide) ?_
  refine lv_istore (lv' := [(4, .int (-1)), (0, .ref (ad 1)), (1, .int a1), (2, .int a2), (3, .int a3)]) hx hb dX2_kindOn_1 hl (by decide) rfl (fun ls hl => ?_)
  refine lv_iconst (v := 0) hx hb dX2_kindOn_3 (by decide) ?_
  refine lv_istore (lv' := [(5, .int 0), (4, .int (-1)), (0, .ref (ad 1)), (1, .int a1), (2, .int a2), (3, .int a3)]) hx hb dX2_kindOn_4 hl (by decide) rfl (fun ls hl => ?_)
  refine lv_iconst (v := 0) hx hb dX2_kindOn_6 (by decide) ?_
  refine lv_istore (lv' := [(6, .int 0), (5, .int 0), (4, .int (-1)), (0, .ref (ad 1)), (1, .int a1), (2, .int a2), (3, .int a3)]) hx hb dX2_kindOn_7 hl (by decide) rfl (fun ls hl => ?_)
  have lp1 : ∀ (f : Nat) (y2 : Int32) (y3 : Int32) (y4 : Int32) (H : Heap) (locs : List Loc) (ls : Array Slot), (2147483647 < y2.toInt + (f : Int)) → (0 ≤ y2.toInt) → z_W G A (shC c, ad, I, JX, PC c ad) H → va_S A s.heap H locs → lv_has ls 8 [(6, .int y2), (5, .int y3), (4, .int y4), (0, .ref (ad 1)), (1, .int a1), (2, .int a2), (3, .int a3)] → W p l e (headSpec wsX2_kindOn { frames := 1, cells := 0, slots := 0, locals := 12 }).room s m ([.ref (ad 1), .int a1, .int a2, .int a3] : List Value).toArray below meth c0 H locs 0 0 (MQ below (va_Qi (fun (r : Int32) (u1 : z_U) => u1 = (shC c, ad, I, JX, PC c ad)) (z_B G A) A) ([.ref (ad 1), .int a1, .int a2, .int a3] : List Value).toArray s 0 0 A) (F0 m 9 ls []) := by
    intro f
    induction f with
    | zero => intro y2 y3 y4 H locs ls lp1m lp1l6 hW hS hl; exact absurd lp1m (by have := Int32.toInt_lt y2; have := Int32.le_toInt y2; omega)
    | succ f lp1ih =>
      intro y2 y3 y4 H locs ls lp1m lp1l6 hW hS hl
      refine lv_iload hx hb dX2_kindOn_9 (lv_at hl 0 rfl) ?_
      refine lv_aload_n hx hb dX2_kindOn_11 rfl (lv_at hl 3 rfl) ?_
      have r5 : 0 ≤ (I 1 11).toInt ∧ (I 1 11).toInt ≤ 200 := hH.2
      refine z_get (T := TX2) (N := 12) (ci := 2) (i := 1) (v := .int (I 1 11)) hx hb hts zj_X2_kindOn_X2 hown hK hW rfl rfl 11 (by decide) (hts (.fieldLink RX2 46 "PetrolBoard$Holders" "notes" "I") (me_s (me_l (List.mem_of_getElem? (i := 0) rfl)))) (fun _ h => h) rfl dX2_kindOn_12 ?_
      refine lv_icmp_ge (tgt := 118) hx hb dX2_kindOn_15 (by decide) (fun c6 => ?_) (fun c6 => ?_)
      · have g7 := z_f_ge rfl rfl c6
        refine lv_iload hx hb dX2_kindOn_118 (lv_at hl 1 rfl) ?_
        exact z_iret hx hb hr hK hS (Nat.le_of_ble_eq_true rfl) (Nat.le_of_ble_eq_true rfl) hlocks dX2_kindOn_120 (shC c, ad, I, JX, PC c ad) hW rfl
      · have g8 := z_f_nge rfl rfl c6
        refine lv_iload hx hb dX2_kindOn_18 (lv_at hl 0 rfl) ?_
        refine lv_sipush (v := 200) hx hb dX2_kindOn_20 (by decide) ?_
        refine lv_icmp_ge (tgt := 118) hx hb dX2_kindOn_23 (by decide) (fun c9 => (by have g := z_f_ge rfl z_l200 c9; omega)) (fun c9 => ?_)
        have g10 := z_f_nge rfl z_l200 c9
        refine lv_aload_n hx hb dX2_kindOn_26 rfl (lv_at hl 3 rfl) ?_
        refine z_get (T := TX2) (N := 12) (ci := 2) (i := 1) (v := .ref (ad 7)) hx hb hts zj_X2_kindOn_X2 hown hK hW rfl rfl 6 (by decide) (hts (.fieldLink RX2 27 "PetrolBoard$Holders" "noteOf" "[I") (me_s (me_l (List.mem_of_getElem? (i := 1) rfl)))) (fun _ h => h) rfl dX2_kindOn_27 ?_
        refine lv_iload hx hb dX2_kindOn_30 (lv_at hl 0 rfl) ?_
        refine z_iald (i := 7) hx hb hK hW rfl (z_ix rfl (by omega) (by omega)) dX2_kindOn_32 ?_
        refine lv_topi (fun x11 ex11 => ?_)
        refine lv_iload_n hx hb dX2_kindOn_33 rfl (lv_at hl 4 rfl) ?_
        refine lv_icmp_ne (tgt := 74) hx hb dX2_kindOn_34 (by decide) (fun c12 => ?_) (fun c12 => ?_)
        · have g13 := z_f_ne rfl rfl c12
          refine lv_iconst (v := 0) hx hb dX2_kindOn_74 (by decide) ?_
          refine lv_istore (lv' := [(7, .int 0), (6, .int y2), (5, .int y3), (4, .int y4), (0, .ref (ad 1)), (1, .int a1), (2, .int a2), (3, .int a3)]) hx hb dX2_kindOn_75 hl (by decide) rfl (fun ls hl => ?_)
          refine lv_iload hx hb dX2_kindOn_77 (lv_at hl 0 rfl) ?_
          refine lv_if_eq (tgt := 112) hx hb dX2_kindOn_79 (by decide) (fun c14 => ?_) (fun c14 => absurd (by decide) c14)
          obtain ⟨x15, ex15⟩ : ∃ y : Int32, y = y2 + 1 := ⟨_, rfl⟩
          have tx15 : x15.toInt = y2.toInt + 1 := z_tadd ex15 rfl z_l1 (by omega) (by omega)
          refine lv_iinc (v := x15) (lv' := [(6, .int x15), (7, .int 0), (5, .int y3), (4, .int y4), (0, .ref (ad 1)), (1, .int a1), (2, .int a2), (3, .int a3)]) hx hb dX2_kindOn_112 hl (k := 1) rfl (by rw [ex15]; rfl) (by decide) rfl (fun ls hl => ?_)
          refine lv_goto (tgt := 9) hx hb dX2_kindOn_115 (by decide) ?_
          exact lp1ih x15 y3 y4 _ _ _ (by omega) (by omega) hW hS (lv_sub hl [0, 2, 3, 4, 5, 6, 7] rfl)
        · have g16 := z_f_eq rfl rfl c12
          refine lv_aload_n hx hb dX2_kindOn_37 rfl (lv_at hl 3 rfl) ?_
          refine z_get (T := TX2) (N := 12) (ci := 2) (i := 1) (v := .ref (ad 9)) hx hb hts zj_X2_kindOn_X2 hown hK hW rfl rfl 8 (by decide) (hts (.fieldLink RX2 33 "PetrolBoard$Holders" "from" "[I") (me_s (me_l (List.mem_of_getElem? (i := 2) rfl)))) (fun _ h => h) rfl dX2_kindOn_38 ?_
          refine lv_iload hx hb dX2_kindOn_41 (lv_at hl 0 rfl) ?_
          refine z_iald (i := 9) hx hb hK hW rfl (z_ix rfl (by omega) (by omega)) dX2_kindOn_43 ?_
          refine lv_topi (fun x17 ex17 => ?_)
          refine lv_iload_n hx hb dX2_kindOn_44 rfl (lv_at hl 5 rfl) ?_
          refine lv_icmp_gt (tgt := 74) hx hb dX2_kindOn_45 (by decide) (fun c18 => ?_) (fun c18 => ?_)
          · have g19 := z_f_gt rfl rfl c18
            refine lv_iconst (v := 0) hx hb dX2_kindOn_74 (by decide) ?_
            refine lv_istore (lv' := [(7, .int 0), (6, .int y2), (5, .int y3), (4, .int y4), (0, .ref (ad 1)), (1, .int a1), (2, .int a2), (3, .int a3)]) hx hb dX2_kindOn_75 hl (by decide) rfl (fun ls hl => ?_)
            refine lv_iload hx hb dX2_kindOn_77 (lv_at hl 0 rfl) ?_
            refine lv_if_eq (tgt := 112) hx hb dX2_kindOn_79 (by decide) (fun c20 => ?_) (fun c20 => absurd (by decide) c20)
            obtain ⟨x21, ex21⟩ : ∃ y : Int32, y = y2 + 1 := ⟨_, rfl⟩
            have tx21 : x21.toInt = y2.toInt + 1 := z_tadd ex21 rfl z_l1 (by omega) (by omega)
            refine lv_iinc (v := x21) (lv' := [(6, .int x21), (7, .int 0), (5, .int y3), (4, .int y4), (0, .ref (ad 1)), (1, .int a1), (2, .int a2), (3, .int a3)]) hx hb dX2_kindOn_112 hl (k := 1) rfl (by rw [ex21]; rfl) (by decide) rfl (fun ls hl => ?_)
            refine lv_goto (tgt := 9) hx hb dX2_kindOn_115 (by decide) ?_
            exact lp1ih x21 y3 y4 _ _ _ (by omega) (by omega) hW hS (lv_sub hl [0, 2, 3, 4, 5, 6, 7] rfl)
          · have g22 := z_f_ngt rfl rfl c18
            refine lv_aload_n hx hb dX2_kindOn_48 rfl (lv_at hl 3 rfl) ?_
            refine z_get (T := TX2) (N := 12) (ci := 2) (i := 1) (v := .ref (ad 10)) hx hb hts zj_X2_kindOn_X2 hown hK hW rfl rfl 9 (by decide) (hts (.fieldLink RX2 36 "PetrolBoard$Holders" "toldOn" "[I") (me_s (me_l (List.mem_of_getElem? (i := 3) rfl)))) (fun _ h => h) rfl dX2_kindOn_49 ?_
            refine lv_iload hx hb dX2_kindOn_52 (lv_at hl 0 rfl) ?_
            refine z_iald (i := 10) hx hb hK hW rfl (z_ix rfl (by omega) (by omega)) dX2_kindOn_54 ?_
            refine lv_topi (fun x23 ex23 => ?_)
            refine lv_iload_n hx hb dX2_kindOn_55 rfl (lv_at hl 6 rfl) ?_
            refine lv_icmp_gt (tgt := 74) hx hb dX2_kindOn_56 (by decide) (fun c24 => ?_) (fun c24 => ?_)
            · have g25 := z_f_gt rfl rfl c24
              refine lv_iconst (v := 0) hx hb dX2_kindOn_74 (by decide) ?_
              refine lv_istore (lv' := [(7, .int 0), (6, .int y2), (5, .int y3), (4, .int y4), (0, .ref (ad 1)), (1, .int a1), (2, .int a2), (3, .int a3)]) hx hb dX2_kindOn_75 hl (by decide) rfl (fun ls hl => ?_)
              refine lv_iload hx hb dX2_kindOn_77 (lv_at hl 0 rfl) ?_
              refine lv_if_eq (tgt := 112) hx hb dX2_kindOn_79 (by decide) (fun c26 => ?_) (fun c26 => absurd (by decide) c26)
              obtain ⟨x27, ex27⟩ : ∃ y : Int32, y = y2 + 1 := ⟨_, rfl⟩
              have tx27 : x27.toInt = y2.toInt + 1 := z_tadd ex27 rfl z_l1 (by omega) (by omega)
              refine lv_iinc (v := x27) (lv' := [(6, .int x27), (7, .int 0), (5, .int y3), (4, .int y4), (0, .ref (ad 1)), (1, .int a1), (2, .int a2), (3, .int a3)]) hx hb dX2_kindOn_112 hl (k := 1) rfl (by rw [ex27]; rfl) (by decide) rfl (fun ls hl => ?_)
              refine lv_goto (tgt := 9) hx hb dX2_kindOn_115 (by decide) ?_
              exact lp1ih x27 y3 y4 _ _ _ (by omega) (by omega) hW hS (lv_sub hl [0, 2, 3, 4, 5, 6, 7] rfl)
            · have g28 := z_f_ngt rfl rfl c24
              refine lv_iload_n hx hb dX2_kindOn_59 rfl (lv_at hl 6 rfl) ?_
              refine lv_aload_n hx hb dX2_kindOn_60 rfl (lv_at hl 3 rfl) ?_
              refine z_get (T := TX2) (N := 12) (ci := 2) (i := 1) (v := .ref (ad 11)) hx hb hts zj_X2_kindOn_X2 hown hK hW rfl rfl 10 (by decide) (hts (.fieldLink RX2 39 "PetrolBoard$Holders" "undoneOn" "[I") (me_s (me_l (List.mem_of_getElem? (i := 4) rfl)))) (fun _ h => h) rfl dX2_kindOn_61 ?_
              refine lv_iload hx hb dX2_kindOn_64 (lv_at hl 0 rfl) ?_
              refine z_iald (i := 11) hx hb hK hW rfl (z_ix rfl (by omega) (by omega)) dX2_kindOn_66 ?_
              refine lv_topi (fun x29 ex29 => ?_)
              refine lv_icmp_ge (tgt := 74) hx hb dX2_kindOn_67 (by decide) (fun c30 => ?_) (fun c30 => ?_)
              · have g31 := z_f_ge rfl rfl c30
                refine lv_iconst (v := 0) hx hb dX2_kindOn_74 (by decide) ?_
                refine lv_istore (lv' := [(7, .int 0), (6, .int y2), (5, .int y3), (4, .int y4), (0, .ref (ad 1)), (1, .int a1), (2, .int a2), (3, .int a3)]) hx hb dX2_kindOn_75 hl (by decide) rfl (fun ls hl => ?_)
                refine lv_iload hx hb dX2_kindOn_77 (lv_at hl 0 rfl) ?_
                refine lv_if_eq (tgt := 112) hx hb dX2_kindOn_79 (by decide) (fun c32 => ?_) (fun c32 => absurd (by decide) c32)
                obtain ⟨x33, ex33⟩ : ∃ y : Int32, y = y2 + 1 := ⟨_, rfl⟩
                have tx33 : x33.toInt = y2.toInt + 1 := z_tadd ex33 rfl z_l1 (by omega) (by omega)
                refine lv_iinc (v := x33) (lv' := [(6, .int x33), (7, .int 0), (5, .int y3), (4, .int y4), (0, .ref (ad 1)), (1, .int a1), (2, .int a2), (3, .int a3)]) hx hb dX2_kindOn_112 hl (k := 1) rfl (by rw [ex33]; rfl) (by decide) rfl (fun ls hl => ?_)
                refine lv_goto (tgt := 9) hx hb dX2_kindOn_115 (by decide) ?_
                exact lp1ih x33 y3 y4 _ _ _ (by omega) (by omega) hW hS (lv_sub hl [0, 2, 3, 4, 5, 6, 7] rfl)
              · have g34 := z_f_nge rfl rfl c30
                refine lv_iconst (v := 1) hx hb dX2_kindOn_70 (by decide) ?_
                refine lv_goto (tgt := 75) hx hb dX2_kindOn_71 (by decide) ?_
                refine lv_istore (lv' := [(7, .int 1), (6, .int y2), (5, .int y3), (4, .int y4), (0, .ref (ad 1)), (1, .int a1), (2, .int a2), (3, .int a3)]) hx hb dX2_kindOn_75 hl (by decide) rfl (fun ls hl => ?_)
                refine lv_iload hx hb dX2_kindOn_77 (lv_at hl 0 rfl) ?_
                refine lv_if_eq (tgt := 112) hx hb dX2_kindOn_79 (by decide) (fun c35 => absurd c35 (by decide)) (fun c35 => ?_)
                refine lv_aload_n hx hb dX2_kindOn_82 rfl (lv_at hl 4 rfl) ?_
                refine z_get (T := TX2) (N := 12) (ci := 2) (i := 1) (v := .ref (ad 9)) hx hb hts zj_X2_kindOn_X2 hown hK hW rfl rfl 8 (by decide) (hts (.fieldLink RX2 33 "PetrolBoard$Holders" "from" "[I") (me_s (me_l (List.mem_of_getElem? (i := 2) rfl)))) (fun _ h => h) rfl dX2_kindOn_83 ?_
                refine lv_iload hx hb dX2_kindOn_86 (lv_at hl 1 rfl) ?_
                refine z_iald (i := 9) hx hb hK hW rfl (z_ix rfl (by omega) (by omega)) dX2_kindOn_88 ?_
                refine z_topi (v := x17) ex17.symm ?_
                refine lv_iload hx hb dX2_kindOn_89 (lv_at hl 3 rfl) ?_
                refine lv_icmp_lt (tgt := 112) hx hb dX2_kindOn_91 (by decide) (fun c36 => ?_) (fun c36 => ?_)
                · have g37 := z_f_lt rfl rfl c36
                  obtain ⟨x38, ex38⟩ : ∃ y : Int32, y = y2 + 1 := ⟨_, rfl⟩
                  have tx38 : x38.toInt = y2.toInt + 1 := z_tadd ex38 rfl z_l1 (by omega) (by omega)
                  refine lv_iinc (v := x38) (lv' := [(6, .int x38), (7, .int 1), (5, .int y3), (4, .int y4), (0, .ref (ad 1)), (1, .int a1), (2, .int a2), (3, .int a3)]) hx hb dX2_kindOn_112 hl (k := 1) rfl (by rw [ex38]; rfl) (by decide) rfl (fun ls hl => ?_)
                  refine lv_goto (tgt := 9) hx hb dX2_kindOn_115 (by decide) ?_
                  exact lp1ih x38 y3 y4 _ _ _ (by omega) (by omega) hW hS (lv_sub hl [0, 2, 3, 4, 5, 6, 7] rfl)
                · have g39 := z_f_nlt rfl rfl c36
                  refine lv_aload_n hx hb dX2_kindOn_94 rfl (lv_at hl 4 rfl) ?_
                  refine z_get (T := TX2) (N := 12) (ci := 2) (i := 1) (v := .ref (ad 9)) hx hb hts zj_X2_kindOn_X2 hown hK hW rfl rfl 8 (by decide) (hts (.fieldLink RX2 33 "PetrolBoard$Holders" "from" "[I") (me_s (me_l (List.mem_of_getElem? (i := 2) rfl)))) (fun _ h => h) rfl dX2_kindOn_95 ?_
                  refine lv_iload hx hb dX2_kindOn_98 (lv_at hl 1 rfl) ?_
                  refine z_iald (i := 9) hx hb hK hW rfl (z_ix rfl (by omega) (by omega)) dX2_kindOn_100 ?_
                  refine z_topi (v := x17) ex17.symm ?_
                  refine lv_istore (lv' := [(4, .int x17), (7, .int 1), (6, .int y2), (5, .int y3), (0, .ref (ad 1)), (1, .int a1), (2, .int a2), (3, .int a3)]) hx hb dX2_kindOn_101 hl (by decide) rfl (fun ls hl => ?_)
                  refine lv_aload_n hx hb dX2_kindOn_103 rfl (lv_at hl 4 rfl) ?_
                  refine z_get (T := TX2) (N := 12) (ci := 2) (i := 1) (v := .ref (ad 8)) hx hb hts zj_X2_kindOn_X2 hown hK hW rfl rfl 7 (by decide) (hts (.fieldLink RX2 30 "PetrolBoard$Holders" "kind" "[I") (me_s (me_l (List.mem_of_getElem? (i := 5) rfl)))) (fun _ h => h) rfl dX2_kindOn_104 ?_
                  refine lv_iload hx hb dX2_kindOn_107 (lv_at hl 2 rfl) ?_
                  refine z_iald (i := 8) hx hb hK hW rfl (z_ix rfl (by omega) (by omega)) dX2_kindOn_109 ?_
                  refine lv_topi (fun x40 ex40 => ?_)
                  refine lv_istore (lv' := [(5, .int x40), (4, .int x17), (7, .int 1), (6, .int y2), (0, .ref (ad 1)), (1, .int a1), (2, .int a2), (3, .int a3)]) hx hb dX2_kindOn_110 hl (by decide) rfl (fun ls hl => ?_)
                  obtain ⟨x41, ex41⟩ : ∃ y : Int32, y = y2 + 1 := ⟨_, rfl⟩
                  have tx41 : x41.toInt = y2.toInt + 1 := z_tadd ex41 rfl z_l1 (by omega) (by omega)
                  refine lv_iinc (v := x41) (lv' := [(6, .int x41), (5, .int x40), (4, .int x17), (7, .int 1), (0, .ref (ad 1)), (1, .int a1), (2, .int a2), (3, .int a3)]) hx hb dX2_kindOn_112 hl (k := 3) rfl (by rw [ex41]; rfl) (by decide) rfl (fun ls hl => ?_)
                  refine lv_goto (tgt := 9) hx hb dX2_kindOn_115 (by decide) ?_
                  exact lp1ih x41 x40 x17 _ _ _ (by omega) (by omega) hW hS (lv_sub hl [0, 1, 2, 4, 5, 6, 7] rfl)
  exact lp1 4294967296 (0) (0) ((-1)) _ _ _ (z_m0u _) (by rw [z_l0]; omega) hW hS (lv_sub hl [0, 1, 2, 3, 4, 5, 6] rfl)
