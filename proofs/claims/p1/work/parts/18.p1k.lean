theorem dX11_usual_0 : decode cX11_usual 0 = .ok (.iload_n 0, 1) := by decide +kernel
theorem dX11_usual_1 : decode cX11_usual 1 = .ok (.ifCond .lt 19, 3) := by decide +kernel
theorem dX11_usual_4 : decode cX11_usual 4 = .ok (.iload_n 0, 1) := by decide +kernel
theorem dX11_usual_5 : decode cX11_usual 5 = .ok (.getstatic 426, 3) := by decide +kernel
theorem dX11_usual_8 : decode cX11_usual 8 = .ok (.arraylength, 1) := by decide +kernel
theorem dX11_usual_9 : decode cX11_usual 9 = .ok (.if_icmp .ge 11, 3) := by decide +kernel
theorem dX11_usual_12 : decode cX11_usual 12 = .ok (.getstatic 426, 3) := by decide +kernel
theorem dX11_usual_15 : decode cX11_usual 15 = .ok (.iload_n 0, 1) := by decide +kernel
theorem dX11_usual_16 : decode cX11_usual 16 = .ok (.iaload, 1) := by decide +kernel
theorem dX11_usual_17 : decode cX11_usual 17 = .ok (.goto 4, 3) := by decide +kernel
theorem dX11_usual_21 : decode cX11_usual 21 = .ok (.ireturn, 1) := by decide +kernel
theorem dX6_amount_0 : decode cX6_amount 0 = .ok (.aload_n 0, 1) := by decide +kernel
theorem dX6_amount_1 : decode cX6_amount 1 = .ok (.iload_n 2, 1) := by decide +kernel
theorem dX6_amount_2 : decode cX6_amount 2 = .ok (.iload_n 3, 1) := by decide +kernel
set_option maxRecDepth 20000 in
theorem ggX6_amount_X6_ordersOf : GoodIn wsX6_amount wsX6_ordersOf := goodIn_r _ [5, 6, 7, 8, 9, 4, 10, 11, 12, 13, 25, 26, 27, 28, 29, 30, 31, 32, 33] (by decide +kernel) (by decide +kernel)
set_option maxRecDepth 20000 in
theorem gX6_amount_X6_ordersOf : GoodIn wsX6_amount (wsV RX6 38 RX6 yX6_ordersOf wsX6_ordersOf) := goodIn_app (goodIn_of _ (by decide +kernel)) ggX6_amount_X6_ordersOf
theorem dX6_amount_3 : decode cX6_amount 3 = .ok (.invokevirtual 38, 3) := by decide +kernel
theorem dX6_amount_6 : decode cX6_amount 6 = .ok (.astore 4, 2) := by decide +kernel
theorem dX6_amount_8 : decode cX6_amount 8 = .ok (.aload 4, 2) := by decide +kernel
theorem dX6_amount_10 : decode cX6_amount 10 = .ok (.ifnonnull 10, 3) := by decide +kernel
theorem dX6_amount_13 : decode cX6_amount 13 = .ok (.iload_n 1, 1) := by decide +kernel
set_option maxRecDepth 20000 in
theorem ggX6_amount_X11_usual : GoodIn wsX6_amount wsX11_usual := goodIn_r _ [16, 17] (by decide +kernel) (by decide +kernel)
set_option maxRecDepth 20000 in
theorem gX6_amount_X11_usual_n42 : GoodIn wsX6_amount (wsX11_usual) := ggX6_amount_X11_usual
theorem dX6_amount_14 : decode cX6_amount 14 = .ok (.invokestatic 42, 3) := by decide +kernel
theorem dX6_amount_17 : decode cX6_amount 17 = .ok (.goto 9, 3) := by decide +kernel
theorem dX6_amount_26 : decode cX6_amount 26 = .ok (.ireturn, 1) := by decide +kernel
theorem dX11_rule_0 : decode cX11_rule 0 = .ok (.iload_n 1, 1) := by decide +kernel
set_option maxRecDepth 20000 in
theorem ggX11_rule_X11_isMonth : GoodIn wsX11_rule wsX11_isMonth := goodIn_r _ [5, 6, 7, 4, 8] (by decide +kernel) (by decide +kernel)
set_option maxRecDepth 20000 in
theorem gX11_rule_X11_isMonth : GoodIn wsX11_rule (va_wsS RX11 122 yX11_isMonth wsX11_isMonth) := goodIn_app (goodIn_of _ (by decide +kernel)) ggX11_rule_X11_isMonth
theorem dX11_rule_1 : decode cX11_rule 1 = .ok (.invokestatic 122, 3) := by decide +kernel
theorem dX11_rule_4 : decode cX11_rule 4 = .ok (.ifCond .eq 10, 3) := by decide +kernel
theorem dX11_rule_7 : decode cX11_rule 7 = .ok (.iload_n 2, 1) := by decide +kernel
set_option maxRecDepth 20000 in
theorem ggX11_rule_X11_isDay : GoodIn wsX11_rule wsX11_isDay := goodIn_r _ [11, 6, 7, 4, 8] (by decide +kernel) (by decide +kernel)
set_option maxRecDepth 20000 in
theorem gX11_rule_X11_isDay : GoodIn wsX11_rule (va_wsS RX11 100 yX11_isDay wsX11_isDay) := goodIn_app (goodIn_of _ (by decide +kernel)) ggX11_rule_X11_isDay
theorem dX11_rule_8 : decode cX11_rule 8 = .ok (.invokestatic 100, 3) := by decide +kernel
theorem dX11_rule_11 : decode cX11_rule 11 = .ok (.ifCond .ne 5, 3) := by decide +kernel
theorem dX11_rule_16 : decode cX11_rule 16 = .ok (.iload_n 3, 1) := by decide +kernel
theorem dX11_rule_17 : decode cX11_rule 17 = .ok (.iconst 5, 1) := by decide +kernel
theorem dX11_rule_18 : decode cX11_rule 18 = .ok (.if_icmp .ne 13, 3) := by decide +kernel
theorem dX11_rule_31 : decode cX11_rule 31 = .ok (.iload_n 3, 1) := by decide +kernel
theorem dX11_rule_32 : decode cX11_rule 32 = .ok (.iconst 0, 1) := by decide +kernel
theorem dX11_rule_33 : decode cX11_rule 33 = .ok (.iconst 4, 1) := by decide +kernel
set_option maxRecDepth 20000 in
theorem ggX11_rule_X11_within : GoodIn wsX11_rule wsX11_within := goodIn_r _ [8] (by decide +kernel) (by decide +kernel)
set_option maxRecDepth 20000 in
theorem gX11_rule_X11_within : GoodIn wsX11_rule (va_wsS RX11 88 yX11_within wsX11_within) := goodIn_app (goodIn_of _ (by decide +kernel)) ggX11_rule_X11_within
theorem dX11_rule_34 : decode cX11_rule 34 = .ok (.invokestatic 88, 3) := by decide +kernel
theorem dX11_rule_37 : decode cX11_rule 37 = .ok (.ifCond .ne 5, 3) := by decide +kernel
theorem dX11_rule_42 : decode cX11_rule 42 = .ok (.aload_n 0, 1) := by decide +kernel
theorem dX11_rule_43 : decode cX11_rule 43 = .ok (.getfield 30, 3) := by decide +kernel
theorem dX11_rule_46 : decode cX11_rule 46 = .ok (.iload_n 3, 1) := by decide +kernel
theorem dX11_rule_47 : decode cX11_rule 47 = .ok (.iload_n 1, 1) := by decide +kernel
theorem dX11_rule_48 : decode cX11_rule 48 = .ok (.iload_n 2, 1) := by decide +kernel
set_option maxRecDepth 20000 in
theorem ggX11_rule_X6_amount : GoodIn wsX11_rule wsX6_amount := goodIn_r _ [24, 25, 26, 27, 15, 28, 18, 29, 13, 14, 16, 17, 19, 20, 30, 4, 31, 32, 33, 34, 35, 36, 37, 38, 39, 53, 54, 55, 56, 57, 58, 59, 60, 61] (by decide +kernel) (by decide +kernel)
set_option maxRecDepth 20000 in
theorem gX11_rule_X6_amount : GoodIn wsX11_rule (wsV RX11 144 RX6 yX6_amount wsX6_amount) := goodIn_app (goodIn_of _ (by decide +kernel)) ggX11_rule_X6_amount
theorem dX11_rule_49 : decode cX11_rule 49 = .ok (.invokevirtual 144, 3) := by decide +kernel
theorem dX11_rule_52 : decode cX11_rule 52 = .ok (.ireturn, 1) := by decide +kernel
theorem dX11_rule_40 : decode cX11_rule 40 = .ok (.iconst (-1), 1) := by decide +kernel
theorem dX11_rule_41 : decode cX11_rule 41 = .ok (.ireturn, 1) := by decide +kernel
theorem dX11_rule_21 : decode cX11_rule 21 = .ok (.aload_n 0, 1) := by decide +kernel
theorem dX11_rule_22 : decode cX11_rule 22 = .ok (.getfield 30, 3) := by decide +kernel
theorem dX11_rule_25 : decode cX11_rule 25 = .ok (.iload_n 1, 1) := by decide +kernel
theorem dX11_rule_26 : decode cX11_rule 26 = .ok (.iload_n 2, 1) := by decide +kernel
set_option maxRecDepth 20000 in
theorem ggX11_rule_X6_inForce : GoodIn wsX11_rule wsX6_inForce := goodIn_r _ [16, 17, 18, 19, 20, 53, 54, 55, 56, 57, 58, 59, 60, 61] (by decide +kernel) (by decide +kernel)
set_option maxRecDepth 20000 in
theorem gX11_rule_X6_inForce : GoodIn wsX11_rule (wsV RX11 140 RX6 yX6_inForce wsX6_inForce) := goodIn_app (goodIn_of _ (by decide +kernel)) ggX11_rule_X6_inForce
theorem dX11_rule_27 : decode cX11_rule 27 = .ok (.invokevirtual 140, 3) := by decide +kernel
theorem dX11_rule_30 : decode cX11_rule 30 = .ok (.ireturn, 1) := by decide +kernel
theorem dX11_rule_14 : decode cX11_rule 14 = .ok (.iconst (-1), 1) := by decide +kernel
theorem dX11_rule_15 : decode cX11_rule 15 = .ok (.ireturn, 1) := by decide +kernel
theorem dX11_foretold_0 : decode cX11_foretold 0 = .ok (.aload_n 0, 1) := by decide +kernel
theorem dX11_foretold_1 : decode cX11_foretold 1 = .ok (.getfield 85, 3) := by decide +kernel
theorem dX11_foretold_4 : decode cX11_foretold 4 = .ok (.bipush 30, 2) := by decide +kernel
theorem dX11_foretold_6 : decode cX11_foretold 6 = .ok (.idiv, 1) := by decide +kernel
theorem dX11_foretold_7 : decode cX11_foretold 7 = .ok (.istore_n 3, 1) := by decide +kernel
theorem dX11_foretold_8 : decode cX11_foretold 8 = .ok (.iload_n 1, 1) := by decide +kernel
theorem dX11_foretold_9 : decode cX11_foretold 9 = .ok (.iconst 1, 1) := by decide +kernel
theorem dX11_foretold_10 : decode cX11_foretold 10 = .ok (.bipush 12, 2) := by decide +kernel
set_option maxRecDepth 20000 in
theorem ggX11_foretold_X11_within : GoodIn wsX11_foretold wsX11_within := goodIn_r _ [16] (by decide +kernel) (by decide +kernel)
set_option maxRecDepth 20000 in
theorem gX11_foretold_X11_within : GoodIn wsX11_foretold (va_wsS RX11 88 yX11_within wsX11_within) := goodIn_app (goodIn_of _ (by decide +kernel)) ggX11_foretold_X11_within
theorem dX11_foretold_12 : decode cX11_foretold 12 = .ok (.invokestatic 88, 3) := by decide +kernel
theorem dX11_foretold_15 : decode cX11_foretold 15 = .ok (.ifCond .eq 11, 3) := by decide +kernel
theorem dX11_foretold_18 : decode cX11_foretold 18 = .ok (.iload_n 3, 1) := by decide +kernel
theorem dX11_foretold_19 : decode cX11_foretold 19 = .ok (.iload_n 1, 1) := by decide +kernel
theorem dX11_foretold_20 : decode cX11_foretold 20 = .ok (.iadd, 1) := by decide +kernel
theorem dX11_foretold_21 : decode cX11_foretold 21 = .ok (.bipush 24, 2) := by decide +kernel
theorem dX11_foretold_23 : decode cX11_foretold 23 = .ok (.if_icmp .le 6, 3) := by decide +kernel
theorem dX11_foretold_29 : decode cX11_foretold 29 = .ok (.lconst 0, 1) := by decide +kernel
theorem dX11_foretold_30 : decode cX11_foretold 30 = .ok (.lstore 4, 2) := by decide +kernel
theorem dX11_foretold_32 : decode cX11_foretold 32 = .ok (.iload_n 3, 1) := by decide +kernel
theorem dX11_foretold_33 : decode cX11_foretold 33 = .ok (.istore 6, 2) := by decide +kernel
theorem dX11_foretold_35 : decode cX11_foretold 35 = .ok (.iload 6, 2) := by decide +kernel
theorem dX11_foretold_37 : decode cX11_foretold 37 = .ok (.iload_n 3, 1) := by decide +kernel
theorem dX11_foretold_38 : decode cX11_foretold 38 = .ok (.iload_n 1, 1) := by decide +kernel
theorem dX11_foretold_39 : decode cX11_foretold 39 = .ok (.iadd, 1) := by decide +kernel
theorem dX11_foretold_40 : decode cX11_foretold 40 = .ok (.if_icmp .ge 38, 3) := by decide +kernel
theorem dX11_foretold_78 : decode cX11_foretold 78 = .ok (.ldc2_w 392, 3) := by decide +kernel
theorem dX11_foretold_81 : decode cX11_foretold 81 = .ok (.aload_n 0, 1) := by decide +kernel
theorem dX11_foretold_82 : decode cX11_foretold 82 = .ok (.getfield 61, 3) := by decide +kernel
set_option maxRecDepth 20000 in
theorem ggX11_foretold_X4_inPorts : GoodIn wsX11_foretold wsX4_inPorts := goodIn_r _ [128, 129, 130, 167, 168, 169, 170, 171, 172, 173, 174, 175, 176, 177, 178, 179] (by decide +kernel) (by decide +kernel)
set_option maxRecDepth 20000 in
theorem gX11_foretold_X4_inPorts : GoodIn wsX11_foretold (wsV RX11 394 RX4 yX4_inPorts wsX4_inPorts) := goodIn_app (goodIn_of _ (by decide +kernel)) ggX11_foretold_X4_inPorts
theorem dX11_foretold_85 : decode cX11_foretold 85 = .ok (.invokevirtual 394, 3) := by decide +kernel
theorem dX11_foretold_88 : decode cX11_foretold 88 = .ok (.i2l, 1) := by decide +kernel
theorem dX11_foretold_89 : decode cX11_foretold 89 = .ok (.lmul, 1) := by decide +kernel
theorem dX11_foretold_90 : decode cX11_foretold 90 = .ok (.lload 4, 2) := by decide +kernel
theorem dX11_foretold_92 : decode cX11_foretold 92 = .ok (.ldc2_w 398, 3) := by decide +kernel
theorem dX11_foretold_95 : decode cX11_foretold 95 = .ok (.ladd, 1) := by decide +kernel
theorem dX11_foretold_96 : decode cX11_foretold 96 = .ok (.ldc2_w 400, 3) := by decide +kernel
theorem dX11_foretold_99 : decode cX11_foretold 99 = .ok (.ldiv, 1) := by decide +kernel
theorem dX11_foretold_100 : decode cX11_foretold 100 = .ok (.lsub, 1) := by decide +kernel
theorem dX11_foretold_101 : decode cX11_foretold 101 = .ok (.lstore 6, 2) := by decide +kernel
theorem dX11_foretold_103 : decode cX11_foretold 103 = .ok (.ldc2_w 402, 3) := by decide +kernel
theorem dX11_foretold_106 : decode cX11_foretold 106 = .ok (.lload 6, 2) := by decide +kernel
theorem dX11_foretold_108 : decode cX11_foretold 108 = .ok (.invokestatic 404, 3) := by decide +kernel
theorem dX11_foretold_111 : decode cX11_foretold 111 = .ok (.l2i, 1) := by decide +kernel
theorem dX11_foretold_112 : decode cX11_foretold 112 = .ok (.ireturn, 1) := by decide +kernel
theorem dX11_foretold_43 : decode cX11_foretold 43 = .ok (.lload 4, 2) := by decide +kernel
theorem dX11_foretold_45 : decode cX11_foretold 45 = .ok (.aload_n 0, 1) := by decide +kernel
theorem dX11_foretold_46 : decode cX11_foretold 46 = .ok (.getfield 30, 3) := by decide +kernel
theorem dX11_foretold_49 : decode cX11_foretold 49 = .ok (.iconst 0, 1) := by decide +kernel
theorem dX11_foretold_50 : decode cX11_foretold 50 = .ok (.iload 6, 2) := by decide +kernel
theorem dX11_foretold_52 : decode cX11_foretold 52 = .ok (.aload_n 0, 1) := by decide +kernel
theorem dX11_foretold_53 : decode cX11_foretold 53 = .ok (.getfield 85, 3) := by decide +kernel
set_option maxRecDepth 20000 in
theorem ggX11_foretold_X6_amount : GoodIn wsX11_foretold wsX6_amount := goodIn_r _ [21, 22, 23, 24, 20, 25, 26, 27, 28, 29, 30, 31, 32, 33, 34, 15, 35, 36, 37, 38, 39, 40, 41, 42, 43, 144, 145, 146, 147, 148, 149, 150, 151, 152] (by decide +kernel) (by decide +kernel)
set_option maxRecDepth 20000 in
theorem gX11_foretold_X6_amount : GoodIn wsX11_foretold (wsV RX11 144 RX6 yX6_amount wsX6_amount) := goodIn_app (goodIn_of _ (by decide +kernel)) ggX11_foretold_X6_amount
theorem dX11_foretold_56 : decode cX11_foretold 56 = .ok (.invokevirtual 144, 3) := by decide +kernel
theorem dX11_foretold_59 : decode cX11_foretold 59 = .ok (.i2l, 1) := by decide +kernel
theorem dX11_foretold_60 : decode cX11_foretold 60 = .ok (.aload_n 0, 1) := by decide +kernel
theorem dX11_foretold_61 : decode cX11_foretold 61 = .ok (.iload 6, 2) := by decide +kernel
theorem dX11_foretold_63 : decode cX11_foretold 63 = .ok (.iload_n 2, 1) := by decide +kernel
set_option maxRecDepth 20000 in
theorem ggX11_foretold_X11_unitsTogether : GoodIn wsX11_foretold wsX11_unitsTogether := goodIn_r _ [47, 48, 49, 1, 3, 50, 51, 52, 53, 54, 55, 56, 57, 58, 59, 60, 61, 62, 63, 20, 64, 65, 22, 23, 24, 25, 26, 27, 28, 29, 30, 31, 32, 33, 66, 67, 68, 69, 70, 71, 72, 73, 74, 75, 76, 77, 78, 79, 80, 81, 82, 83, 84, 85, 40, 86, 43, 87, 88, 89, 90, 91, 92, 93, 94, 95, 96, 97, 98, 99, 11, 100, 101, 102, 103, 104, 105, 106, 107, 108, 109, 110, 111, 112, 113, 114, 115, 10, 12, 116, 117, 118, 119, 42, 120, 121, 122, 123, 131, 132, 133, 134, 135, 136, 137, 138, 139, 140, 141, 142, 143, 153, 154, 155, 156, 157, 158, 159, 160, 161, 162, 163, 164, 144, 145, 146, 147, 148, 149, 150, 151, 152, 165, 166] (by decide +kernel) (by decide +kernel)
set_option maxRecDepth 20000 in
theorem gX11_foretold_X11_unitsTogether : GoodIn wsX11_foretold (wsV RX11 388 RX11 yX11_unitsTogether wsX11_unitsTogether) := goodIn_app (goodIn_of _ (by decide +kernel)) ggX11_foretold_X11_unitsTogether
theorem dX11_foretold_64 : decode cX11_foretold 64 = .ok (.invokevirtual 388, 3) := by decide +kernel
theorem dX11_foretold_67 : decode cX11_foretold 67 = .ok (.i2l, 1) := by decide +kernel
theorem dX11_foretold_68 : decode cX11_foretold 68 = .ok (.lmul, 1) := by decide +kernel
theorem dX11_foretold_69 : decode cX11_foretold 69 = .ok (.ladd, 1) := by decide +kernel
theorem dX11_foretold_70 : decode cX11_foretold 70 = .ok (.lstore 4, 2) := by decide +kernel
theorem dX11_foretold_72 : decode cX11_foretold 72 = .ok (.iinc 6 1, 3) := by decide +kernel
theorem dX11_foretold_75 : decode cX11_foretold 75 = .ok (.goto (-40), 3) := by decide +kernel
theorem dX11_foretold_26 : decode cX11_foretold 26 = .ok (.ldc 241, 2) := by decide +kernel
theorem dX11_foretold_28 : decode cX11_foretold 28 = .ok (.ireturn, 1) := by decide +kernel
theorem z_l24 : (24 : Int32).toInt = 24 := by decide
/-! the static row of what is usual: it lies outside all that is written -/
def z_us : Nat → Value := fun j => .int (if j = 0 then 10 else if j = 1 then 1 else if j = 2 then 5 else if j = 3 then 0 else 20)
def z_St (A : Nat → Prop) (U : State) (H : Heap) : Prop := ∃ t0 : Nat, va_Z "PetrolBoard" "USUAL" "[I" (.ref t0) A U H ∧ va_T .int t0 5 z_us A U H
theorem z_St.moved {A : Nat → Prop} {u U : State} {H : Heap} (hvm : u.vm.Alike U.vm) (h : z_St A u H) : z_St A U H := by
  obtain ⟨t, h1, h2⟩ := h
  exact ⟨t, h1.moved hvm, h2.moved hvm⟩
theorem z_St.kept {A : Nat → Prop} {U : State} {H H1 : Heap} (h : z_St A U H) (hq : ∀ a : Nat, a < H.size → ¬ A a → H1[a]? = H[a]?) : z_St A U H1 := by
  obtain ⟨t, h1, h2⟩ := h
  exact ⟨t, h1.kept hq, h2.kept hq⟩
theorem z_St.narrow {A B : Nat → Prop} {U : State} {H : Heap} (h : z_St A U H) (hAB : ∀ q, B q → A q) : z_St B U H := by
  obtain ⟨t, h1, h2⟩ := h
  exact ⟨t, h1.narrow hAB, h2.narrow hAB⟩
def z_PcS (G : z_G) (u : z_U) (av : List Value) (sz : Nat) : Array Value → State → Prop := va_Pc av (fun U => U.heap.size = sz ∧ z_B G (z_A u sz) u U ∧ z_St (z_A u sz) U U.heap)
def z_MS (l : Launch) (y : MethodName) (ws : List Cond) (rm : Room) (av : List Value) (G : z_G) (u : z_U) (post : Int32 → z_U → Prop) (mc ms : Nat) : Prop := ∀ sz : Nat, Met l y ws rm (z_PcS G u av sz) (va_Qi post (z_B G (z_A u sz)) (z_A u sz)) mc ms (z_A u sz)
theorem z_PcS.blind {G : z_G} {u : z_U} {av : List Value} {sz : Nat} : FrameBlind (z_PcS G u av sz) := by
  intro a U g mk h
  obtain ⟨h1, h2, ⟨h3, h4⟩, h5⟩ := h
  exact ⟨h1, h2, ⟨z_K.same (u := U) (U := U.calling g mk a) rfl h3, h4⟩, h5.moved (Vm.Alike.refl U.vm)⟩
theorem z_preVS {G : z_G} {A : Nat → Prop} {u : z_U} {s : State} {H : Heap} {locs : List Loc} {i ci : Nat} {C : String} {T : u_T} {N : Nat} {As : List Value} (hK : z_K G s) (hW : z_W G A u H) (hS : va_S A s.heap H locs) (hA : ∀ q : Nat, s.heap.size ≤ q → A q) (hSt : z_St A s s.heap) (hi : u.1 i = some (.inr ci)) (hc : vwCl[ci]? = some (C, T, N)) : PreV s H C (u.2.1 i) (z_PcS G u (.ref (u.2.1 i) :: As) H.size) As := by
  refine ⟨z_PcS.blind, (z_preV (As := As) hK hW hi hc).2.1, fun U hU hWm => ⟨rfl, by rw [hU], ⟨hK.warm hWm, by rw [hU]; exact hW.self⟩, ?_⟩⟩
  rw [hU]
  exact ((hSt.kept (fun q g1 g2 => hS.2.1 q g1 g2)).narrow (hW.free hS hA)).moved hWm.alike
theorem z_preSS {G : z_G} {A : Nat → Prop} {u : z_U} {s : State} {H : Heap} {locs : List Loc} {As : List Value} (hK : z_K G s) (hW : z_W G A u H) (hS : va_S A s.heap H locs) (hA : ∀ q : Nat, s.heap.size ≤ q → A q) (hSt : z_St A s s.heap) : PreS s H (z_PcS G u As H.size) As :=
  ⟨z_PcS.blind, fun U hU hWm => ⟨rfl, by rw [hU], ⟨hK.warm hWm, by rw [hU]; exact hW.self⟩, by
    rw [hU]
    exact ((hSt.kept (fun q g1 g2 => hS.2.1 q g1 g2)).narrow (hW.free hS hA)).moved hWm.alike⟩⟩
theorem z_headS {l : Launch} {y : MethodName} {ws ws' : List Cond} {rm : Room} {av : List Value} {G : z_G} {u : z_U} {sz mc ms maxL : Nat} {cc : ByteArray} {ret : Option FieldType} {Qc : Array Value → State → Outcome → State → Prop} (hy : plainName y.cls = true) (hw : ws = Cond.code y cc maxL ret :: ws') (hlen : (lg_sl av).length ≤ maxL)
    (body : ∀ (p : Program) (e : Env) (s : State) (m : MethodId) (below : List Frame) (meth : Method) (c : Code) (ls : Array Slot), z_In p s m meth c y cc maxL ret ws av → z_K G s → s.heap.size = sz → z_W G (z_A u sz) u s.heap → lv_has ls maxL (lv_args 0 av) → z_St (z_A u sz) s s.heap →
      W p l e (headSpec ws rm).room s m av.toArray below meth c s.heap [] 0 0 (MQ below Qc av.toArray s mc ms (z_A u sz)) (F0 m 0 ls [])) : Met l y ws rm (z_PcS G u av sz) Qc mc ms (z_A u sz) := by
  refine Met.ofW (cc := cc) (maxL := maxL) (ret := ret) hy hw ?_
  intro p e s m args below meth c s₁ B hml hv
  obtain ⟨rfl, hsz, ⟨hK, hW⟩, hSt⟩ := hv
  have hts := atoms_spec (ws := ws) B.pre
  have hown : s.vm.findClass y.cls = some m.cls := findClass_of_methodNamed B.named
  rw [lg_entry_eq]
  exact body p e s m below meth c _ ⟨B.exec, B.bytes, B.returns, hml, hown, hts, B.notSynchronized, (name_of_methodNamed B.named B.method).1⟩ hK hsz hW (lv_entry av hlen) hSt
set_option maxHeartbeats 4000000 in
set_option maxRecDepth 100000 in
theorem ct_X11_usual (l : Launch) (G : z_G) (u : z_U) (a1 : Int32) (h1 : 0 ≤ a1) (h2 : a1 ≤ 4) : z_MS l yX11_usual wsX11_usual { frames := 1, cells := 0, slots := 0, locals := 12 } [.int a1] G u (fun r u1 => u1 = u ∧ r = fr_num (3 + a1)) 0 0 := by
  intro sz
  refine z_headS (cc := cX11_usual) (maxL := 1) (ret := (some .int)) (by decide) rfl (Nat.le_of_ble_eq_true rfl) ?_
  intro p e s m below meth c ls hIn hK hsz hW hl hSt
  obtain ⟨hx, hb, hr, hml, hown, hts, hlocks, hname⟩ := hIn
  subst hsz
  have hown : s.vm.findClass RX11 = some m.cls := hown
  have hA : ∀ q : Nat, s.heap.size ≤ q → z_A u s.heap.size q := fun q h => Or.inr h
  generalize hAe : z_A u s.heap.size = A at *
  have hS : va_S A s.heap s.heap [] := va_S.rf
  have hl : lv_has ls 1 [(0, .int a1)] := hl
  obtain ⟨t0, hZ, hT⟩ := hSt
  rcases z_five h1 h2 with e5 | e5 | e5 | e5 | e5
  · subst e5
    refine lv_iload_n hx hb dX11_usual_0 rfl (lv_at hl 0 rfl) ?_
    refine lv_if_lt (tgt := 20) hx hb dX11_usual_1 (by decide) (fun c1 => absurd c1 (by decide)) (fun c1 => ?_)
    refine lv_iload_n hx hb dX11_usual_4 rfl (lv_at hl 0 rfl) ?_
    refine va_gets hx hb hZ hS hown (hts (.fieldLink RX11 426 "PetrolBoard" "USUAL" "[I") (List.mem_of_getElem? (i := 1) rfl)) (fun _ h => h) dX11_usual_5 ?_
    refine va_tlen (v := 5) hx hb hT hS rfl dX11_usual_8 ?_
    refine lv_icmp_ge (tgt := 20) hx hb dX11_usual_9 (by decide) (fun c2 => absurd c2 (by decide)) (fun c2 => ?_)
    refine va_gets hx hb hZ hS hown (hts (.fieldLink RX11 426 "PetrolBoard" "USUAL" "[I") (List.mem_of_getElem? (i := 1) rfl)) (fun _ h => h) dX11_usual_12 ?_
    refine lv_iload_n hx hb dX11_usual_15 rfl (lv_at hl 0 rfl) ?_
    refine va_ti (v := .int 10) hx hb hT hS (z_inl (by decide)) rfl dX11_usual_16 ?_
    refine lv_goto (tgt := 21) hx hb dX11_usual_17 (by decide) ?_
    exact z_iret hx hb hr hK hS (Nat.le_of_ble_eq_true rfl) (Nat.le_of_ble_eq_true rfl) hlocks dX11_usual_21 u hW ⟨rfl, by decide⟩
  · subst e5
    refine lv_iload_n hx hb dX11_usual_0 rfl (lv_at hl 0 rfl) ?_
    refine lv_if_lt (tgt := 20) hx hb dX11_usual_1 (by decide) (fun c3 => absurd c3 (by decide)) (fun c3 => ?_)
    refine lv_iload_n hx hb dX11_usual_4 rfl (lv_at hl 0 rfl) ?_
    refine va_gets hx hb hZ hS hown (hts (.fieldLink RX11 426 "PetrolBoard" "USUAL" "[I") (List.mem_of_getElem? (i := 1) rfl)) (fun _ h => h) dX11_usual_5 ?_
    refine va_tlen (v := 5) hx hb hT hS rfl dX11_usual_8 ?_
    refine lv_icmp_ge (tgt := 20) hx hb dX11_usual_9 (by decide) (fun c4 => absurd c4 (by decide)) (fun c4 => ?_)
    refine va_gets hx hb hZ hS hown (hts (.fieldLink RX11 426 "PetrolBoard" "USUAL" "[I") (List.mem_of_getElem? (i := 1) rfl)) (fun _ h => h) dX11_usual_12 ?_
    refine lv_iload_n hx hb dX11_usual_15 rfl (lv_at hl 0 rfl) ?_
    refine va_ti (v := .int 1) hx hb hT hS (z_inl (by decide)) rfl dX11_usual_16 ?_
    refine lv_goto (tgt := 21) hx hb dX11_usual_17 (by decide) ?_
    exact z_iret hx hb hr hK hS (Nat.le_of_ble_eq_true rfl) (Nat.le_of_ble_eq_true rfl) hlocks dX11_usual_21 u hW ⟨rfl, by decide⟩
  · subst e5
    refine lv_iload_n hx hb dX11_usual_0 rfl (lv_at hl 0 rfl) ?_
    refine lv_if_lt (tgt := 20) hx hb dX11_usual_1 (by decide) (fun c5 => absurd c5 (by decide)) (fun c5 => ?_)
    refine lv_iload_n hx hb dX11_usual_4 rfl (lv_at hl 0 rfl) ?_
    refine va_gets hx hb hZ hS hown (hts (.fieldLink RX11 426 "PetrolBoard" "USUAL" "[I") (List.mem_of_getElem? (i := 1) rfl)) (fun _ h => h) dX11_usual_5 ?_
    refine va_tlen (v := 5) hx hb hT hS rfl dX11_usual_8 ?_
    refine lv_icmp_ge (tgt := 20) hx hb dX11_usual_9 (by decide) (fun c6 => absurd c6 (by decide)) (fun c6 => ?_)
    refine va_gets hx hb hZ hS hown (hts (.fieldLink RX11 426 "PetrolBoard" "USUAL" "[I") (List.mem_of_getElem? (i := 1) rfl)) (fun _ h => h) dX11_usual_12 ?_
    refine lv_iload_n hx hb dX11_usual_15 rfl (lv_at hl 0 rfl) ?_
    refine va_ti (v := .int 5) hx hb hT hS (z_inl (by decide)) rfl dX11_usual_16 ?_
    refine lv_goto (tgt := 21) hx hb dX11_usual_17 (by decide) ?_
    exact z_iret hx hb hr hK hS (Nat.le_of_ble_eq_true rfl) (Nat.le_of_ble_eq_true rfl) hlocks dX11_usual_21 u hW ⟨rfl, by decide⟩
  · subst e5
    refine lv_iload_n hx hb dX11_usual_0 rfl (lv_at hl 0 rfl) ?_
    refine lv_if_lt (tgt := 20) hx hb dX11_usual_1 (by decide) (fun c7 => absurd c7 (by decide)) (fun c7 => ?_)
    refine lv_iload_n hx hb dX11_usual_4 rfl (lv_at hl 0 rfl) ?_
    refine va_gets hx hb hZ hS hown (hts (.fieldLink RX11 426 "PetrolBoard" "USUAL" "[I") (List.mem_of_getElem? (i := 1) rfl)) (fun _ h => h) dX11_usual_5 ?_
    refine va_tlen (v := 5) hx hb hT hS rfl dX11_usual_8 ?_
    refine lv_icmp_ge (tgt := 20) hx hb dX11_usual_9 (by decide) (fun c8 => absurd c8 (by decide)) (fun c8 => ?_)
    refine va_gets hx hb hZ hS hown (hts (.fieldLink RX11 426 "PetrolBoard" "USUAL" "[I") (List.mem_of_getElem? (i := 1) rfl)) (fun _ h => h) dX11_usual_12 ?_
    refine lv_iload_n hx hb dX11_usual_15 rfl (lv_at hl 0 rfl) ?_
    refine va_ti (v := .int 0) hx hb hT hS (z_inl (by decide)) rfl dX11_usual_16 ?_
    refine lv_goto (tgt := 21) hx hb dX11_usual_17 (by decide) ?_
    exact z_iret hx hb hr hK hS (Nat.le_of_ble_eq_true rfl) (Nat.le_of_ble_eq_true rfl) hlocks dX11_usual_21 u hW ⟨rfl, by decide⟩
  · subst e5
    refine lv_iload_n hx hb dX11_usual_0 rfl (lv_at hl 0 rfl) ?_
    refine lv_if_lt (tgt := 20) hx hb dX11_usual_1 (by decide) (fun c9 => absurd c9 (by decide)) (fun c9 => ?_)
    refine lv_iload_n hx hb dX11_usual_4 rfl (lv_at hl 0 rfl) ?_
    refine va_gets hx hb hZ hS hown (hts (.fieldLink RX11 426 "PetrolBoard" "USUAL" "[I") (List.mem_of_getElem? (i := 1) rfl)) (fun _ h => h) dX11_usual_5 ?_
    refine va_tlen (v := 5) hx hb hT hS rfl dX11_usual_8 ?_
    refine lv_icmp_ge (tgt := 20) hx hb dX11_usual_9 (by decide) (fun c10 => absurd c10 (by decide)) (fun c10 => ?_)
    refine va_gets hx hb hZ hS hown (hts (.fieldLink RX11 426 "PetrolBoard" "USUAL" "[I") (List.mem_of_getElem? (i := 1) rfl)) (fun _ h => h) dX11_usual_12 ?_
    refine lv_iload_n hx hb dX11_usual_15 rfl (lv_at hl 0 rfl) ?_
    refine va_ti (v := .int 20) hx hb hT hS (z_inl (by decide)) rfl dX11_usual_16 ?_
    refine lv_goto (tgt := 21) hx hb dX11_usual_17 (by decide) ?_
    exact z_iret hx hb hr hK hS (Nat.le_of_ble_eq_true rfl) (Nat.le_of_ble_eq_true rfl) hlocks dX11_usual_21 u hW ⟨rfl, by decide⟩
set_option maxHeartbeats 4000000 in
set_option maxRecDepth 100000 in
theorem ct_X6_amount (l : Launch) (G : z_G) (ad : Nat → Nat) (a1 : Int32) (a2 : Int32) (a3 : Int32) (h1 : 0 ≤ a1) (h2 : a1 ≤ 4) : z_MS l yX6_amount wsX6_amount { frames := 3, cells := 0, slots := 0, locals := 62 } [.ref (ad 21), .int a1, .int a2, .int a3] G (shX, ad, IX, JX, PX ad) (fun r u1 => u1 = (shX, ad, IX, JX, PX ad) ∧ r = fr_num (3 + a1)) 0 0 := by
  intro sz
  refine z_headS (cc := cX6_amount) (maxL := 5) (ret := (some .int)) (by decide) rfl (Nat.le_of_ble_eq_true rfl) ?_
  intro p e s m below meth c ls hIn hK hsz hW hl hSt
  obtain ⟨hx, hb, hr, hml, hown, hts, hlocks, hname⟩ := hIn
  subst hsz
  have hown : s.vm.findClass RX6 = some m.cls := hown
  have hA : ∀ q : Nat, s.heap.size ≤ q → z_A (shX, ad, IX, JX, PX ad) s.heap.size q := fun q h => Or.inr h
  generalize hAe : z_A (shX, ad, IX, JX, PX ad) s.heap.size = A at *
  have hS : va_S A s.heap s.heap [] := va_S.rf
  have hl : lv_has ls 5 [(0, .ref (ad 21)), (1, .int a1), (2, .int a2), (3, .int a3)] := hl
  refine lv_aload_n hx hb dX6_amount_0 rfl (lv_at hl 0 rfl) ?_
  refine lv_iload_n hx hb dX6_amount_1 rfl (lv_at hl 2 rfl) ?_
  refine lv_iload_n hx hb dX6_amount_2 rfl (lv_at hl 3 rfl) ?_
  refine z_cq hW hS hA (va_runV (As := [.int a2, .int a3]) (rest := []) ⟨hx, hb, hml, hown, hts⟩ (ct_X6_ordersOf l G ad a2 a3 _) (cwV 2 hts gX6_amount_X6_ordersOf rfl rfl rfl (by decide +kernel) ⟨Nat.le_of_ble_eq_true rfl, Nat.le_of_ble_eq_true rfl⟩) (z_preV hK hW rfl rfl) rfl rfl hl.1 rfl (lv_room (Nat.le_of_ble_eq_true rfl)) dX6_amount_3 ⟨Nat.le_of_ble_eq_true rfl, Nat.le_of_ble_eq_true rfl⟩) (fun r u1 H locs hp hW hS => ?_)
  obtain ⟨e9, rfl⟩ := hp
  rw [e9] at hW
  refine W.eq (g2 := F0 m 6 ls (.null :: [])) rfl ?_
  refine lv_astoreN (lv' := [(4, .null), (0, .ref (ad 21)), (1, .int a1), (2, .int a2), (3, .int a3)]) hx hb dX6_amount_6 hl (by decide) rfl (fun ls hl => ?_)
  refine lv_aloadN hx hb dX6_amount_8 (lv_at hl 0 rfl) ?_
  refine lv_ifnonnullN hx hb dX6_amount_10 ?_
  refine lv_iload_n hx hb dX6_amount_13 rfl (lv_at hl 2 rfl) ?_
  refine z_ci hW hS hA (va_runSN (As := [.int a1]) (rest := []) ⟨hx, hb, hml, hown, hts⟩ (ct_X11_usual l G (shX, ad, IX, JX, PX ad) a1 h1 h2 _) ⟨va_cnB 1 hts gX6_amount_X11_usual_n42 rfl rfl rfl (hK.2.2.1 _ (List.mem_of_getElem? (i := 9) rfl)) (hts (.initialized RX11) (List.mem_of_getElem? (i := 15) rfl)) (by decide +kernel) ⟨Nat.le_of_ble_eq_true rfl, Nat.le_of_ble_eq_true rfl⟩, (hts (.static yX11_usual) (List.mem_of_getElem? (i := 14) rfl)), trivial⟩ (z_preSS hK hW hS hA hSt) rfl rfl hl.1 rfl (lv_room (Nat.le_of_ble_eq_true rfl)) dX6_amount_14 ⟨Nat.le_of_ble_eq_true rfl, Nat.le_of_ble_eq_true rfl⟩) (fun r u1 H locs hp hW hS => ?_)
  obtain ⟨e9, rfl⟩ := hp
  rw [e9] at hW
  refine lv_goto (tgt := 26) hx hb dX6_amount_17 (by decide) ?_
  exact z_iret hx hb hr hK hS (Nat.le_of_ble_eq_true rfl) (Nat.le_of_ble_eq_true rfl) hlocks dX6_amount_26 (shX, ad, IX, JX, PX ad) hW ⟨rfl, rfl⟩
theorem zi_X11_rule_X11 : ∀ w ∈ wsX110, w ∈ wsX11_rule := fun w h => (List.mem_cons_of_mem _ (List.mem_append_left _ (List.mem_append_left _ (List.mem_append_right _ h))))
set_option maxHeartbeats 4000000 in
set_option maxRecDepth 100000 in
theorem ct_X11_rule (l : Launch) (G : z_G) (ad : Nat → Nat) (a1 : Int32) (a2 : Int32) (a3 : Int32) : z_MS l yX11_rule wsX11_rule { frames := 4, cells := 0, slots := 0, locals := 86 } [.ref (ad 0), .int a1, .int a2, .int a3] G (shX, ad, IX, JX, PX ad) (fun r u1 => r = fr_rule a1 a2 a3) 0 0 := by
  intro sz
  refine z_headS (cc := cX11_rule) (maxL := 4) (ret := (some .int)) (by decide) rfl (Nat.le_of_ble_eq_true rfl) ?_
  intro p e s m below meth c ls hIn hK hsz hW hl hSt
  obtain ⟨hx, hb, hr, hml, hown, hts, hlocks, hname⟩ := hIn
  subst hsz
  have hown : s.vm.findClass RX11 = some m.cls := hown
  have hA : ∀ q : Nat, s.heap.size ≤ q → z_A (shX, ad, IX, JX, PX ad) s.heap.size q := fun q h => Or.inr h
  generalize hAe : z_A (shX, ad, IX, JX, PX ad) s.heap.size = A at *
  have hS : va_S A s.heap s.heap [] := va_S.rf
  have hl : lv_has ls 4 [(0, .ref (ad 0)), (1, .int a1), (2, .int a2), (3, .int a3)] := hl
  refine lv_iload_n hx hb dX11_rule_0 rfl (lv_at hl 1 rfl) ?_
  refine z_ci hW hS hA (va_runS (As := [.int a1]) (rest := []) ⟨hx, hb, hml, hown, hts⟩ (ct_X11_isMonth l G (shX, ad, IX, JX, PX ad) a1 _) (va_cwS 1 hts gX11_rule_X11_isMonth rfl rfl rfl (by decide +kernel) ⟨Nat.le_of_ble_eq_true rfl, Nat.le_of_ble_eq_true rfl⟩) (z_preS hK hW) rfl rfl hl.1 rfl (lv_room (Nat.le_of_ble_eq_true rfl)) dX11_rule_1 ⟨Nat.le_of_ble_eq_true rfl, Nat.le_of_ble_eq_true rfl⟩) (fun r u1 H locs hp hW hS => ?_)
  obtain ⟨e9, hp⟩ := hp
  rw [e9] at hW
  rcases hp with ⟨rfl, h1, h2⟩ | ⟨rfl, h3⟩
  · refine lv_if_eq (tgt := 14) hx hb dX11_rule_4 (by decide) (fun c4 => absurd c4 (by decide)) (fun c4 => ?_)
    refine lv_iload_n hx hb dX11_rule_7 rfl (lv_at hl 2 rfl) ?_
    refine z_ci hW hS hA (va_runS (As := [.int a2]) (rest := []) ⟨hx, hb, hml, hown, hts⟩ (ct_X11_isDay l G (shX, ad, IX, JX, PX ad) a2 _) (va_cwS 1 hts gX11_rule_X11_isDay rfl rfl rfl (by decide +kernel) ⟨Nat.le_of_ble_eq_true rfl, Nat.le_of_ble_eq_true rfl⟩) (z_preS hK hW) rfl rfl hl.1 rfl (lv_room (Nat.le_of_ble_eq_true rfl)) dX11_rule_8 ⟨Nat.le_of_ble_eq_true rfl, Nat.le_of_ble_eq_true rfl⟩) (fun r u1 H locs hp hW hS => ?_)
    obtain ⟨e9, hp⟩ := hp
    rw [e9] at hW
    rcases hp with ⟨rfl, h5, h6⟩ | ⟨rfl, h7⟩
    · refine lv_if_ne (tgt := 16) hx hb dX11_rule_11 (by decide) (fun c8 => ?_) (fun c8 => absurd c8 (by decide))
      refine lv_iload_n hx hb dX11_rule_16 rfl (lv_at hl 3 rfl) ?_
      refine lv_iconst (v := 5) hx hb dX11_rule_17 (by decide) ?_
      refine lv_icmp_ne (tgt := 31) hx hb dX11_rule_18 (by decide) (fun c9 => ?_) (fun c9 => ?_)
      · refine lv_iload_n hx hb dX11_rule_31 rfl (lv_at hl 3 rfl) ?_
        refine lv_iconst (v := 0) hx hb dX11_rule_32 (by decide) ?_
        refine lv_iconst (v := 4) hx hb dX11_rule_33 (by decide) ?_
        refine z_ci hW hS hA (va_runS (As := [.int a3, .int 0, .int 4]) (rest := []) ⟨hx, hb, hml, hown, hts⟩ (ct_X11_within l G (shX, ad, IX, JX, PX ad) a3 0 4 _) (va_cwS 3 hts gX11_rule_X11_within rfl rfl rfl (by decide +kernel) ⟨Nat.le_of_ble_eq_true rfl, Nat.le_of_ble_eq_true rfl⟩) (z_preS hK hW) rfl rfl hl.1 rfl (lv_room (Nat.le_of_ble_eq_true rfl)) dX11_rule_34 ⟨Nat.le_of_ble_eq_true rfl, Nat.le_of_ble_eq_true rfl⟩) (fun r u1 H locs hp hW hS => ?_)
        obtain ⟨e9, hp⟩ := hp
        rw [e9] at hW
        rcases hp with ⟨rfl, h10, h11⟩ | ⟨rfl, h12⟩
        · refine lv_if_ne (tgt := 42) hx hb dX11_rule_37 (by decide) (fun c13 => ?_) (fun c13 => absurd c13 (by decide))
          refine lv_aload_n hx hb dX11_rule_42 rfl (lv_at hl 0 rfl) ?_
          refine z_get (T := TX11) (N := 13) (ci := 11) (i := 0) (v := .ref (ad 21)) hx hb hts zi_X11_rule_X11 hown hK hW rfl rfl 4 (by decide) (hts (.fieldLink RX11 30 "PetrolBoard" "orderBook" "LPetrolBoard$OrderBook;") (List.mem_of_getElem? (i := 1) rfl)) (fun _ h => h) rfl dX11_rule_43 ?_
          refine lv_iload_n hx hb dX11_rule_46 rfl (lv_at hl 3 rfl) ?_
          refine lv_iload_n hx hb dX11_rule_47 rfl (lv_at hl 1 rfl) ?_
          refine lv_iload_n hx hb dX11_rule_48 rfl (lv_at hl 2 rfl) ?_
          refine z_ci hW hS hA (va_runV (As := [.int a3, .int a1, .int a2]) (rest := []) ⟨hx, hb, hml, hown, hts⟩ (ct_X6_amount l G ad a3 a1 a2 h10 h11 _) (cwV 3 hts gX11_rule_X6_amount rfl rfl rfl (by decide +kernel) ⟨Nat.le_of_ble_eq_true rfl, Nat.le_of_ble_eq_true rfl⟩) (z_preVS hK hW hS hA hSt rfl rfl) rfl rfl hl.1 rfl (lv_room (Nat.le_of_ble_eq_true rfl)) dX11_rule_49 ⟨Nat.le_of_ble_eq_true rfl, Nat.le_of_ble_eq_true rfl⟩) (fun r u1 H locs hp hW hS => ?_)
          obtain ⟨e9, rfl⟩ := hp
          rw [e9] at hW
          exact z_iret hx hb hr hK hS (Nat.le_of_ble_eq_true rfl) (Nat.le_of_ble_eq_true rfl) hlocks dX11_rule_52 (shX, ad, IX, JX, PX ad) hW (by unfold fr_rule; split <;> first | rfl | decide | (rename_i q; exfalso; simp only [Int32.lt_iff_toInt_lt, Int32.le_iff_toInt_le, ← Int32.toInt_inj, z_l0, z_l1, z_l2, z_l3, z_l4, z_l5, z_l23, z_l719, true_and, and_true] at q h1 h2 h5 h6 c9 h10 h11; omega))
        · refine lv_if_ne (tgt := 42) hx hb dX11_rule_37 (by decide) (fun c14 => absurd (by decide) c14) (fun c14 => ?_)
          refine lv_iconst (v := (-1)) hx hb dX11_rule_40 (by decide) ?_
          exact z_iret hx hb hr hK hS (Nat.le_of_ble_eq_true rfl) (Nat.le_of_ble_eq_true rfl) hlocks dX11_rule_41 (shX, ad, IX, JX, PX ad) hW (by unfold fr_rule; split <;> first | rfl | decide | (rename_i q; exfalso; simp only [Int32.lt_iff_toInt_lt, Int32.le_iff_toInt_le, ← Int32.toInt_inj, z_l0, z_l1, z_l2, z_l3, z_l4, z_l5, z_l23, z_l719, true_and, and_true] at q h1 h2 h5 h6 c9 h12; omega))
      · refine lv_aload_n hx hb dX11_rule_21 rfl (lv_at hl 0 rfl) ?_
        refine z_get (T := TX11) (N := 13) (ci := 11) (i := 0) (v := .ref (ad 21)) hx hb hts zi_X11_rule_X11 hown hK hW rfl rfl 4 (by decide) (hts (.fieldLink RX11 30 "PetrolBoard" "orderBook" "LPetrolBoard$OrderBook;") (List.mem_of_getElem? (i := 1) rfl)) (fun _ h => h) rfl dX11_rule_22 ?_
        refine lv_iload_n hx hb dX11_rule_25 rfl (lv_at hl 1 rfl) ?_
        refine lv_iload_n hx hb dX11_rule_26 rfl (lv_at hl 2 rfl) ?_
        refine z_ci hW hS hA (va_runV (As := [.int a1, .int a2]) (rest := []) ⟨hx, hb, hml, hown, hts⟩ (ct_X6_inForce l G ad a1 a2 _) (cwV 2 hts gX11_rule_X6_inForce rfl rfl rfl (by decide +kernel) ⟨Nat.le_of_ble_eq_true rfl, Nat.le_of_ble_eq_true rfl⟩) (z_preV hK hW rfl rfl) rfl rfl hl.1 rfl (lv_room (Nat.le_of_ble_eq_true rfl)) dX11_rule_27 ⟨Nat.le_of_ble_eq_true rfl, Nat.le_of_ble_eq_true rfl⟩) (fun r u1 H locs hp hW hS => ?_)
        obtain ⟨e9, rfl⟩ := hp
        rw [e9] at hW
        exact z_iret hx hb hr hK hS (Nat.le_of_ble_eq_true rfl) (Nat.le_of_ble_eq_true rfl) hlocks dX11_rule_30 (shX, ad, IX, JX, PX ad) hW (by unfold fr_rule; split <;> first | rfl | decide | (rename_i q; exfalso; simp only [Int32.lt_iff_toInt_lt, Int32.le_iff_toInt_le, ← Int32.toInt_inj, z_l0, z_l1, z_l2, z_l3, z_l4, z_l5, z_l23, z_l719, true_and, and_true] at q h1 h2 h5 h6 c9; omega))
    · refine lv_if_ne (tgt := 16) hx hb dX11_rule_11 (by decide) (fun c15 => absurd (by decide) c15) (fun c15 => ?_)
      refine lv_iconst (v := (-1)) hx hb dX11_rule_14 (by decide) ?_
      exact z_iret hx hb hr hK hS (Nat.le_of_ble_eq_true rfl) (Nat.le_of_ble_eq_true rfl) hlocks dX11_rule_15 (shX, ad, IX, JX, PX ad) hW (by unfold fr_rule; split <;> first | rfl | decide | (rename_i q; exfalso; simp only [Int32.lt_iff_toInt_lt, Int32.le_iff_toInt_le, ← Int32.toInt_inj, z_l0, z_l1, z_l2, z_l3, z_l4, z_l5, z_l23, z_l719, true_and, and_true] at q h1 h2 h7; omega))
  · refine lv_if_eq (tgt := 14) hx hb dX11_rule_4 (by decide) (fun c16 => ?_) (fun c16 => absurd (by decide) c16)
    refine lv_iconst (v := (-1)) hx hb dX11_rule_14 (by decide) ?_
    exact z_iret hx hb hr hK hS (Nat.le_of_ble_eq_true rfl) (Nat.le_of_ble_eq_true rfl) hlocks dX11_rule_15 (shX, ad, IX, JX, PX ad) hW (by unfold fr_rule; split <;> first | rfl | decide | (rename_i q; exfalso; simp only [Int32.lt_iff_toInt_lt, Int32.le_iff_toInt_le, ← Int32.toInt_inj, z_l0, z_l1, z_l2, z_l3, z_l4, z_l5, z_l23, z_l719, true_and, and_true] at q h3; omega))
theorem zi_X11_foretold_X11 : ∀ w ∈ wsX110, w ∈ wsX11_foretold := fun w h => (List.mem_cons_of_mem _ (List.mem_append_left _ (List.mem_append_left _ (List.mem_append_left _ (List.mem_append_left _ (List.mem_append_left _ (List.mem_append_right _ h)))))))
set_option maxHeartbeats 4000000 in
set_option maxRecDepth 100000 in
theorem ct_X11_foretold (l : Launch) (G : z_G) (ad : Nat → Nat) (a1 : Int32) (a2 : Int32) : z_MS l yX11_foretold wsX11_foretold { frames := 4, cells := 0, slots := 0, locals := 86 } [.ref (ad 0), .int a1, .int a2] G (shX, ad, IX, JX, PX ad) (fun r u1 => r = fr_foretold a1) 0 0 := by
  intro sz
  refine z_headS (cc := cX11_foretold) (maxL := 8) (ret := (some .int)) (by decide) rfl (Nat.le_of_ble_eq_true rfl) ?_
  intro p e s m below meth c ls hIn hK hsz hW hl hSt
  obtain ⟨hx, hb, hr, hml, hown, hts, hlocks, hname⟩ := hIn
  subst hsz
  have hown : s.vm.findClass RX11 = some m.cls := hown
  have hA : ∀ q : Nat, s.heap.size ≤ q → z_A (shX, ad, IX, JX, PX ad) s.heap.size q := fun q h => Or.inr h
  generalize hAe : z_A (shX, ad, IX, JX, PX ad) s.heap.size = A at *
  have hS : va_S A s.heap s.heap [] := va_S.rf
  have hl : lv_has ls 8 [(0, .ref (ad 0)), (1, .int a1), (2, .int a2)] := hl
  refine lv_aload_n hx hb dX11_foretold_0 rfl (lv_at hl 0 rfl) ?_
  refine z_get (T := TX11) (N := 13) (ci := 11) (i := 0) (v := .int 0) hx hb hts zi_X11_foretold_X11 hown hK hW rfl rfl 0 (by decide) (hts (.fieldLink RX11 85 "PetrolBoard" "today" "I") (List.mem_of_getElem? (i := 1) rfl)) (fun _ h => h) rfl dX11_foretold_1 ?_
  refine lv_bipush (v := 30) hx hb dX11_foretold_4 (by decide) ?_
  refine lv_idiv hx hb dX11_foretold_6 (by decide) ?_
  refine z_topi (v := 0) (by decide) ?_
  refine lv_istore_n (lv' := [(3, .int 0), (0, .ref (ad 0)), (1, .int a1), (2, .int a2)]) hx hb dX11_foretold_7 rfl hl (by decide) rfl (fun ls hl => ?_)
  refine lv_iload_n hx hb dX11_foretold_8 rfl (lv_at hl 2 rfl) ?_
  refine lv_iconst (v := 1) hx hb dX11_foretold_9 (by decide) ?_
  refine lv_bipush (v := 12) hx hb dX11_foretold_10 (by decide) ?_
  refine z_ci hW hS hA (va_runS (As := [.int a1, .int 1, .int 12]) (rest := []) ⟨hx, hb, hml, hown, hts⟩ (ct_X11_within l G (shX, ad, IX, JX, PX ad) a1 1 12 _) (va_cwS 3 hts gX11_foretold_X11_within rfl rfl rfl (by decide +kernel) ⟨Nat.le_of_ble_eq_true rfl, Nat.le_of_ble_eq_true rfl⟩) (z_preS hK hW) rfl rfl hl.1 rfl (lv_room (Nat.le_of_ble_eq_true rfl)) dX11_foretold_12 ⟨Nat.le_of_ble_eq_true rfl, Nat.le_of_ble_eq_true rfl⟩) (fun r u1 H locs hp hW hS => ?_)
  obtain ⟨e9, hp⟩ := hp
  rw [e9] at hW
  rcases hp with ⟨rfl, h1, h2⟩ | ⟨rfl, h3⟩
  · refine lv_if_eq (tgt := 26) hx hb dX11_foretold_15 (by decide) (fun c4 => absurd c4 (by decide)) (fun c4 => ?_)
    refine lv_iload_n hx hb dX11_foretold_18 rfl (lv_at hl 0 rfl) ?_
    refine lv_iload_n hx hb dX11_foretold_19 rfl (lv_at hl 2 rfl) ?_
    refine lv_iadd hx hb dX11_foretold_20 ?_
    refine z_topi (v := a1) (Int32.zero_add _) ?_
    refine lv_bipush (v := 24) hx hb dX11_foretold_21 (by decide) ?_
    refine lv_icmp_le (tgt := 29) hx hb dX11_foretold_23 (by decide) (fun c5 => ?_) (fun c5 => False.elim (by simp only [Int32.lt_iff_toInt_lt, Int32.le_iff_toInt_le, ← Int32.toInt_inj, z_l1, z_l12, z_l24] at h1 h2 c5; omega))
    refine lv_lconst (v := 0) hx hb dX11_foretold_29 (by decide) ?_
    refine lv_lstore (lv' := [(4, .long 0), (3, .int 0), (0, .ref (ad 0)), (1, .int a1), (2, .int a2)]) hx hb dX11_foretold_30 hl (by decide) rfl (fun ls hl => ?_)
    refine lv_iload_n hx hb dX11_foretold_32 rfl (lv_at hl 1 rfl) ?_
    refine lv_istore (lv' := [(6, .int 0), (4, .long 0), (3, .int 0), (0, .ref (ad 0)), (1, .int a1), (2, .int a2)]) hx hb dX11_foretold_33 hl (by decide) rfl (fun ls hl => ?_)
    have lp6 : ∀ (f : Nat) (y7 : Int32) (H : Heap) (locs : List Loc) (ls : Array Slot), 0 ≤ y7 → y7 ≤ a1 → (a1 : Int32).toInt < y7.toInt + (f : Int) → z_W G A (shX, ad, IX, JX, PX ad) H → va_S A s.heap H locs → lv_has ls 8 [(6, .int y7), (4, .long 0), (3, .int 0), (0, .ref (ad 0)), (1, .int a1), (2, .int a2)] → W p l e (headSpec wsX11_foretold { frames := 4, cells := 0, slots := 0, locals := 86 }).room s m ([.ref (ad 0), .int a1, .int a2] : List Value).toArray below meth c H locs 0 0 (MQ below (va_Qi (fun (r : Int32) (u1 : z_U) => r = fr_foretold a1) (z_B G A) A) ([.ref (ad 0), .int a1, .int a2] : List Value).toArray s 0 0 A) (F0 m 35 ls []) := by
      intro f
      induction f with
      | zero => intro y7 H locs ls lp61 lp62 lp63; exact (z_zero lp62 lp63).elim
      | succ f lp6ih =>
        intro y7 H locs ls lp61 lp62 lp63 hW hS hl
        refine lv_iload hx hb dX11_foretold_35 (lv_at hl 0 rfl) ?_
        refine lv_iload_n hx hb dX11_foretold_37 rfl (lv_at hl 2 rfl) ?_
        refine lv_iload_n hx hb dX11_foretold_38 rfl (lv_at hl 4 rfl) ?_
        refine lv_iadd hx hb dX11_foretold_39 ?_
        refine z_topi (v := a1) (Int32.zero_add _) ?_
        refine lv_icmp_ge (tgt := 78) hx hb dX11_foretold_40 (by decide) (fun c8 => ?_) (fun c8 => ?_)
        · refine lv_ldc2 (v := 100) hx hb hown (hts (.constantLong RX11 392 (100)) (List.mem_of_getElem? (i := 4) rfl)) dX11_foretold_78 ?_
          refine lv_aload_n hx hb dX11_foretold_81 rfl (lv_at hl 3 rfl) ?_
          refine z_get (T := TX11) (N := 13) (ci := 11) (i := 0) (v := .ref (ad 41)) hx hb hts zi_X11_foretold_X11 hown hK hW rfl rfl 10 (by decide) (hts (.fieldLink RX11 61 "PetrolBoard" "loads" "LPetrolBoard$Loads;") (List.mem_of_getElem? (i := 5) rfl)) (fun _ h => h) rfl dX11_foretold_82 ?_
          refine z_ci hW hS hA (va_runV (As := []) (rest := [.long 100]) ⟨hx, hb, hml, hown, hts⟩ (ct_X4_inPorts l G ad  _) (cwV 0 hts gX11_foretold_X4_inPorts rfl rfl rfl (by decide +kernel) ⟨Nat.le_of_ble_eq_true rfl, Nat.le_of_ble_eq_true rfl⟩) (z_preV hK hW rfl rfl) rfl rfl hl.1 rfl (lv_room (Nat.le_of_ble_eq_true rfl)) dX11_foretold_85 ⟨Nat.le_of_ble_eq_true rfl, Nat.le_of_ble_eq_true rfl⟩) (fun r u1 H locs hp hW hS => ?_)
          obtain ⟨e9, rfl⟩ := hp
          rw [e9] at hW
          refine lv_i2l (v := 0) hx hb dX11_foretold_88 (by decide) ?_
          refine lv_lmul hx hb dX11_foretold_89 ?_
          refine z_topl (v := 0) (by decide) ?_
          refine lv_lload hx hb dX11_foretold_90 (lv_at hl 1 rfl) ?_
          refine lv_ldc2 (v := 9) hx hb hown (hts (.constantLong RX11 398 (9)) (List.mem_of_getElem? (i := 6) rfl)) dX11_foretold_92 ?_
          refine lv_ladd hx hb dX11_foretold_95 ?_
          refine z_topl (v := 9) (by decide) ?_
          refine lv_ldc2 (v := 10) hx hb hown (hts (.constantLong RX11 400 (10)) (List.mem_of_getElem? (i := 7) rfl)) dX11_foretold_96 ?_
          refine lv_ldiv hx hb dX11_foretold_99 (by decide) ?_
          refine z_topl (v := 0) (by decide) ?_
          refine lv_lsub hx hb dX11_foretold_100 ?_
          refine z_topl (v := 0) (by decide) ?_
          refine lv_lstore (lv' := [(6, .long 0), (4, .long 0), (3, .int 0), (0, .ref (ad 0)), (1, .int a1), (2, .int a2)]) hx hb dX11_foretold_101 hl (by decide) rfl (fun ls hl => ?_)
          refine lv_ldc2 (v := (-1999999999)) hx hb hown (hts (.constantLong RX11 402 (-1999999999)) (List.mem_of_getElem? (i := 8) rfl)) dX11_foretold_103 ?_
          refine lv_lload hx hb dX11_foretold_106 (lv_at hl 0 rfl) ?_
          refine va_mmax_long (x := (-1999999999)) (y := 0) hx hb (hml.trans hl.1.symm) hown (hts (.methodLink RX11 404 Lib.MathLoose.max_long.x) (List.mem_of_getElem? (i := 9) rfl)) (hts (.static Lib.MathLoose.max_long.x) (List.mem_of_getElem? (i := 10) rfl)) (hts (.initialized "java/lang/Math") (List.mem_of_getElem? (i := 11) rfl)) (hts (.code Lib.MathLoose.max_long.x Lib.MathLoose.max_long.code 4 (some .long)) (List.mem_of_getElem? (i := 12) rfl)) (Nat.le_of_ble_eq_true rfl) (Nat.le_of_ble_eq_true rfl) (Nat.le_of_ble_eq_true rfl) (Nat.le_of_ble_eq_true rfl) dX11_foretold_108 ?_
          refine z_topl (v := 0) (by decide) ?_
          refine lv_l2i (v := 0) hx hb dX11_foretold_111 (by decide) ?_
          exact z_iret hx hb hr hK hS (Nat.le_of_ble_eq_true rfl) (Nat.le_of_ble_eq_true rfl) hlocks dX11_foretold_112 (shX, ad, IX, JX, PX ad) hW (by unfold fr_foretold; split <;> first | rfl | decide | (rename_i q; exfalso; simp only [Int32.lt_iff_toInt_lt, Int32.le_iff_toInt_le, ← Int32.toInt_inj, z_l0, z_l1, z_l12, true_and, and_true] at q h1 h2 lp61 lp62 c8; omega))
        · refine lv_lload hx hb dX11_foretold_43 (lv_at hl 1 rfl) ?_
          refine lv_aload_n hx hb dX11_foretold_45 rfl (lv_at hl 3 rfl) ?_
          refine z_get (T := TX11) (N := 13) (ci := 11) (i := 0) (v := .ref (ad 21)) hx hb hts zi_X11_foretold_X11 hown hK hW rfl rfl 4 (by decide) (hts (.fieldLink RX11 30 "PetrolBoard" "orderBook" "LPetrolBoard$OrderBook;") (List.mem_of_getElem? (i := 3) rfl)) (fun _ h => h) rfl dX11_foretold_46 ?_
          refine lv_iconst (v := 0) hx hb dX11_foretold_49 (by decide) ?_
          refine lv_iload hx hb dX11_foretold_50 (lv_at hl 0 rfl) ?_
          refine lv_aload_n hx hb dX11_foretold_52 rfl (lv_at hl 3 rfl) ?_
          refine z_get (T := TX11) (N := 13) (ci := 11) (i := 0) (v := .int 0) hx hb hts zi_X11_foretold_X11 hown hK hW rfl rfl 0 (by decide) (hts (.fieldLink RX11 85 "PetrolBoard" "today" "I") (List.mem_of_getElem? (i := 1) rfl)) (fun _ h => h) rfl dX11_foretold_53 ?_
          refine z_ci hW hS hA (va_runV (As := [.int 0, .int y7, .int 0]) (rest := [.long 0]) ⟨hx, hb, hml, hown, hts⟩ (ct_X6_amount l G ad 0 y7 0 (by decide) (by decide) _) (cwV 3 hts gX11_foretold_X6_amount rfl rfl rfl (by decide +kernel) ⟨Nat.le_of_ble_eq_true rfl, Nat.le_of_ble_eq_true rfl⟩) (z_preVS hK hW hS hA hSt rfl rfl) rfl rfl hl.1 rfl (lv_room (Nat.le_of_ble_eq_true rfl)) dX11_foretold_56 ⟨Nat.le_of_ble_eq_true rfl, Nat.le_of_ble_eq_true rfl⟩) (fun r u1 H locs hp hW hS => ?_)
          obtain ⟨e9, rfl⟩ := hp
          rw [e9] at hW
          refine z_topi (v := 10) (by decide) ?_
          refine lv_i2l (v := 10) hx hb dX11_foretold_59 (by decide) ?_
          refine lv_aload_n hx hb dX11_foretold_60 rfl (lv_at hl 3 rfl) ?_
          refine lv_iload hx hb dX11_foretold_61 (lv_at hl 0 rfl) ?_
          refine lv_iload_n hx hb dX11_foretold_63 rfl (lv_at hl 5 rfl) ?_
          refine z_ci hW hS hA (va_runV (As := [.int y7, .int a2]) (rest := [.long 10, .long 0]) ⟨hx, hb, hml, hown, hts⟩ (ct_X11_unitsTogether l G ad y7 a2 _) (cwV 2 hts gX11_foretold_X11_unitsTogether rfl rfl rfl (by decide +kernel) ⟨Nat.le_of_ble_eq_true rfl, Nat.le_of_ble_eq_true rfl⟩) (z_preV hK hW rfl rfl) rfl rfl hl.1 rfl (lv_room (Nat.le_of_ble_eq_true rfl)) dX11_foretold_64 ⟨Nat.le_of_ble_eq_true rfl, Nat.le_of_ble_eq_true rfl⟩) (fun r u1 H locs hp hW hS => ?_)
          obtain ⟨e9, rfl⟩ := hp
          rw [e9] at hW
          refine lv_i2l (v := 0) hx hb dX11_foretold_67 (by decide) ?_
          refine lv_lmul hx hb dX11_foretold_68 ?_
          refine z_topl (v := 0) (by decide) ?_
          refine lv_ladd hx hb dX11_foretold_69 ?_
          refine z_topl (v := 0) (by decide) ?_
          refine lv_lstore (lv' := [(4, .long 0), (6, .int y7), (3, .int 0), (0, .ref (ad 0)), (1, .int a1), (2, .int a2)]) hx hb dX11_foretold_70 hl (by decide) rfl (fun ls hl => ?_)
          obtain ⟨x9, ex9⟩ : ∃ y : Int32, y = y7 + 1 := ⟨_, rfl⟩
          refine lv_iinc (v := x9) (lv' := [(6, .int x9), (4, .long 0), (3, .int 0), (0, .ref (ad 0)), (1, .int a1), (2, .int a2)]) hx hb dX11_foretold_72 hl (k := 1) rfl (by rw [ex9]; rfl) (by decide) rfl (fun ls hl => ?_)
          refine lv_goto (tgt := 35) hx hb dX11_foretold_75 (by decide) ?_
          obtain ⟨z10a, z10b, z10c⟩ := z_step ex9 lp61 c8 lp63
          exact lp6ih x9 H locs ls z10a z10b z10c hW hS (lv_sub hl [0, 1, 2, 3, 4, 5] rfl)
    exact lp6 13 0 H locs ls (by decide) (by simp only [Int32.le_iff_toInt_le, z_l0, z_l1, z_l12] at h1 h2 ⊢; omega) (by simp only [Int32.le_iff_toInt_le, z_l0, z_l1, z_l12] at h1 h2 ⊢; omega) hW hS hl
  · refine lv_if_eq (tgt := 26) hx hb dX11_foretold_15 (by decide) (fun c11 => ?_) (fun c11 => absurd (by decide) c11)
    refine lv_ldc (v := (-2000000000)) hx hb hown (hts (.constant RX11 241 (-2000000000)) (List.mem_of_getElem? (i := 2) rfl)) dX11_foretold_26 ?_
    exact z_iret hx hb hr hK hS (Nat.le_of_ble_eq_true rfl) (Nat.le_of_ble_eq_true rfl) hlocks dX11_foretold_28 (shX, ad, IX, JX, PX ad) hW (by unfold fr_foretold; split <;> first | rfl | decide | (rename_i q; exfalso; simp only [Int32.lt_iff_toInt_lt, Int32.le_iff_toInt_le, ← Int32.toInt_inj, z_l0, z_l1, z_l12, true_and, and_true] at q h3; omega))
