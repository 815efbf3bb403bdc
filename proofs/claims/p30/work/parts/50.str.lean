theorem dJ0_coder_7d493_0 : decode cJ0_coder_7d493 0 = .ok (.getstatic 38, 3) := z_dd_178 (by decide +kernel)
theorem dJ0_coder_7d493_3 : decode cJ0_coder_7d493 3 = .ok (.ifCond .eq 10, 3) := z_dd_153 (by decide +kernel)
theorem dJ0_coder_7d493_6 : decode cJ0_coder_7d493 6 = .ok (.aload_n 0, 1) := z_dd_42 (by decide +kernel)
theorem dJ0_coder_7d493_7 : decode cJ0_coder_7d493 7 = .ok (.getfield 15, 3) := z_dd_180 (by decide +kernel)
theorem dJ0_coder_7d493_10 : decode cJ0_coder_7d493 10 = .ok (.goto 4, 3) := z_dd_167 (by decide +kernel)
theorem dJ0_coder_7d493_14 : decode cJ0_coder_7d493 14 = .ok (.ireturn, 1) := z_dd_172 (by decide +kernel)
theorem dJ0_isLatin1_aae02_0 : decode cJ0_isLatin1_aae02 0 = .ok (.getstatic 38, 3) := z_dd_178 (by decide +kernel)
theorem dJ0_isLatin1_aae02_3 : decode cJ0_isLatin1_aae02 3 = .ok (.ifCond .eq 14, 3) := z_dd_153 (by decide +kernel)
theorem dJ0_isLatin1_aae02_6 : decode cJ0_isLatin1_aae02 6 = .ok (.aload_n 0, 1) := z_dd_42 (by decide +kernel)
theorem dJ0_isLatin1_aae02_7 : decode cJ0_isLatin1_aae02 7 = .ok (.getfield 15, 3) := z_dd_180 (by decide +kernel)
theorem dJ0_isLatin1_aae02_10 : decode cJ0_isLatin1_aae02 10 = .ok (.ifCond .ne 7, 3) := z_dd_154 (by decide +kernel)
theorem dJ0_isLatin1_aae02_13 : decode cJ0_isLatin1_aae02 13 = .ok (.iconst 1, 1) := z_dd_4 (by decide +kernel)
theorem dJ0_isLatin1_aae02_14 : decode cJ0_isLatin1_aae02 14 = .ok (.goto 4, 3) := z_dd_167 (by decide +kernel)
theorem dJ0_isLatin1_aae02_18 : decode cJ0_isLatin1_aae02 18 = .ok (.ireturn, 1) := z_dd_172 (by decide +kernel)
theorem dJ0_length_8abf5_0 : decode cJ0_length_8abf5 0 = .ok (.aload_n 0, 1) := z_dd_42 (by decide +kernel)
theorem dJ0_length_8abf5_1 : decode cJ0_length_8abf5 1 = .ok (.getfield 9, 3) := z_dd_180 (by decide +kernel)
theorem dJ0_length_8abf5_4 : decode cJ0_length_8abf5 4 = .ok (.arraylength, 1) := z_dd_190 (by decide +kernel)
theorem dJ0_length_8abf5_5 : decode cJ0_length_8abf5 5 = .ok (.aload_n 0, 1) := z_dd_42 (by decide +kernel)
set_option maxRecDepth 20000 in
theorem ggJ0_length_8abf5_J0_coder_7d493 : GoodIn wsJ0_length_8abf5 wsJ0_coder_7d493 := goodIn_sub (fa_c (me_s (List.mem_of_getElem? (i := 5) rfl)) (fa_c (me_s (List.mem_of_getElem? (i := 6) rfl)) (fa_c (me_s (List.mem_of_getElem? (i := 7) rfl)) fa_n))) (by decide +kernel)
set_option maxRecDepth 20000 in
theorem gJ0_length_8abf5_J0_coder_7d493 : GoodIn wsJ0_length_8abf5 (wsV RJ0 335 RJ0 yJ0_coder_7d493 wsJ0_coder_7d493) := goodIn_app (goodIn_sub (fa_c (me_s (List.mem_of_getElem? (i := 1) rfl)) (fa_c (me_s (List.mem_of_getElem? (i := 2) rfl)) (fa_c (me_s (List.mem_of_getElem? (i := 3) rfl)) (fa_c (me_s (List.mem_of_getElem? (i := 4) rfl)) fa_n)))) (by decide +kernel)) ggJ0_length_8abf5_J0_coder_7d493
theorem dJ0_length_8abf5_6 : decode cJ0_length_8abf5 6 = .ok (.invokevirtual 335, 3) := z_dd_182 (by decide +kernel)
theorem dJ0_length_8abf5_9 : decode cJ0_length_8abf5 9 = .ok (.ishr, 1) := z_dd_122 (by decide +kernel)
theorem dJ0_length_8abf5_10 : decode cJ0_length_8abf5 10 = .ok (.ireturn, 1) := z_dd_172 (by decide +kernel)
theorem dJ3_checkIndex_8e157_0 : decode cJ3_checkIndex_8e157 0 = .ok (.iload_n 0, 1) := z_dd_26 (by decide +kernel)
theorem dJ3_checkIndex_8e157_1 : decode cJ3_checkIndex_8e157 1 = .ok (.ifCond .lt 8, 3) := z_dd_155 (by decide +kernel)
theorem dJ3_checkIndex_8e157_4 : decode cJ3_checkIndex_8e157 4 = .ok (.iload_n 0, 1) := z_dd_26 (by decide +kernel)
theorem dJ3_checkIndex_8e157_5 : decode cJ3_checkIndex_8e157 5 = .ok (.iload_n 1, 1) := z_dd_27 (by decide +kernel)
theorem dJ3_checkIndex_8e157_6 : decode cJ3_checkIndex_8e157 6 = .ok (.if_icmp .lt 10, 3) := z_dd_161 (by decide +kernel)
theorem dJ3_checkIndex_8e157_16 : decode cJ3_checkIndex_8e157 16 = .ok (.iload_n 0, 1) := z_dd_26 (by decide +kernel)
theorem dJ3_checkIndex_8e157_17 : decode cJ3_checkIndex_8e157 17 = .ok (.ireturn, 1) := z_dd_172 (by decide +kernel)
theorem dJ0_checkIndex_df160_0 : decode cJ0_checkIndex_df160 0 = .ok (.iload_n 0, 1) := z_dd_26 (by decide +kernel)
theorem dJ0_checkIndex_df160_1 : decode cJ0_checkIndex_df160 1 = .ok (.iload_n 1, 1) := z_dd_27 (by decide +kernel)
theorem dJ0_checkIndex_df160_2 : decode cJ0_checkIndex_df160 2 = .ok (.getstatic 1053, 3) := z_dd_178 (by decide +kernel)
set_option maxRecDepth 20000 in
theorem ggJ0_checkIndex_df160_J3_checkIndex_8e157 : GoodIn wsJ0_checkIndex_df160 wsJ3_checkIndex_8e157 := goodIn_sub (fa_c (me_s (List.mem_of_getElem? (i := 4) rfl)) fa_n) (by decide +kernel)
set_option maxRecDepth 20000 in
theorem gJ0_checkIndex_df160_J3_checkIndex_8e157 : GoodIn wsJ0_checkIndex_df160 (va_wsS RJ0 1059 yJ3_checkIndex_8e157 wsJ3_checkIndex_8e157) := goodIn_app (goodIn_sub (fa_c (me_s (List.mem_of_getElem? (i := 1) rfl)) (fa_c (me_s (List.mem_of_getElem? (i := 2) rfl)) (fa_c (me_s (List.mem_of_getElem? (i := 3) rfl)) fa_n))) (by decide +kernel)) ggJ0_checkIndex_df160_J3_checkIndex_8e157
theorem dJ0_checkIndex_df160_5 : decode cJ0_checkIndex_df160 5 = .ok (.invokestatic 1059, 3) := z_dd_184 (by decide +kernel)
theorem dJ0_checkIndex_df160_8 : decode cJ0_checkIndex_df160 8 = .ok (.pop, 1) := z_dd_87 (by decide +kernel)
theorem dJ0_checkIndex_df160_9 : decode cJ0_checkIndex_df160 9 = .ok (.return_, 1) := z_dd_177 (by decide +kernel)
theorem dJ1_charAt_3b067_0 : decode cJ1_charAt_3b067 0 = .ok (.iload_n 1, 1) := z_dd_27 (by decide +kernel)
theorem dJ1_charAt_3b067_1 : decode cJ1_charAt_3b067 1 = .ok (.aload_n 0, 1) := z_dd_42 (by decide +kernel)
theorem dJ1_charAt_3b067_2 : decode cJ1_charAt_3b067 2 = .ok (.arraylength, 1) := z_dd_190 (by decide +kernel)
set_option maxRecDepth 20000 in
theorem ggJ1_charAt_3b067_J0_checkIndex_df160 : GoodIn wsJ1_charAt_3b067 wsJ0_checkIndex_df160 := goodIn_sub (fa_c (me_s (List.mem_of_getElem? (i := 3) rfl)) (fa_c (me_s (List.mem_of_getElem? (i := 4) rfl)) (fa_c (me_s (List.mem_of_getElem? (i := 5) rfl)) (fa_c (me_s (List.mem_of_getElem? (i := 6) rfl)) (fa_c (me_s (List.mem_of_getElem? (i := 7) rfl)) (fa_c (me_s (List.mem_of_getElem? (i := 8) rfl)) fa_n)))))) (by decide +kernel)
set_option maxRecDepth 20000 in
theorem gJ1_charAt_3b067_J0_checkIndex_df160 : GoodIn wsJ1_charAt_3b067 (va_wsS RJ1 9 yJ0_checkIndex_df160 wsJ0_checkIndex_df160) := goodIn_app (goodIn_sub (fa_c (me_s (List.mem_of_getElem? (i := 0) rfl)) (fa_c (me_s (List.mem_of_getElem? (i := 1) rfl)) (fa_c (me_s (List.mem_of_getElem? (i := 2) rfl)) fa_n))) (by decide +kernel)) ggJ1_charAt_3b067_J0_checkIndex_df160
theorem dJ1_charAt_3b067_3 : decode cJ1_charAt_3b067 3 = .ok (.invokestatic 9, 3) := z_dd_184 (by decide +kernel)
theorem dJ1_charAt_3b067_6 : decode cJ1_charAt_3b067 6 = .ok (.aload_n 0, 1) := z_dd_42 (by decide +kernel)
theorem dJ1_charAt_3b067_7 : decode cJ1_charAt_3b067 7 = .ok (.iload_n 1, 1) := z_dd_27 (by decide +kernel)
theorem dJ1_charAt_3b067_8 : decode cJ1_charAt_3b067 8 = .ok (.baload, 1) := z_dd_51 (by decide +kernel)
theorem dJ1_charAt_3b067_9 : decode cJ1_charAt_3b067 9 = .ok (.sipush 255, 3) := z_dd_17 (by decide +kernel)
theorem dJ1_charAt_3b067_12 : decode cJ1_charAt_3b067 12 = .ok (.iand, 1) := z_dd_126 (by decide +kernel)
theorem dJ1_charAt_3b067_13 : decode cJ1_charAt_3b067 13 = .ok (.i2c, 1) := z_dd_146 (by decide +kernel)
theorem dJ1_charAt_3b067_14 : decode cJ1_charAt_3b067 14 = .ok (.ireturn, 1) := z_dd_172 (by decide +kernel)
theorem dJ0_charAt_5068e_0 : decode cJ0_charAt_5068e 0 = .ok (.aload_n 0, 1) := z_dd_42 (by decide +kernel)
set_option maxRecDepth 20000 in
theorem ggJ0_charAt_5068e_J0_isLatin1_aae02 : GoodIn wsJ0_charAt_5068e wsJ0_isLatin1_aae02 := goodIn_sub (fa_c (me_s (me_l (List.mem_of_getElem? (i := 5) rfl))) (fa_c (me_s (me_l (List.mem_of_getElem? (i := 6) rfl))) (fa_c (me_s (me_l (List.mem_of_getElem? (i := 7) rfl))) fa_n))) (by decide +kernel)
set_option maxRecDepth 20000 in
theorem gJ0_charAt_5068e_J0_isLatin1_aae02 : GoodIn wsJ0_charAt_5068e (wsV RJ0 492 RJ0 yJ0_isLatin1_aae02 wsJ0_isLatin1_aae02) := goodIn_app (goodIn_sub (fa_c (me_s (me_l (List.mem_of_getElem? (i := 1) rfl))) (fa_c (me_s (me_l (List.mem_of_getElem? (i := 2) rfl))) (fa_c (me_s (me_l (List.mem_of_getElem? (i := 3) rfl))) (fa_c (me_s (me_l (List.mem_of_getElem? (i := 4) rfl))) fa_n)))) (by decide +kernel)) ggJ0_charAt_5068e_J0_isLatin1_aae02
theorem dJ0_charAt_5068e_1 : decode cJ0_charAt_5068e 1 = .ok (.invokevirtual 492, 3) := z_dd_182 (by decide +kernel)
theorem dJ0_charAt_5068e_4 : decode cJ0_charAt_5068e 4 = .ok (.ifCond .eq 12, 3) := z_dd_153 (by decide +kernel)
theorem dJ0_charAt_5068e_7 : decode cJ0_charAt_5068e 7 = .ok (.aload_n 0, 1) := z_dd_42 (by decide +kernel)
theorem dJ0_charAt_5068e_8 : decode cJ0_charAt_5068e 8 = .ok (.getfield 9, 3) := z_dd_180 (by decide +kernel)
theorem dJ0_charAt_5068e_11 : decode cJ0_charAt_5068e 11 = .ok (.iload_n 1, 1) := z_dd_27 (by decide +kernel)
set_option maxRecDepth 20000 in
theorem ggJ0_charAt_5068e_J1_charAt_3b067 : GoodIn wsJ0_charAt_5068e wsJ1_charAt_3b067 := goodIn_sub (fa_c (me_s (me_l (List.mem_of_getElem? (i := 11) rfl))) (fa_c (me_s (me_l (List.mem_of_getElem? (i := 12) rfl))) (fa_c (me_s (me_l (List.mem_of_getElem? (i := 13) rfl))) (fa_c (me_s (me_l (List.mem_of_getElem? (i := 4) rfl))) (fa_c (me_s (me_l (List.mem_of_getElem? (i := 14) rfl))) (fa_c (me_s (me_l (List.mem_of_getElem? (i := 15) rfl))) (fa_c (me_s (me_l (List.mem_of_getElem? (i := 16) rfl))) (fa_c (me_s (me_l (List.mem_of_getElem? (i := 17) rfl))) (fa_c (me_s (me_l (List.mem_of_getElem? (i := 18) rfl))) (fa_c (me_s (me_l (List.mem_of_getElem? (i := 19) rfl))) fa_n)))))))))) (by decide +kernel)
set_option maxRecDepth 20000 in
theorem gJ0_charAt_5068e_J1_charAt_3b067 : GoodIn wsJ0_charAt_5068e (va_wsS RJ0 495 yJ1_charAt_3b067 wsJ1_charAt_3b067) := goodIn_app (goodIn_sub (fa_c (me_s (me_l (List.mem_of_getElem? (i := 8) rfl))) (fa_c (me_s (me_l (List.mem_of_getElem? (i := 9) rfl))) (fa_c (me_s (me_l (List.mem_of_getElem? (i := 10) rfl))) fa_n))) (by decide +kernel)) ggJ0_charAt_5068e_J1_charAt_3b067
theorem dJ0_charAt_5068e_12 : decode cJ0_charAt_5068e 12 = .ok (.invokestatic 495, 3) := z_dd_184 (by decide +kernel)
theorem dJ0_charAt_5068e_15 : decode cJ0_charAt_5068e 15 = .ok (.ireturn, 1) := z_dd_172 (by decide +kernel)

/-! knowledge that lies outside all that is written: kept by whoever calls -/
noncomputable def z_Nice (K : (Nat → Prop) → State → Heap → Prop) : Prop := (∀ A u U H, U.vm = u.vm → K A u H → K A U H) ∧ (∀ (A : Nat → Prop) (s U : State) (H : Heap), s.WarmedH U.vm → K A s H → K A U H) ∧ (∀ (A : Nat → Prop) (U : State) (H H1 : Heap), K A U H → (∀ a : Nat, a < H.size → ¬ A a → H1[a]? = H[a]?) → K A U H1) ∧ (∀ (A B : Nat → Prop) (U : State) (H : Heap), K A U H → (∀ q, B q → A q) → K B U H)
noncomputable def z_PcN (K : (Nat → Prop) → State → Heap → Prop) (G : z_G) (u : z_U) (av : List Value) (sz : Nat) : Array Value → State → Prop := va_Pc av (fun U => U.heap.size = sz ∧ z_B G (z_A u sz) u U ∧ K (z_A u sz) U U.heap)
theorem z_PcN.blind {K : (Nat → Prop) → State → Heap → Prop} (hN : z_Nice K) {G : z_G} {u : z_U} {av : List Value} {sz : Nat} : FrameBlind (z_PcN K G u av sz) := by
  intro a U g mk h
  obtain ⟨h1, h2, ⟨h3, h4⟩, h5⟩ := h
  exact ⟨h1, h2, ⟨z_K.same (u := U) (U := U.calling g mk a) rfl h3, h4⟩, hN.1 _ U _ _ rfl h5⟩
noncomputable def z_MN (K : (Nat → Prop) → State → Heap → Prop) (l : Launch) (y : MethodName) (ws : List Cond) (rm : Room) (av : List Value) (G : z_G) (u : z_U) (post : Int32 → z_U → Prop) (mc ms : Nat) : Prop := ∀ sz : Nat, Met l y ws rm (z_PcN K G u av sz) (va_Qi post (z_B G (z_A u sz)) (z_A u sz)) mc ms (z_A u sz)
noncomputable def z_MvN (K : (Nat → Prop) → State → Heap → Prop) (l : Launch) (y : MethodName) (ws : List Cond) (rm : Room) (av : List Value) (G : z_G) (u : z_U) (post : z_U → Prop) (mc ms : Nat) : Prop := ∀ sz : Nat, Met l y ws rm (z_PcN K G u av sz) (va_Qv post (z_B G (z_A u sz)) (z_A u sz)) mc ms (z_A u sz)
noncomputable def z_MqN (K : (Nat → Prop) → State → Heap → Prop) (l : Launch) (y : MethodName) (ws : List Cond) (rm : Room) (av : List Value) (G : z_G) (u : z_U) (post : Option Nat → z_U → Prop) (mc ms : Nat) : Prop := ∀ sz : Nat, Met l y ws rm (z_PcN K G u av sz) (va_Qq post (z_B G (z_A u sz)) (z_A u sz)) mc ms (z_A u sz)
section ZNN
variable {K : (Nat → Prop) → State → Heap → Prop} {G : z_G} {A : Nat → Prop} {u : z_U} {s : State} {H : Heap} {locs : List Loc} {As : List Value}
theorem z_KN (hN : z_Nice K) (hW : z_W G A u H) (hS : va_S A s.heap H locs) (hA : ∀ q : Nat, s.heap.size ≤ q → A q) (hKn : K A s s.heap) : K (z_A u H.size) s H := hN.2.2.2 _ _ _ _ (hN.2.2.1 _ _ _ _ hKn (fun q g1 g2 => hS.2.1 q g1 g2)) (hW.free hS hA)
theorem z_preVN (hN : z_Nice K) {i ci : Nat} {C : String} {T : u_T} {N : Nat} (hK : z_K G s) (hW : z_W G A u H) (hS : va_S A s.heap H locs) (hA : ∀ q : Nat, s.heap.size ≤ q → A q) (hKn : K A s s.heap) (hi : u.1 i = some (.inr ci)) (hc : vwCl[ci]? = some (C, T, N)) : PreV s H C (u.2.1 i) (z_PcN K G u (.ref (u.2.1 i) :: As) H.size) As :=
  ⟨z_PcN.blind hN, (z_preV (As := As) hK hW hi hc).2.1, fun U hU hWm => ⟨rfl, by rw [hU], ⟨hK.warm hWm, by rw [hU]; exact hW.self⟩, by rw [hU]; exact hN.2.1 _ _ _ _ hWm (z_KN hN hW hS hA hKn)⟩⟩
theorem z_preSN (hN : z_Nice K) (hK : z_K G s) (hW : z_W G A u H) (hS : va_S A s.heap H locs) (hA : ∀ q : Nat, s.heap.size ≤ q → A q) (hKn : K A s s.heap) : PreS s H (z_PcN K G u As H.size) As :=
  ⟨z_PcN.blind hN, fun U hU hWm => ⟨rfl, by rw [hU], ⟨hK.warm hWm, by rw [hU]; exact hW.self⟩, by rw [hU]; exact hN.2.1 _ _ _ _ hWm (z_KN hN hW hS hA hKn)⟩⟩
/-- the receiver is an object that is only known -/
theorem z_preKN (hN : z_Nice K) {C : String} {b : Nat} (hK : z_K G s) (hW : z_W G A u H) (hS : va_S A s.heap H locs) (hA : ∀ q : Nat, s.heap.size ≤ q → A q) (hKn : K A s s.heap) (hr : ∃ cell : Cell, H[b]? = some cell ∧ cell.vm.isStatics = false ∧ s.vm.findClass C = some cell.cls) : PreV s H C b (z_PcN K G u (.ref b :: As) H.size) As :=
  ⟨z_PcN.blind hN, hr, fun U hU hWm => ⟨rfl, by rw [hU], ⟨hK.warm hWm, by rw [hU]; exact hW.self⟩, by rw [hU]; exact hN.2.1 _ _ _ _ hWm (z_KN hN hW hS hA hKn)⟩⟩
end ZNN
theorem z_headN {K : (Nat → Prop) → State → Heap → Prop} {l : Launch} {y : MethodName} {ws ws' : List Cond} {rm : Room} {av : List Value} {G : z_G} {u : z_U} {sz mc ms maxL : Nat} {cc : ByteArray} {ret : Option FieldType} {Qc : Array Value → State → Outcome → State → Prop} (hy : plainName y.cls = true) (hw : ws = Cond.code y cc maxL ret :: ws') (hlen : (lg_sl av).length ≤ maxL)
    (body : ∀ (p : Program) (e : Env) (s : State) (m : MethodId) (below : List Frame) (meth : Method) (c : Code) (ls : Array Slot), z_In p s m meth c y cc maxL ret ws av → z_K G s → s.heap.size = sz → z_W G (z_A u sz) u s.heap → lv_has ls maxL (lv_args 0 av) → K (z_A u sz) s s.heap →
      W p l e (headSpec ws rm).room s m av.toArray below meth c s.heap [] 0 0 (MQ below Qc av.toArray s mc ms (z_A u sz)) (F0 m 0 ls [])) : Met l y ws rm (z_PcN K G u av sz) Qc mc ms (z_A u sz) := by
  refine Met.ofW (cc := cc) (maxL := maxL) (ret := ret) hy hw ?_
  intro p e s m args below meth c s₁ B hml hv
  obtain ⟨rfl, hsz, ⟨hK, hW⟩, hKn⟩ := hv
  have hts := atoms_spec (ws := ws) B.pre
  have hown : s.vm.findClass y.cls = some m.cls := findClass_of_methodNamed B.named
  rw [lg_entry_eq]
  exact body p e s m below meth c _ ⟨B.exec, B.bytes, B.returns, hml, hown, hts, B.notSynchronized, (name_of_methodNamed B.named B.method).1⟩ hK hsz hW (lv_entry av hlen) hKn
/-! the words: constants of the class -/
noncomputable def z_txS : List String := ["units", "trip", "stop", "worth", "lapse", "lend", "waste", "doubt", "if", "or", "and", "not", "least", "most", "class", "size", "town", "month", "miles", "people", "reason"]
noncomputable def z_lenS : List Nat := [5, 4, 4, 5, 5, 4, 5, 5, 2, 2, 3, 3, 5, 4, 5, 4, 4, 5, 5, 6, 6]
noncomputable def z_bytS : List (List Int32) := [[117, 110, 105, 116, 115], [116, 114, 105, 112], [115, 116, 111, 112], [119, 111, 114, 116, 104], [108, 97, 112, 115, 101], [108, 101, 110, 100], [119, 97, 115, 116, 101], [100, 111, 117, 98, 116], [105, 102], [111, 114], [97, 110, 100], [110, 111, 116], [108, 101, 97, 115, 116], [109, 111, 115, 116], [99, 108, 97, 115, 115], [115, 105, 122, 101], [116, 111, 119, 110], [109, 111, 110, 116, 104], [109, 105, 108, 101, 115], [112, 101, 111, 112, 108, 101], [114, 101, 97, 115, 111, 110]]
noncomputable def z_Ck (adK adV : Nat → Nat) (A : Nat → Prop) (U : State) (H : Heap) : Prop := vk_S 21 z_lenS z_bytS adK adV A U H ∧ (∀ i : Nat, i < 21 → vk_R "PetrolBoard$Reader" (160 + 2 * i) (z_txS.getD i "") (adK i) U) ∧ va_Z "java/lang/String" "COMPACT_STRINGS" "Z" (.int 1) A U H ∧ va_Zq "jdk/internal/util/Preconditions" "SIOOBE_FORMATTER" "Ljava/util/function/BiFunction;" A U H
theorem z_Ck.nice (adK adV : Nat → Nat) : z_Nice (z_Ck adK adV) := by
  refine ⟨fun A u U H hv h => ?_, fun A s U H hW h => ?_, fun A U H H1 h hq => ?_, fun A B U H h hAB => ?_⟩
  · have ha : u.vm.Alike U.vm := hv ▸ Vm.Alike.refl U.vm
    exact ⟨vk_S.moved ha h.1, fun i hi => vk_R.same hv (h.2.1 i hi), va_Z.moved ha h.2.2.1, va_Zq.moved ha h.2.2.2⟩
  · exact ⟨vk_S.moved hW.alike h.1, fun i hi => vk_R.warm hW (h.2.1 i hi), va_Z.moved hW.alike h.2.2.1, va_Zq.moved hW.alike h.2.2.2⟩
  · exact ⟨vk_S.kept h.1 hq, h.2.1, h.2.2.1.kept hq, h.2.2.2.kept hq⟩
  · exact ⟨vk_S.narrow h.1 hAB, h.2.1, h.2.2.1.narrow hAB, h.2.2.2.narrow hAB⟩
theorem z_lenB {i : Nat} (hi : i < 21) : 2 ≤ z_lenS.getD i 0 ∧ z_lenS.getD i 0 ≤ 6 := by
  have h : ∀ i, i < 21 → 2 ≤ z_lenS.getD i 0 ∧ z_lenS.getD i 0 ≤ 6 := by decide
  exact h i hi
theorem z_narC {x z : Int32} (e : z = (x.toUInt32 % 65536).toInt32) : narrow .char (.int z) = .int z := by
  subst e
  show Value.int ((x.toUInt32 % 65536).toInt32.toUInt32.toUInt16.toUInt32.toInt32) = _
  congr 2
  apply UInt32.toNat_inj.mp
  simp
/-- an answer that is a byte or a char -/
theorem z_tret {p : Program} {l : Launch} {e : Env} {R : Room} {s : State} {m : MethodId} {args : Array Value} {below : List Frame} {meth : Method} {c : Code} {H : Heap} {locs : List Loc} {cells slots : Nat} {cc : ByteArray} {pc : Nat} {ls : Array Slot} {G : z_G} {A : Nat → Prop} {mc ms : Nat} {post : Int32 → z_U → Prop} {v : Int32} {ty : FieldType} (hexec : p.tables.exec = Jvm.exec) (hb : c.code = cc) (hr : meth.sig.returnType = some ty) (hn : narrow ty (.int v) = .int v) (hK : z_K G s) (hS : va_S A s.heap H locs) (hc : cells ≤ mc) (hs : slots ≤ ms) (hlocks : meth.locks = false) (hdg : decode cc pc = .ok (.ireturn, 1)) (u1 : z_U) (hW : z_W G A u1 H) (hp : post v u1) : W p l e R s m args below meth c H locs cells slots (MQ below (va_Qi post (z_B G A) A) args s mc ms A) (F0 m pc ls [.int v]) :=
  W.widen hc hs (W.zret hexec hb hr hn (fun t ht hWm => ⟨⟨v, u1, rfl, hp, hK.warm hWm, by rw [ht]; exact hW⟩, hS.F ht⟩) hS.2.2 hdg hlocks)
theorem z_lenT {i : Nat} (hi : i < 21) : (nI (z_lenS.getD i 0)).toInt = ((z_lenS.getD i 0 : Nat) : Int) := nI_toInt (by have := z_lenB hi; omega)
theorem z_shr0 {x : Int32} : x >>> ((0 : Int32) &&& 31) = x := by
  have h : (0 : Int32) &&& 31 = 0 := by decide
  rw [h]
  exact Int32.shiftRight_zero
set_option maxHeartbeats 8000000 in
set_option maxRecDepth 100000 in
theorem sx_J0_coder_7d493 (l : Launch) (G : z_G) (adK adV : Nat → Nat) (ad : Nat → Nat) (I : z_I) (u : z_U) (i : Nat) (hi : i < 21) : z_MN (z_Ck adK adV) l yJ0_coder_7d493 wsJ0_coder_7d493 { frames := 1, cells := 0, slots := 0, locals := 12 } [.ref (adK i)] G u (fun r u1 => u1 = u ∧ (r = 0)) 0 0 := by
  intro sz
  refine z_headN (cc := cJ0_coder_7d493) (maxL := 1) (ret := (some .byte)) (by decide) rfl (Nat.le_of_ble_eq_true rfl) ?_
  intro p e s m below meth c0 ls hIn hK hsz hW hl hKn
  obtain ⟨hx, hb, hr, hml, hown, hts, hlocks, hname⟩ := hIn
  subst hsz
  have hown : s.vm.findClass RJ0 = some m.cls := hown
  have hA : ∀ q : Nat, s.heap.size ≤ q → z_A u s.heap.size q := fun q h => Or.inr h
  generalize hAe : z_A u s.heap.size = A at *
  have hS : va_S A s.heap s.heap [] := va_S.rf
  have hl : lv_has ls 1 [(0, .ref (adK i))] := hl
  refine va_gets hx hb hKn.2.2.1 hS hown (hts (.fieldLink RJ0 38 "java/lang/String" "COMPACT_STRINGS" "Z") (me_s (List.mem_of_getElem? (i := 0) rfl))) (fun _ h => h) dJ0_coder_7d493_0 ?_
  refine lv_if_eq (tgt := 13) hx hb dJ0_coder_7d493_3 (by decide) (fun c1 => absurd c1 (by decide)) (fun c1 => ?_)
  refine lv_aload_n hx hb dJ0_coder_7d493_6 rfl (lv_at hl 0 rfl) ?_
  refine vk_getf hx hb (hKn.1.1 i hi).2.1 hS hown (hts (.fieldLink RJ0 15 "java/lang/String" "coder" "B") (me_s (List.mem_of_getElem? (i := 1) rfl))) (fun _ h => h) dJ0_coder_7d493_7 ?_
  refine lv_goto (tgt := 14) hx hb dJ0_coder_7d493_10 (by decide) ?_
  exact z_tret hx hb hr (by decide) hK hS (Nat.le_of_ble_eq_true rfl) (Nat.le_of_ble_eq_true rfl) hlocks dJ0_coder_7d493_14 u hW ⟨rfl, rfl⟩
set_option maxHeartbeats 8000000 in
set_option maxRecDepth 100000 in
theorem sx_J0_isLatin1_aae02 (l : Launch) (G : z_G) (adK adV : Nat → Nat) (ad : Nat → Nat) (I : z_I) (u : z_U) (i : Nat) (hi : i < 21) : z_MN (z_Ck adK adV) l yJ0_isLatin1_aae02 wsJ0_isLatin1_aae02 { frames := 1, cells := 0, slots := 0, locals := 12 } [.ref (adK i)] G u (fun r u1 => u1 = u ∧ (r = 1)) 0 0 := by
  intro sz
  refine z_headN (cc := cJ0_isLatin1_aae02) (maxL := 1) (ret := (some .boolean)) (by decide) rfl (Nat.le_of_ble_eq_true rfl) ?_
  intro p e s m below meth c0 ls hIn hK hsz hW hl hKn
  obtain ⟨hx, hb, hr, hml, hown, hts, hlocks, hname⟩ := hIn
  subst hsz
  have hown : s.vm.findClass RJ0 = some m.cls := hown
  have hA : ∀ q : Nat, s.heap.size ≤ q → z_A u s.heap.size q := fun q h => Or.inr h
  generalize hAe : z_A u s.heap.size = A at *
  have hS : va_S A s.heap s.heap [] := va_S.rf
  have hl : lv_has ls 1 [(0, .ref (adK i))] := hl
  refine va_gets hx hb hKn.2.2.1 hS hown (hts (.fieldLink RJ0 38 "java/lang/String" "COMPACT_STRINGS" "Z") (me_s (List.mem_of_getElem? (i := 0) rfl))) (fun _ h => h) dJ0_isLatin1_aae02_0 ?_
  refine lv_if_eq (tgt := 17) hx hb dJ0_isLatin1_aae02_3 (by decide) (fun c1 => absurd c1 (by decide)) (fun c1 => ?_)
  refine lv_aload_n hx hb dJ0_isLatin1_aae02_6 rfl (lv_at hl 0 rfl) ?_
  refine vk_getf hx hb (hKn.1.1 i hi).2.1 hS hown (hts (.fieldLink RJ0 15 "java/lang/String" "coder" "B") (me_s (List.mem_of_getElem? (i := 1) rfl))) (fun _ h => h) dJ0_isLatin1_aae02_7 ?_
  refine lv_if_ne (tgt := 17) hx hb dJ0_isLatin1_aae02_10 (by decide) (fun c2 => absurd (by decide) c2) (fun c2 => ?_)
  refine lv_iconst (v := 1) hx hb dJ0_isLatin1_aae02_13 (by decide) ?_
  refine lv_goto (tgt := 18) hx hb dJ0_isLatin1_aae02_14 (by decide) ?_
  exact z_zret hx hb hr (by decide) hK hS (Nat.le_of_ble_eq_true rfl) (Nat.le_of_ble_eq_true rfl) hlocks dJ0_isLatin1_aae02_18 u hW ⟨rfl, rfl⟩
set_option maxHeartbeats 8000000 in
set_option maxRecDepth 100000 in
theorem sx_J0_length_8abf5 (l : Launch) (G : z_G) (adK adV : Nat → Nat) (ad : Nat → Nat) (I : z_I) (u : z_U) (i : Nat) (hi : i < 21) : z_MN (z_Ck adK adV) l yJ0_length_8abf5 wsJ0_length_8abf5 { frames := 2, cells := 0, slots := 0, locals := 32 } [.ref (adK i)] G u (fun r u1 => u1 = u ∧ (r = nI (z_lenS.getD i 0))) 0 0 := by
  intro sz
  refine z_headN (cc := cJ0_length_8abf5) (maxL := 1) (ret := (some .int)) (by decide) rfl (Nat.le_of_ble_eq_true rfl) ?_
  intro p e s m below meth c0 ls hIn hK hsz hW hl hKn
  obtain ⟨hx, hb, hr, hml, hown, hts, hlocks, hname⟩ := hIn
  subst hsz
  have hown : s.vm.findClass RJ0 = some m.cls := hown
  have hA : ∀ q : Nat, s.heap.size ≤ q → z_A u s.heap.size q := fun q h => Or.inr h
  generalize hAe : z_A u s.heap.size = A at *
  have hS : va_S A s.heap s.heap [] := va_S.rf
  have hl : lv_has ls 1 [(0, .ref (adK i))] := hl
  refine lv_aload_n hx hb dJ0_length_8abf5_0 rfl (lv_at hl 0 rfl) ?_
  refine vk_getf hx hb (hKn.1.1 i hi).2.2.1 hS hown (hts (.fieldLink RJ0 9 "java/lang/String" "value" "[B") (me_s (List.mem_of_getElem? (i := 0) rfl))) (fun _ h => h) dJ0_length_8abf5_1 ?_
  refine va_tlen (v := nI (z_lenS.getD i 0)) hx hb (hKn.1.1 i hi).2.2.2 hS rfl dJ0_length_8abf5_4 ?_
  refine lv_aload_n hx hb dJ0_length_8abf5_5 rfl (lv_at hl 0 rfl) ?_
  refine z_ci hW hS hA (va_runV (As := []) (rest := [.int (nI (z_lenS.getD i 0))]) ⟨hx, hb, hml, hown, hts⟩ (sx_J0_coder_7d493 l G adK adV ad I u i  hi  _) (cwV 0 hts gJ0_length_8abf5_J0_coder_7d493 rfl rfl rfl hy_J0_coder_7d493 ⟨Nat.le_of_ble_eq_true rfl, Nat.le_of_ble_eq_true rfl⟩) (z_preKN (z_Ck.nice adK adV) hK hW hS hA hKn (vk_recv hKn.1 hi hS)) rfl rfl hl.1 rfl (lv_room (Nat.le_of_ble_eq_true rfl)) dJ0_length_8abf5_6 ⟨Nat.le_of_ble_eq_true rfl, Nat.le_of_ble_eq_true rfl⟩) (fun r u1 H locs hp hW hS => ?_)
  obtain ⟨e9, hp⟩ := hp
  rw [e9] at hW
  refine z_topi (v := 0) hp ?_
  refine lv_ishr hx hb dJ0_length_8abf5_9 ?_
  refine lv_topi (fun x1 ex1 => ?_)
  exact z_iret hx hb hr hK hS (Nat.le_of_ble_eq_true rfl) (Nat.le_of_ble_eq_true rfl) hlocks dJ0_length_8abf5_10 u hW ⟨rfl, (by rw [ex1]; exact z_shr0)⟩
set_option maxHeartbeats 8000000 in
set_option maxRecDepth 100000 in
theorem sx_J3_check_n (l : Launch) (G : z_G) (adK adV : Nat → Nat) (ad : Nat → Nat) (I : z_I) (u : z_U) (i : Nat) (a1 : Int32) (a2 : Int32) (hi : i < 21) (q1 : 0 ≤ a1.toInt) (q2 : a1.toInt < a2.toInt) : z_MN (z_Ck adK adV) l yJ3_checkIndex_8e157 wsJ3_checkIndex_8e157 { frames := 1, cells := 0, slots := 0, locals := 12 } [.int a1, .int a2, .null] G u (fun r u1 => u1 = u) 0 0 := by
  intro sz
  refine z_headN (cc := cJ3_checkIndex_8e157) (maxL := 3) (ret := (some .int)) (by decide) rfl (Nat.le_of_ble_eq_true rfl) ?_
  intro p e s m below meth c0 ls hIn hK hsz hW hl hKn
  obtain ⟨hx, hb, hr, hml, hown, hts, hlocks, hname⟩ := hIn
  subst hsz
  have hown : s.vm.findClass RJ3 = some m.cls := hown
  have hA : ∀ q : Nat, s.heap.size ≤ q → z_A u s.heap.size q := fun q h => Or.inr h
  generalize hAe : z_A u s.heap.size = A at *
  have hS : va_S A s.heap s.heap [] := va_S.rf
  have hl : lv_has ls 3 [(0, .int a1), (1, .int a2), (2, .null)] := hl
  refine lv_iload_n hx hb dJ3_checkIndex_8e157_0 rfl (lv_at hl 0 rfl) ?_
  refine lv_if_lt (tgt := 9) hx hb dJ3_checkIndex_8e157_1 (by decide) (fun c1 => (by have g := z_f_lt rfl z_l0 c1; omega)) (fun c1 => ?_)
  have g2 := z_f_nlt rfl z_l0 c1
  have b3 := Int32.toInt_lt a1
  refine lv_iload_n hx hb dJ3_checkIndex_8e157_4 rfl (lv_at hl 0 rfl) ?_
  refine lv_iload_n hx hb dJ3_checkIndex_8e157_5 rfl (lv_at hl 1 rfl) ?_
  refine lv_icmp_lt (tgt := 16) hx hb dJ3_checkIndex_8e157_6 (by decide) (fun c4 => ?_) (fun c4 => (by have g := z_f_nlt rfl rfl c4; omega))
  have g5 := z_f_lt rfl rfl c4
  have b6 := Int32.toInt_lt a2
  refine lv_iload_n hx hb dJ3_checkIndex_8e157_16 rfl (lv_at hl 0 rfl) ?_
  exact z_iret hx hb hr hK hS (Nat.le_of_ble_eq_true rfl) (Nat.le_of_ble_eq_true rfl) hlocks dJ3_checkIndex_8e157_17 u hW rfl
set_option maxHeartbeats 8000000 in
set_option maxRecDepth 100000 in
theorem sx_J3_check_r (l : Launch) (G : z_G) (adK adV : Nat → Nat) (ad : Nat → Nat) (I : z_I) (u : z_U) (i : Nat) (t0 : Nat) (a1 : Int32) (a2 : Int32) (hi : i < 21) (q1 : 0 ≤ a1.toInt) (q2 : a1.toInt < a2.toInt) : z_MN (z_Ck adK adV) l yJ3_checkIndex_8e157 wsJ3_checkIndex_8e157 { frames := 1, cells := 0, slots := 0, locals := 12 } [.int a1, .int a2, .ref t0] G u (fun r u1 => u1 = u) 0 0 := by
  intro sz
  refine z_headN (cc := cJ3_checkIndex_8e157) (maxL := 3) (ret := (some .int)) (by decide) rfl (Nat.le_of_ble_eq_true rfl) ?_
  intro p e s m below meth c0 ls hIn hK hsz hW hl hKn
  obtain ⟨hx, hb, hr, hml, hown, hts, hlocks, hname⟩ := hIn
  subst hsz
  have hown : s.vm.findClass RJ3 = some m.cls := hown
  have hA : ∀ q : Nat, s.heap.size ≤ q → z_A u s.heap.size q := fun q h => Or.inr h
  generalize hAe : z_A u s.heap.size = A at *
  have hS : va_S A s.heap s.heap [] := va_S.rf
  have hl : lv_has ls 3 [(0, .int a1), (1, .int a2), (2, .ref t0)] := hl
  refine lv_iload_n hx hb dJ3_checkIndex_8e157_0 rfl (lv_at hl 0 rfl) ?_
  refine lv_if_lt (tgt := 9) hx hb dJ3_checkIndex_8e157_1 (by decide) (fun c1 => (by have g := z_f_lt rfl z_l0 c1; omega)) (fun c1 => ?_)
  have g2 := z_f_nlt rfl z_l0 c1
  have b3 := Int32.toInt_lt a1
  refine lv_iload_n hx hb dJ3_checkIndex_8e157_4 rfl (lv_at hl 0 rfl) ?_
  refine lv_iload_n hx hb dJ3_checkIndex_8e157_5 rfl (lv_at hl 1 rfl) ?_
  refine lv_icmp_lt (tgt := 16) hx hb dJ3_checkIndex_8e157_6 (by decide) (fun c4 => ?_) (fun c4 => (by have g := z_f_nlt rfl rfl c4; omega))
  have g5 := z_f_lt rfl rfl c4
  have b6 := Int32.toInt_lt a2
  refine lv_iload_n hx hb dJ3_checkIndex_8e157_16 rfl (lv_at hl 0 rfl) ?_
  exact z_iret hx hb hr hK hS (Nat.le_of_ble_eq_true rfl) (Nat.le_of_ble_eq_true rfl) hlocks dJ3_checkIndex_8e157_17 u hW rfl
set_option maxHeartbeats 8000000 in
set_option maxRecDepth 100000 in
theorem sx_J0_checkIndex_df160 (l : Launch) (G : z_G) (adK adV : Nat → Nat) (ad : Nat → Nat) (I : z_I) (u : z_U) (i : Nat) (a1 : Int32) (a2 : Int32) (hi : i < 21) (q1 : 0 ≤ a1.toInt) (q2 : a1.toInt < a2.toInt) : z_MvN (z_Ck adK adV) l yJ0_checkIndex_df160 wsJ0_checkIndex_df160 { frames := 2, cells := 0, slots := 0, locals := 34 } [.int a1, .int a2] G u (fun u1 => u1 = u) 0 0 := by
  intro sz
  refine z_headN (cc := cJ0_checkIndex_df160) (maxL := 2) (ret := none) (by decide) rfl (Nat.le_of_ble_eq_true rfl) ?_
  intro p e s m below meth c0 ls hIn hK hsz hW hl hKn
  obtain ⟨hx, hb, hr, hml, hown, hts, hlocks, hname⟩ := hIn
  subst hsz
  have hown : s.vm.findClass RJ0 = some m.cls := hown
  have hA : ∀ q : Nat, s.heap.size ≤ q → z_A u s.heap.size q := fun q h => Or.inr h
  generalize hAe : z_A u s.heap.size = A at *
  have hS : va_S A s.heap s.heap [] := va_S.rf
  have hl : lv_has ls 2 [(0, .int a1), (1, .int a2)] := hl
  refine lv_iload_n hx hb dJ0_checkIndex_df160_0 rfl (lv_at hl 0 rfl) ?_
  refine lv_iload_n hx hb dJ0_checkIndex_df160_1 rfl (lv_at hl 1 rfl) ?_
  rcases hKn.2.2.2 with hZ | ⟨t9, hZ⟩
  · refine va_gets hx hb hZ hS hown (hts (.fieldLink RJ0 1053 "jdk/internal/util/Preconditions" "SIOOBE_FORMATTER" "Ljava/util/function/BiFunction;") (me_s (List.mem_of_getElem? (i := 0) rfl))) (fun _ h => h) dJ0_checkIndex_df160_2 ?_
    refine z_ci hW hS hA (va_runS (As := [.int a1, .int a2, .null]) (rest := []) ⟨hx, hb, hml, hown, hts⟩ (sx_J3_check_n l G adK adV ad I u i a1 a2 hi (by omega) (by omega) _) (va_cwS 3 hts gJ0_checkIndex_df160_J3_checkIndex_8e157 rfl rfl rfl hy_J3_checkIndex_8e157.2 ⟨Nat.le_of_ble_eq_true rfl, Nat.le_of_ble_eq_true rfl⟩) (z_preSN (z_Ck.nice adK adV) hK hW hS hA hKn) rfl rfl hl.1 rfl (lv_room (Nat.le_of_ble_eq_true rfl)) dJ0_checkIndex_df160_5 ⟨Nat.le_of_ble_eq_true rfl, Nat.le_of_ble_eq_true rfl⟩) (fun r u1 H locs hp hW hS => ?_)
    rw [hp] at hW
    refine lv_topi (fun x1 ex1 => ?_)
    refine lv_pop hx hb dJ0_checkIndex_df160_8 rfl ?_
    exact z_vret hx hb hr hK hS (Nat.le_of_ble_eq_true rfl) (Nat.le_of_ble_eq_true rfl) hlocks dJ0_checkIndex_df160_9 u hW rfl
  · refine va_gets hx hb hZ hS hown (hts (.fieldLink RJ0 1053 "jdk/internal/util/Preconditions" "SIOOBE_FORMATTER" "Ljava/util/function/BiFunction;") (me_s (List.mem_of_getElem? (i := 0) rfl))) (fun _ h => h) dJ0_checkIndex_df160_2 ?_
    refine z_ci hW hS hA (va_runS (As := [.int a1, .int a2, .ref t9]) (rest := []) ⟨hx, hb, hml, hown, hts⟩ (sx_J3_check_r l G adK adV ad I u i t9 a1 a2 hi (by omega) (by omega) _) (va_cwS 3 hts gJ0_checkIndex_df160_J3_checkIndex_8e157 rfl rfl rfl hy_J3_checkIndex_8e157.2 ⟨Nat.le_of_ble_eq_true rfl, Nat.le_of_ble_eq_true rfl⟩) (z_preSN (z_Ck.nice adK adV) hK hW hS hA hKn) rfl rfl hl.1 rfl (lv_room (Nat.le_of_ble_eq_true rfl)) dJ0_checkIndex_df160_5 ⟨Nat.le_of_ble_eq_true rfl, Nat.le_of_ble_eq_true rfl⟩) (fun r u1 H locs hp hW hS => ?_)
    rw [hp] at hW
    refine lv_topi (fun x2 ex2 => ?_)
    refine lv_pop hx hb dJ0_checkIndex_df160_8 rfl ?_
    exact z_vret hx hb hr hK hS (Nat.le_of_ble_eq_true rfl) (Nat.le_of_ble_eq_true rfl) hlocks dJ0_checkIndex_df160_9 u hW rfl
set_option maxHeartbeats 8000000 in
set_option maxRecDepth 100000 in
theorem sx_J1_charAt_3b067 (l : Launch) (G : z_G) (adK adV : Nat → Nat) (ad : Nat → Nat) (I : z_I) (u : z_U) (i : Nat) (a2 : Int32) (hi : i < 21) (q1 : 0 ≤ a2.toInt) (q2 : a2.toInt < ((z_lenS.getD i 0 : Nat) : Int)) : z_MN (z_Ck adK adV) l yJ1_charAt_3b067 wsJ1_charAt_3b067 { frames := 3, cells := 0, slots := 0, locals := 55 } [.ref (adV i), .int a2] G u (fun r u1 => u1 = u ∧ (narrow .char (.int r) = .int r)) 0 0 := by
  intro sz
  refine z_headN (cc := cJ1_charAt_3b067) (maxL := 2) (ret := (some .char)) (by decide) rfl (Nat.le_of_ble_eq_true rfl) ?_
  intro p e s m below meth c0 ls hIn hK hsz hW hl hKn
  obtain ⟨hx, hb, hr, hml, hown, hts, hlocks, hname⟩ := hIn
  subst hsz
  have hown : s.vm.findClass RJ1 = some m.cls := hown
  have hA : ∀ q : Nat, s.heap.size ≤ q → z_A u s.heap.size q := fun q h => Or.inr h
  generalize hAe : z_A u s.heap.size = A at *
  have hS : va_S A s.heap s.heap [] := va_S.rf
  have hl : lv_has ls 2 [(0, .ref (adV i)), (1, .int a2)] := hl
  have hl6 := z_lenB hi
  refine lv_iload_n hx hb dJ1_charAt_3b067_0 rfl (lv_at hl 1 rfl) ?_
  refine lv_aload_n hx hb dJ1_charAt_3b067_1 rfl (lv_at hl 0 rfl) ?_
  refine va_tlen (v := nI (z_lenS.getD i 0)) hx hb (hKn.1.1 i hi).2.2.2 hS rfl dJ1_charAt_3b067_2 ?_
  refine z_cv hW hS hA (va_runS (As := [.int a2, .int (nI (z_lenS.getD i 0))]) (rest := []) ⟨hx, hb, hml, hown, hts⟩ (sx_J0_checkIndex_df160 l G adK adV ad I u i a2 (nI (z_lenS.getD i 0)) hi (by have := z_lenT hi; omega) (by have := z_lenT hi; omega) _) (va_cwS 2 hts gJ1_charAt_3b067_J0_checkIndex_df160 rfl rfl rfl hy_J0_checkIndex_df160.2 ⟨Nat.le_of_ble_eq_true rfl, Nat.le_of_ble_eq_true rfl⟩) (z_preSN (z_Ck.nice adK adV) hK hW hS hA hKn) rfl rfl hl.1 rfl (lv_room (Nat.le_of_ble_eq_true rfl)) dJ1_charAt_3b067_3 ⟨Nat.le_of_ble_eq_true rfl, Nat.le_of_ble_eq_true rfl⟩) (fun u1 H locs hp hW hS => ?_)
  rw [hp] at hW
  refine lv_aload_n hx hb dJ1_charAt_3b067_6 rfl (lv_at hl 0 rfl) ?_
  refine lv_iload_n hx hb dJ1_charAt_3b067_7 rfl (lv_at hl 1 rfl) ?_
  refine va_tb (v := .int ((z_bytS.getD i []).getD (a2 : Int32).toNatClampNeg 0)) hx hb (hKn.1.1 i hi).2.2.2 hS (z_ix rfl (by omega) (by omega)) rfl dJ1_charAt_3b067_8 ?_
  refine lv_topi (fun x1 ex1 => ?_)
  refine lv_sipush (v := 255) hx hb dJ1_charAt_3b067_9 (by decide) ?_
  refine lv_iand hx hb dJ1_charAt_3b067_12 ?_
  refine lv_topi (fun x2 ex2 => ?_)
  refine lv_i2c hx hb dJ1_charAt_3b067_13 rfl ?_
  refine lv_topi (fun x3 ex3 => ?_)
  have hnx3 := z_narC ex3
  exact z_tret hx hb hr hnx3 hK hS (Nat.le_of_ble_eq_true rfl) (Nat.le_of_ble_eq_true rfl) hlocks dJ1_charAt_3b067_14 u hW ⟨rfl, hnx3⟩
set_option maxHeartbeats 8000000 in
set_option maxRecDepth 100000 in
theorem sx_J0_charAt_5068e (l : Launch) (G : z_G) (adK adV : Nat → Nat) (ad : Nat → Nat) (I : z_I) (u : z_U) (i : Nat) (a1 : Int32) (hi : i < 21) (q1 : 0 ≤ a1.toInt) (q2 : a1.toInt < ((z_lenS.getD i 0 : Nat) : Int)) : z_MN (z_Ck adK adV) l yJ0_charAt_5068e wsJ0_charAt_5068e { frames := 4, cells := 0, slots := 0, locals := 76 } [.ref (adK i), .int a1] G u (fun r u1 => u1 = u) 0 0 := by
  intro sz
  refine z_headN (cc := cJ0_charAt_5068e) (maxL := 2) (ret := (some .char)) (by decide) rfl (Nat.le_of_ble_eq_true rfl) ?_
  intro p e s m below meth c0 ls hIn hK hsz hW hl hKn
  obtain ⟨hx, hb, hr, hml, hown, hts, hlocks, hname⟩ := hIn
  subst hsz
  have hown : s.vm.findClass RJ0 = some m.cls := hown
  have hA : ∀ q : Nat, s.heap.size ≤ q → z_A u s.heap.size q := fun q h => Or.inr h
  generalize hAe : z_A u s.heap.size = A at *
  have hS : va_S A s.heap s.heap [] := va_S.rf
  have hl : lv_has ls 2 [(0, .ref (adK i)), (1, .int a1)] := hl
  have hl6 := z_lenB hi
  refine lv_aload_n hx hb dJ0_charAt_5068e_0 rfl (lv_at hl 0 rfl) ?_
  refine z_ci hW hS hA (va_runV (As := []) (rest := []) ⟨hx, hb, hml, hown, hts⟩ (sx_J0_isLatin1_aae02 l G adK adV ad I u i  hi  _) (cwV 0 hts gJ0_charAt_5068e_J0_isLatin1_aae02 rfl rfl rfl hy_J0_isLatin1_aae02 ⟨Nat.le_of_ble_eq_true rfl, Nat.le_of_ble_eq_true rfl⟩) (z_preKN (z_Ck.nice adK adV) hK hW hS hA hKn (vk_recv hKn.1 hi hS)) rfl rfl hl.1 rfl (lv_room (Nat.le_of_ble_eq_true rfl)) dJ0_charAt_5068e_1 ⟨Nat.le_of_ble_eq_true rfl, Nat.le_of_ble_eq_true rfl⟩) (fun r u1 H locs hp hW hS => ?_)
  obtain ⟨e9, hp⟩ := hp
  rw [e9] at hW
  refine z_topi (v := 1) hp ?_
  refine lv_if_eq (tgt := 16) hx hb dJ0_charAt_5068e_4 (by decide) (fun c1 => absurd c1 (by decide)) (fun c1 => ?_)
  refine lv_aload_n hx hb dJ0_charAt_5068e_7 rfl (lv_at hl 0 rfl) ?_
  refine vk_getf hx hb (hKn.1.1 i hi).2.2.1 hS hown (hts (.fieldLink RJ0 9 "java/lang/String" "value" "[B") (me_s (me_l (List.mem_of_getElem? (i := 0) rfl)))) (fun _ h => h) dJ0_charAt_5068e_8 ?_
  refine lv_iload_n hx hb dJ0_charAt_5068e_11 rfl (lv_at hl 1 rfl) ?_
  refine z_ci hW hS hA (va_runS (As := [.ref (adV i), .int a1]) (rest := []) ⟨hx, hb, hml, hown, hts⟩ (sx_J1_charAt_3b067 l G adK adV ad I u i a1 hi (by have := z_lenT hi; omega) (by have := z_lenT hi; omega) _) (va_cwS 2 hts gJ0_charAt_5068e_J1_charAt_3b067 rfl rfl rfl hy_J1_charAt_3b067.2 ⟨Nat.le_of_ble_eq_true rfl, Nat.le_of_ble_eq_true rfl⟩) (z_preSN (z_Ck.nice adK adV) hK hW hS hA hKn) rfl rfl hl.1 rfl (lv_room (Nat.le_of_ble_eq_true rfl)) dJ0_charAt_5068e_12 ⟨Nat.le_of_ble_eq_true rfl, Nat.le_of_ble_eq_true rfl⟩) (fun r u1 H locs hp hW hS => ?_)
  obtain ⟨e9, hp⟩ := hp
  rw [e9] at hW
  refine lv_topi (fun x2 ex2 => ?_)
  have hnx2 : narrow .char (.int x2) = .int x2 := by rw [ex2]; exact hp
  exact z_tret hx hb hr hnx2 hK hS (Nat.le_of_ble_eq_true rfl) (Nat.le_of_ble_eq_true rfl) hlocks dJ0_charAt_5068e_15 u hW rfl
