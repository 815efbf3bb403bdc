theorem dX12_finds_0 : decode cX12_finds 0 = .ok (.iconst 0, 1) := by decide +kernel
theorem dX12_finds_1 : decode cX12_finds 1 = .ok (.istore_n 1, 1) := by decide +kernel
theorem dX12_finds_2 : decode cX12_finds 2 = .ok (.iload_n 1, 1) := by decide +kernel
theorem dX12_finds_3 : decode cX12_finds 3 = .ok (.bipush 16, 2) := by decide +kernel
theorem dX12_finds_5 : decode cX12_finds 5 = .ok (.if_icmp .ge 18, 3) := by decide +kernel
theorem dX12_finds_8 : decode cX12_finds 8 = .ok (.aload_n 0, 1) := by decide +kernel
theorem dX12_finds_9 : decode cX12_finds 9 = .ok (.getfield 187, 3) := by decide +kernel
theorem dX12_finds_12 : decode cX12_finds 12 = .ok (.iload_n 1, 1) := by decide +kernel
theorem dX12_finds_13 : decode cX12_finds 13 = .ok (.ldc_w 496, 3) := by decide +kernel
theorem dX12_finds_16 : decode cX12_finds 16 = .ok (.iastore, 1) := by decide +kernel
theorem dX12_finds_17 : decode cX12_finds 17 = .ok (.iinc 1 1, 3) := by decide +kernel
theorem dX12_finds_20 : decode cX12_finds 20 = .ok (.goto (-18), 3) := by decide +kernel
theorem dX12_finds_23 : decode cX12_finds 23 = .ok (.aload_n 0, 1) := by decide +kernel
theorem dX12_finds_24 : decode cX12_finds 24 = .ok (.getfield 187, 3) := by decide +kernel
theorem dX12_finds_27 : decode cX12_finds 27 = .ok (.iconst 0, 1) := by decide +kernel
theorem dX12_finds_28 : decode cX12_finds 28 = .ok (.iconst 0, 1) := by decide +kernel
theorem dX12_finds_29 : decode cX12_finds 29 = .ok (.iastore, 1) := by decide +kernel
theorem dX12_finds_30 : decode cX12_finds 30 = .ok (.iconst 0, 1) := by decide +kernel
theorem dX12_finds_31 : decode cX12_finds 31 = .ok (.istore_n 1, 1) := by decide +kernel
theorem dX12_finds_32 : decode cX12_finds 32 = .ok (.iload_n 1, 1) := by decide +kernel
theorem dX12_finds_33 : decode cX12_finds 33 = .ok (.bipush 16, 2) := by decide +kernel
theorem dX12_finds_35 : decode cX12_finds 35 = .ok (.if_icmp .ge 124, 3) := by decide +kernel
theorem dX12_finds_159 : decode cX12_finds 159 = .ok (.aload_n 0, 1) := by decide +kernel
theorem dX12_finds_160 : decode cX12_finds 160 = .ok (.getfield 187, 3) := by decide +kernel
theorem dX12_finds_163 : decode cX12_finds 163 = .ok (.bipush 15, 2) := by decide +kernel
theorem dX12_finds_165 : decode cX12_finds 165 = .ok (.iaload, 1) := by decide +kernel
theorem dX12_finds_166 : decode cX12_finds 166 = .ok (.ldc_w 496, 3) := by decide +kernel
theorem dX12_finds_169 : decode cX12_finds 169 = .ok (.if_icmp .ge 7, 3) := by decide +kernel
theorem dX12_finds_176 : decode cX12_finds 176 = .ok (.iconst 0, 1) := by decide +kernel
theorem dX12_finds_177 : decode cX12_finds 177 = .ok (.ireturn, 1) := by decide +kernel
theorem dX12_finds_38 : decode cX12_finds 38 = .ok (.iconst 0, 1) := by decide +kernel
theorem dX12_finds_39 : decode cX12_finds 39 = .ok (.istore_n 2, 1) := by decide +kernel
theorem dX12_finds_40 : decode cX12_finds 40 = .ok (.iload_n 2, 1) := by decide +kernel
theorem dX12_finds_41 : decode cX12_finds 41 = .ok (.bipush 16, 2) := by decide +kernel
theorem dX12_finds_43 : decode cX12_finds 43 = .ok (.if_icmp .ge 110, 3) := by decide +kernel
theorem dX12_finds_153 : decode cX12_finds 153 = .ok (.iinc 1 1, 3) := by decide +kernel
theorem dX12_finds_156 : decode cX12_finds 156 = .ok (.goto (-124), 3) := by decide +kernel
theorem dX12_finds_46 : decode cX12_finds 46 = .ok (.iconst 0, 1) := by decide +kernel
theorem dX12_finds_47 : decode cX12_finds 47 = .ok (.istore_n 3, 1) := by decide +kernel
theorem dX12_finds_48 : decode cX12_finds 48 = .ok (.iload_n 3, 1) := by decide +kernel
theorem dX12_finds_49 : decode cX12_finds 49 = .ok (.bipush 16, 2) := by decide +kernel
theorem dX12_finds_51 : decode cX12_finds 51 = .ok (.if_icmp .ge 96, 3) := by decide +kernel
theorem dX12_finds_147 : decode cX12_finds 147 = .ok (.iinc 2 1, 3) := by decide +kernel
theorem dX12_finds_150 : decode cX12_finds 150 = .ok (.goto (-110), 3) := by decide +kernel
theorem dX12_finds_54 : decode cX12_finds 54 = .ok (.aload_n 0, 1) := by decide +kernel
theorem dX12_finds_55 : decode cX12_finds 55 = .ok (.getfield 181, 3) := by decide +kernel
theorem dX12_finds_58 : decode cX12_finds 58 = .ok (.bipush 16, 2) := by decide +kernel
theorem dX12_finds_60 : decode cX12_finds 60 = .ok (.iload_n 2, 1) := by decide +kernel
theorem dX12_finds_61 : decode cX12_finds 61 = .ok (.imul, 1) := by decide +kernel
theorem dX12_finds_62 : decode cX12_finds 62 = .ok (.iload_n 3, 1) := by decide +kernel
theorem dX12_finds_63 : decode cX12_finds 63 = .ok (.iadd, 1) := by decide +kernel
theorem dX12_finds_64 : decode cX12_finds 64 = .ok (.iaload, 1) := by decide +kernel
theorem dX12_finds_65 : decode cX12_finds 65 = .ok (.ifCond .eq 76, 3) := by decide +kernel
theorem dX12_finds_141 : decode cX12_finds 141 = .ok (.iinc 3 1, 3) := by decide +kernel
theorem dX12_finds_144 : decode cX12_finds 144 = .ok (.goto (-96), 3) := by decide +kernel
theorem dX12_flow_0 : decode cX12_flow 0 = .ok (.iload_n 1, 1) := by decide +kernel
theorem dX12_flow_1 : decode cX12_flow 1 = .ok (.iconst (-1), 1) := by decide +kernel
theorem dX12_flow_2 : decode cX12_flow 2 = .ok (.if_icmp .eq 15, 3) := by decide +kernel
theorem dX12_flow_17 : decode cX12_flow 17 = .ok (.iload_n 2, 1) := by decide +kernel
theorem dX12_flow_18 : decode cX12_flow 18 = .ok (.iconst 0, 1) := by decide +kernel
theorem dX12_flow_19 : decode cX12_flow 19 = .ok (.iconst 1, 1) := by decide +kernel
set_option maxRecDepth 20000 in
theorem ggX12_flow_X12_within : GoodIn wsX12_flow wsX12_within := goodIn_r _ [13] (by decide +kernel) (by decide +kernel)
set_option maxRecDepth 20000 in
theorem gX12_flow_X12_within : GoodIn wsX12_flow (va_wsS RX12 235 yX12_within wsX12_within) := goodIn_app (goodIn_of _ (by decide +kernel)) ggX12_flow_X12_within
theorem dX12_flow_20 : decode cX12_flow 20 = .ok (.invokestatic 235, 3) := by decide +kernel
theorem dX12_flow_23 : decode cX12_flow 23 = .ok (.ifCond .ne 5, 3) := by decide +kernel
theorem dX12_flow_28 : decode cX12_flow 28 = .ok (.iconst 0, 1) := by decide +kernel
theorem dX12_flow_29 : decode cX12_flow 29 = .ok (.istore_n 3, 1) := by decide +kernel
theorem dX12_flow_30 : decode cX12_flow 30 = .ok (.iload_n 3, 1) := by decide +kernel
theorem dX12_flow_31 : decode cX12_flow 31 = .ok (.sipush 256, 3) := by decide +kernel
theorem dX12_flow_34 : decode cX12_flow 34 = .ok (.if_icmp .ge 23, 3) := by decide +kernel
theorem dX12_flow_57 : decode cX12_flow 57 = .ok (.iconst 0, 1) := by decide +kernel
theorem dX12_flow_58 : decode cX12_flow 58 = .ok (.istore_n 3, 1) := by decide +kernel
theorem dX12_flow_59 : decode cX12_flow 59 = .ok (.iload_n 3, 1) := by decide +kernel
theorem dX12_flow_60 : decode cX12_flow 60 = .ok (.aload_n 0, 1) := by decide +kernel
theorem dX12_flow_61 : decode cX12_flow 61 = .ok (.getfield 493, 3) := by decide +kernel
theorem dX12_flow_64 : decode cX12_flow 64 = .ok (.if_icmp .ge 87, 3) := by decide +kernel
theorem dX12_flow_151 : decode cX12_flow 151 = .ok (.iconst 0, 1) := by decide +kernel
theorem dX12_flow_152 : decode cX12_flow 152 = .ok (.istore_n 3, 1) := by decide +kernel
theorem dX12_flow_153 : decode cX12_flow 153 = .ok (.iload_n 3, 1) := by decide +kernel
theorem dX12_flow_154 : decode cX12_flow 154 = .ok (.aload_n 0, 1) := by decide +kernel
theorem dX12_flow_155 : decode cX12_flow 155 = .ok (.getfield 461, 3) := by decide +kernel
theorem dX12_flow_158 : decode cX12_flow 158 = .ok (.if_icmp .ge 25, 3) := by decide +kernel
theorem dX12_flow_183 : decode cX12_flow 183 = .ok (.iconst 0, 1) := by decide +kernel
theorem dX12_flow_184 : decode cX12_flow 184 = .ok (.istore_n 3, 1) := by decide +kernel
theorem dX12_flow_185 : decode cX12_flow 185 = .ok (.iconst 0, 1) := by decide +kernel
theorem dX12_flow_186 : decode cX12_flow 186 = .ok (.istore 4, 2) := by decide +kernel
theorem dX12_flow_188 : decode cX12_flow 188 = .ok (.aload_n 0, 1) := by decide +kernel
set_option maxRecDepth 20000 in
theorem ggX12_flow_X12_finds : GoodIn wsX12_flow wsX12_finds := goodIn_r _ [21, 9, 22, 2, 3, 8, 26, 27, 28, 29, 30, 31, 32, 33, 34, 35, 36, 37, 38, 39, 40, 41, 42, 43, 44, 45, 46, 47, 48, 49, 50, 51, 52, 53, 54, 55, 56, 57, 58, 59, 60, 61, 62, 63, 64, 65, 66, 67, 68, 69, 70, 71, 72, 73, 74, 75, 76, 77, 78, 79, 80, 81, 82, 83, 84, 85, 86, 87, 88, 89, 90, 91, 92, 93, 94, 95, 96, 97, 98, 99, 100, 101, 102, 103, 104, 105, 106, 107, 108, 109, 110, 111, 112, 113, 114, 115, 116, 117, 118, 119, 120, 121] (by decide +kernel) (by decide +kernel)
set_option maxRecDepth 20000 in
theorem gX12_flow_X12_finds : GoodIn wsX12_flow (wsV RX12 501 RX12 yX12_finds wsX12_finds) := goodIn_app (goodIn_of _ (by decide +kernel)) ggX12_flow_X12_finds
theorem dX12_flow_189 : decode cX12_flow 189 = .ok (.invokevirtual 501, 3) := by decide +kernel
theorem dX12_flow_192 : decode cX12_flow 192 = .ok (.ifCond .eq 144, 3) := by decide +kernel
theorem dX12_flow_336 : decode cX12_flow 336 = .ok (.iload_n 2, 1) := by decide +kernel
theorem dX12_flow_337 : decode cX12_flow 337 = .ok (.ifCond .ne 7, 3) := by decide +kernel
theorem dX12_flow_344 : decode cX12_flow 344 = .ok (.iload 4, 2) := by decide +kernel
theorem dX12_flow_346 : decode cX12_flow 346 = .ok (.ireturn, 1) := by decide +kernel
theorem dX12_flow_340 : decode cX12_flow 340 = .ok (.iload_n 3, 1) := by decide +kernel
theorem dX12_flow_341 : decode cX12_flow 341 = .ok (.goto 5, 3) := by decide +kernel
theorem dX12_flow_37 : decode cX12_flow 37 = .ok (.aload_n 0, 1) := by decide +kernel
theorem dX12_flow_38 : decode cX12_flow 38 = .ok (.getfield 181, 3) := by decide +kernel
theorem dX12_flow_41 : decode cX12_flow 41 = .ok (.iload_n 3, 1) := by decide +kernel
theorem dX12_flow_42 : decode cX12_flow 42 = .ok (.iconst 0, 1) := by decide +kernel
theorem dX12_flow_43 : decode cX12_flow 43 = .ok (.iastore, 1) := by decide +kernel
theorem dX12_flow_44 : decode cX12_flow 44 = .ok (.aload_n 0, 1) := by decide +kernel
theorem dX12_flow_45 : decode cX12_flow 45 = .ok (.getfield 184, 3) := by decide +kernel
theorem dX12_flow_48 : decode cX12_flow 48 = .ok (.iload_n 3, 1) := by decide +kernel
theorem dX12_flow_49 : decode cX12_flow 49 = .ok (.iconst 0, 1) := by decide +kernel
theorem dX12_flow_50 : decode cX12_flow 50 = .ok (.iastore, 1) := by decide +kernel
theorem dX12_flow_51 : decode cX12_flow 51 = .ok (.iinc 3 1, 3) := by decide +kernel
theorem dX12_flow_54 : decode cX12_flow 54 = .ok (.goto (-24), 3) := by decide +kernel
theorem dX12_flow_26 : decode cX12_flow 26 = .ok (.iconst (-1), 1) := by decide +kernel
theorem dX12_flow_27 : decode cX12_flow 27 = .ok (.ireturn, 1) := by decide +kernel
theorem dX12_flow_5 : decode cX12_flow 5 = .ok (.iload_n 1, 1) := by decide +kernel
theorem dX12_flow_6 : decode cX12_flow 6 = .ok (.ifCond .lt 20, 3) := by decide +kernel
theorem dX12_flow_9 : decode cX12_flow 9 = .ok (.iload_n 1, 1) := by decide +kernel
theorem dX12_flow_10 : decode cX12_flow 10 = .ok (.aload_n 0, 1) := by decide +kernel
theorem dX12_flow_11 : decode cX12_flow 11 = .ok (.getfield 493, 3) := by decide +kernel
theorem dX12_flow_14 : decode cX12_flow 14 = .ok (.if_icmp .ge 12, 3) := by decide +kernel
theorem z_l256 : (256 : Int32).toInt = 256 := by decide
theorem zi_X12_finds_X12 : ∀ w ∈ wsX120, w ∈ wsX12_finds := fun w h => (List.mem_cons_of_mem _ (List.mem_append_right _ h))
set_option maxHeartbeats 4000000 in
set_option maxRecDepth 100000 in
theorem ct_X12_finds (l : Launch) (G : z_G) (ad : Nat → Nat) : z_M l yX12_finds wsX12_finds { frames := 1, cells := 0, slots := 0, locals := 12 } [.ref (ad 0)] G (shM, ad, IM, JM, PM ad) (fun r u1 => r = 0) 0 0 := by
  intro sz
  refine z_headQ (cc := cX12_finds) (maxL := 4) (ret := (some .boolean)) (by decide) rfl (Nat.le_of_ble_eq_true rfl) ?_
  intro p e s m below meth c ls hIn hK hsz hW hl
  obtain ⟨hx, hb, hr, hml, hown, hts, hlocks, hname⟩ := hIn
  subst hsz
  have hown : s.vm.findClass RX12 = some m.cls := hown
  have hA : ∀ q : Nat, s.heap.size ≤ q → z_A (shM, ad, IM, JM, PM ad) s.heap.size q := fun q h => Or.inr h
  generalize hAe : z_A (shM, ad, IM, JM, PM ad) s.heap.size = A at *
  have hS : va_S A s.heap s.heap [] := va_S.rf
  have hl : lv_has ls 4 [(0, .ref (ad 0))] := hl
  refine lv_iconst (v := 0) hx hb dX12_finds_0 (by decide) ?_
  refine lv_istore_n (lv' := [(1, .int 0), (0, .ref (ad 0))]) hx hb dX12_finds_1 rfl hl (by decide) rfl (fun ls hl => ?_)
  refine lv_iload_n hx hb dX12_finds_2 rfl (lv_at hl 0 rfl) ?_
  refine lv_bipush (v := 16) hx hb dX12_finds_3 (by decide) ?_
  refine lv_icmp_ge (tgt := 23) hx hb dX12_finds_5 (by decide) (fun c1 => absurd c1 (by decide)) (fun c1 => ?_)
  refine lv_aload_n hx hb dX12_finds_8 rfl (lv_at hl 1 rfl) ?_
  refine z_get (T := TX12) (N := 96) (ci := 12) (i := 0) (v := .ref (ad 57)) hx hb hts zi_X12_finds_X12 hown hK hW rfl rfl 81 (by decide) (hts (.fieldLink RX12 187 "PetrolBoardModel" "far" "[I") (List.mem_of_getElem? (i := 1) rfl)) (fun _ h => h) rfl dX12_finds_9 ?_
  refine lv_iload_n hx hb dX12_finds_12 rfl (lv_at hl 0 rfl) ?_
  refine lv_ldcw (v := 1000000) hx hb hown (hts (.constant RX12 496 (1000000)) (List.mem_of_getElem? (i := 2) rfl)) dX12_finds_13 ?_
  refine z_iast (i := 57) hx hb hK hW hS rfl (z_inl (by decide)) dX12_finds_16 (fun H locs hz1 hW hS => ?_)
  refine lv_iinc (v := 1) (lv' := [(1, .int 1), (0, .ref (ad 0))]) hx hb dX12_finds_17 hl (k := 0) rfl (by decide) (by decide) rfl (fun ls hl => ?_)
  refine lv_goto (tgt := 2) hx hb dX12_finds_20 (by decide) ?_
  refine lv_iload_n hx hb dX12_finds_2 rfl (lv_at hl 0 rfl) ?_
  refine lv_bipush (v := 16) hx hb dX12_finds_3 (by decide) ?_
  refine lv_icmp_ge (tgt := 23) hx hb dX12_finds_5 (by decide) (fun c2 => absurd c2 (by decide)) (fun c2 => ?_)
  refine lv_aload_n hx hb dX12_finds_8 rfl (lv_at hl 1 rfl) ?_
  refine z_get (T := TX12) (N := 96) (ci := 12) (i := 0) (v := .ref (ad 57)) hx hb hts zi_X12_finds_X12 hown hK hW rfl rfl 81 (by decide) (hts (.fieldLink RX12 187 "PetrolBoardModel" "far" "[I") (List.mem_of_getElem? (i := 1) rfl)) (fun _ h => h) rfl dX12_finds_9 ?_
  refine lv_iload_n hx hb dX12_finds_12 rfl (lv_at hl 0 rfl) ?_
  refine lv_ldcw (v := 1000000) hx hb hown (hts (.constant RX12 496 (1000000)) (List.mem_of_getElem? (i := 2) rfl)) dX12_finds_13 ?_
  refine z_iast (i := 57) hx hb hK hW hS rfl (z_inl (by decide)) dX12_finds_16 (fun H locs hz1 hW hS => ?_)
  refine lv_iinc (v := 2) (lv' := [(1, .int 2), (0, .ref (ad 0))]) hx hb dX12_finds_17 hl (k := 0) rfl (by decide) (by decide) rfl (fun ls hl => ?_)
  refine lv_goto (tgt := 2) hx hb dX12_finds_20 (by decide) ?_
  refine lv_iload_n hx hb dX12_finds_2 rfl (lv_at hl 0 rfl) ?_
  refine lv_bipush (v := 16) hx hb dX12_finds_3 (by decide) ?_
  refine lv_icmp_ge (tgt := 23) hx hb dX12_finds_5 (by decide) (fun c3 => absurd c3 (by decide)) (fun c3 => ?_)
  refine lv_aload_n hx hb dX12_finds_8 rfl (lv_at hl 1 rfl) ?_
  refine z_get (T := TX12) (N := 96) (ci := 12) (i := 0) (v := .ref (ad 57)) hx hb hts zi_X12_finds_X12 hown hK hW rfl rfl 81 (by decide) (hts (.fieldLink RX12 187 "PetrolBoardModel" "far" "[I") (List.mem_of_getElem? (i := 1) rfl)) (fun _ h => h) rfl dX12_finds_9 ?_
  refine lv_iload_n hx hb dX12_finds_12 rfl (lv_at hl 0 rfl) ?_
  refine lv_ldcw (v := 1000000) hx hb hown (hts (.constant RX12 496 (1000000)) (List.mem_of_getElem? (i := 2) rfl)) dX12_finds_13 ?_
  refine z_iast (i := 57) hx hb hK hW hS rfl (z_inl (by decide)) dX12_finds_16 (fun H locs hz1 hW hS => ?_)
  refine lv_iinc (v := 3) (lv' := [(1, .int 3), (0, .ref (ad 0))]) hx hb dX12_finds_17 hl (k := 0) rfl (by decide) (by decide) rfl (fun ls hl => ?_)
  refine lv_goto (tgt := 2) hx hb dX12_finds_20 (by decide) ?_
  refine lv_iload_n hx hb dX12_finds_2 rfl (lv_at hl 0 rfl) ?_
  refine lv_bipush (v := 16) hx hb dX12_finds_3 (by decide) ?_
  refine lv_icmp_ge (tgt := 23) hx hb dX12_finds_5 (by decide) (fun c4 => absurd c4 (by decide)) (fun c4 => ?_)
  refine lv_aload_n hx hb dX12_finds_8 rfl (lv_at hl 1 rfl) ?_
  refine z_get (T := TX12) (N := 96) (ci := 12) (i := 0) (v := .ref (ad 57)) hx hb hts zi_X12_finds_X12 hown hK hW rfl rfl 81 (by decide) (hts (.fieldLink RX12 187 "PetrolBoardModel" "far" "[I") (List.mem_of_getElem? (i := 1) rfl)) (fun _ h => h) rfl dX12_finds_9 ?_
  refine lv_iload_n hx hb dX12_finds_12 rfl (lv_at hl 0 rfl) ?_
  refine lv_ldcw (v := 1000000) hx hb hown (hts (.constant RX12 496 (1000000)) (List.mem_of_getElem? (i := 2) rfl)) dX12_finds_13 ?_
  refine z_iast (i := 57) hx hb hK hW hS rfl (z_inl (by decide)) dX12_finds_16 (fun H locs hz1 hW hS => ?_)
  refine lv_iinc (v := 4) (lv' := [(1, .int 4), (0, .ref (ad 0))]) hx hb dX12_finds_17 hl (k := 0) rfl (by decide) (by decide) rfl (fun ls hl => ?_)
  refine lv_goto (tgt := 2) hx hb dX12_finds_20 (by decide) ?_
  refine lv_iload_n hx hb dX12_finds_2 rfl (lv_at hl 0 rfl) ?_
  refine lv_bipush (v := 16) hx hb dX12_finds_3 (by decide) ?_
  refine lv_icmp_ge (tgt := 23) hx hb dX12_finds_5 (by decide) (fun c5 => absurd c5 (by decide)) (fun c5 => ?_)
  refine lv_aload_n hx hb dX12_finds_8 rfl (lv_at hl 1 rfl) ?_
  refine z_get (T := TX12) (N := 96) (ci := 12) (i := 0) (v := .ref (ad 57)) hx hb hts zi_X12_finds_X12 hown hK hW rfl rfl 81 (by decide) (hts (.fieldLink RX12 187 "PetrolBoardModel" "far" "[I") (List.mem_of_getElem? (i := 1) rfl)) (fun _ h => h) rfl dX12_finds_9 ?_
  refine lv_iload_n hx hb dX12_finds_12 rfl (lv_at hl 0 rfl) ?_
  refine lv_ldcw (v := 1000000) hx hb hown (hts (.constant RX12 496 (1000000)) (List.mem_of_getElem? (i := 2) rfl)) dX12_finds_13 ?_
  refine z_iast (i := 57) hx hb hK hW hS rfl (z_inl (by decide)) dX12_finds_16 (fun H locs hz1 hW hS => ?_)
  refine lv_iinc (v := 5) (lv' := [(1, .int 5), (0, .ref (ad 0))]) hx hb dX12_finds_17 hl (k := 0) rfl (by decide) (by decide) rfl (fun ls hl => ?_)
  refine lv_goto (tgt := 2) hx hb dX12_finds_20 (by decide) ?_
  refine lv_iload_n hx hb dX12_finds_2 rfl (lv_at hl 0 rfl) ?_
  refine lv_bipush (v := 16) hx hb dX12_finds_3 (by decide) ?_
  refine lv_icmp_ge (tgt := 23) hx hb dX12_finds_5 (by decide) (fun c6 => absurd c6 (by decide)) (fun c6 => ?_)
  refine lv_aload_n hx hb dX12_finds_8 rfl (lv_at hl 1 rfl) ?_
  refine z_get (T := TX12) (N := 96) (ci := 12) (i := 0) (v := .ref (ad 57)) hx hb hts zi_X12_finds_X12 hown hK hW rfl rfl 81 (by decide) (hts (.fieldLink RX12 187 "PetrolBoardModel" "far" "[I") (List.mem_of_getElem? (i := 1) rfl)) (fun _ h => h) rfl dX12_finds_9 ?_
  refine lv_iload_n hx hb dX12_finds_12 rfl (lv_at hl 0 rfl) ?_
  refine lv_ldcw (v := 1000000) hx hb hown (hts (.constant RX12 496 (1000000)) (List.mem_of_getElem? (i := 2) rfl)) dX12_finds_13 ?_
  refine z_iast (i := 57) hx hb hK hW hS rfl (z_inl (by decide)) dX12_finds_16 (fun H locs hz1 hW hS => ?_)
  refine lv_iinc (v := 6) (lv' := [(1, .int 6), (0, .ref (ad 0))]) hx hb dX12_finds_17 hl (k := 0) rfl (by decide) (by decide) rfl (fun ls hl => ?_)
  refine lv_goto (tgt := 2) hx hb dX12_finds_20 (by decide) ?_
  refine lv_iload_n hx hb dX12_finds_2 rfl (lv_at hl 0 rfl) ?_
  refine lv_bipush (v := 16) hx hb dX12_finds_3 (by decide) ?_
  refine lv_icmp_ge (tgt := 23) hx hb dX12_finds_5 (by decide) (fun c7 => absurd c7 (by decide)) (fun c7 => ?_)
  refine lv_aload_n hx hb dX12_finds_8 rfl (lv_at hl 1 rfl) ?_
  refine z_get (T := TX12) (N := 96) (ci := 12) (i := 0) (v := .ref (ad 57)) hx hb hts zi_X12_finds_X12 hown hK hW rfl rfl 81 (by decide) (hts (.fieldLink RX12 187 "PetrolBoardModel" "far" "[I") (List.mem_of_getElem? (i := 1) rfl)) (fun _ h => h) rfl dX12_finds_9 ?_
  refine lv_iload_n hx hb dX12_finds_12 rfl (lv_at hl 0 rfl) ?_
  refine lv_ldcw (v := 1000000) hx hb hown (hts (.constant RX12 496 (1000000)) (List.mem_of_getElem? (i := 2) rfl)) dX12_finds_13 ?_
  refine z_iast (i := 57) hx hb hK hW hS rfl (z_inl (by decide)) dX12_finds_16 (fun H locs hz1 hW hS => ?_)
  refine lv_iinc (v := 7) (lv' := [(1, .int 7), (0, .ref (ad 0))]) hx hb dX12_finds_17 hl (k := 0) rfl (by decide) (by decide) rfl (fun ls hl => ?_)
  refine lv_goto (tgt := 2) hx hb dX12_finds_20 (by decide) ?_
  refine lv_iload_n hx hb dX12_finds_2 rfl (lv_at hl 0 rfl) ?_
  refine lv_bipush (v := 16) hx hb dX12_finds_3 (by decide) ?_
  refine lv_icmp_ge (tgt := 23) hx hb dX12_finds_5 (by decide) (fun c8 => absurd c8 (by decide)) (fun c8 => ?_)
  refine lv_aload_n hx hb dX12_finds_8 rfl (lv_at hl 1 rfl) ?_
  refine z_get (T := TX12) (N := 96) (ci := 12) (i := 0) (v := .ref (ad 57)) hx hb hts zi_X12_finds_X12 hown hK hW rfl rfl 81 (by decide) (hts (.fieldLink RX12 187 "PetrolBoardModel" "far" "[I") (List.mem_of_getElem? (i := 1) rfl)) (fun _ h => h) rfl dX12_finds_9 ?_
  refine lv_iload_n hx hb dX12_finds_12 rfl (lv_at hl 0 rfl) ?_
  refine lv_ldcw (v := 1000000) hx hb hown (hts (.constant RX12 496 (1000000)) (List.mem_of_getElem? (i := 2) rfl)) dX12_finds_13 ?_
  refine z_iast (i := 57) hx hb hK hW hS rfl (z_inl (by decide)) dX12_finds_16 (fun H locs hz1 hW hS => ?_)
  refine lv_iinc (v := 8) (lv' := [(1, .int 8), (0, .ref (ad 0))]) hx hb dX12_finds_17 hl (k := 0) rfl (by decide) (by decide) rfl (fun ls hl => ?_)
  refine lv_goto (tgt := 2) hx hb dX12_finds_20 (by decide) ?_
  refine lv_iload_n hx hb dX12_finds_2 rfl (lv_at hl 0 rfl) ?_
  refine lv_bipush (v := 16) hx hb dX12_finds_3 (by decide) ?_
  refine lv_icmp_ge (tgt := 23) hx hb dX12_finds_5 (by decide) (fun c9 => absurd c9 (by decide)) (fun c9 => ?_)
  refine lv_aload_n hx hb dX12_finds_8 rfl (lv_at hl 1 rfl) ?_
  refine z_get (T := TX12) (N := 96) (ci := 12) (i := 0) (v := .ref (ad 57)) hx hb hts zi_X12_finds_X12 hown hK hW rfl rfl 81 (by decide) (hts (.fieldLink RX12 187 "PetrolBoardModel" "far" "[I") (List.mem_of_getElem? (i := 1) rfl)) (fun _ h => h) rfl dX12_finds_9 ?_
  refine lv_iload_n hx hb dX12_finds_12 rfl (lv_at hl 0 rfl) ?_
  refine lv_ldcw (v := 1000000) hx hb hown (hts (.constant RX12 496 (1000000)) (List.mem_of_getElem? (i := 2) rfl)) dX12_finds_13 ?_
  refine z_iast (i := 57) hx hb hK hW hS rfl (z_inl (by decide)) dX12_finds_16 (fun H locs hz1 hW hS => ?_)
  refine lv_iinc (v := 9) (lv' := [(1, .int 9), (0, .ref (ad 0))]) hx hb dX12_finds_17 hl (k := 0) rfl (by decide) (by decide) rfl (fun ls hl => ?_)
  refine lv_goto (tgt := 2) hx hb dX12_finds_20 (by decide) ?_
  refine lv_iload_n hx hb dX12_finds_2 rfl (lv_at hl 0 rfl) ?_
  refine lv_bipush (v := 16) hx hb dX12_finds_3 (by decide) ?_
  refine lv_icmp_ge (tgt := 23) hx hb dX12_finds_5 (by decide) (fun c10 => absurd c10 (by decide)) (fun c10 => ?_)
  refine lv_aload_n hx hb dX12_finds_8 rfl (lv_at hl 1 rfl) ?_
  refine z_get (T := TX12) (N := 96) (ci := 12) (i := 0) (v := .ref (ad 57)) hx hb hts zi_X12_finds_X12 hown hK hW rfl rfl 81 (by decide) (hts (.fieldLink RX12 187 "PetrolBoardModel" "far" "[I") (List.mem_of_getElem? (i := 1) rfl)) (fun _ h => h) rfl dX12_finds_9 ?_
  refine lv_iload_n hx hb dX12_finds_12 rfl (lv_at hl 0 rfl) ?_
  refine lv_ldcw (v := 1000000) hx hb hown (hts (.constant RX12 496 (1000000)) (List.mem_of_getElem? (i := 2) rfl)) dX12_finds_13 ?_
  refine z_iast (i := 57) hx hb hK hW hS rfl (z_inl (by decide)) dX12_finds_16 (fun H locs hz1 hW hS => ?_)
  refine lv_iinc (v := 10) (lv' := [(1, .int 10), (0, .ref (ad 0))]) hx hb dX12_finds_17 hl (k := 0) rfl (by decide) (by decide) rfl (fun ls hl => ?_)
  refine lv_goto (tgt := 2) hx hb dX12_finds_20 (by decide) ?_
  refine lv_iload_n hx hb dX12_finds_2 rfl (lv_at hl 0 rfl) ?_
  refine lv_bipush (v := 16) hx hb dX12_finds_3 (by decide) ?_
  refine lv_icmp_ge (tgt := 23) hx hb dX12_finds_5 (by decide) (fun c11 => absurd c11 (by decide)) (fun c11 => ?_)
  refine lv_aload_n hx hb dX12_finds_8 rfl (lv_at hl 1 rfl) ?_
  refine z_get (T := TX12) (N := 96) (ci := 12) (i := 0) (v := .ref (ad 57)) hx hb hts zi_X12_finds_X12 hown hK hW rfl rfl 81 (by decide) (hts (.fieldLink RX12 187 "PetrolBoardModel" "far" "[I") (List.mem_of_getElem? (i := 1) rfl)) (fun _ h => h) rfl dX12_finds_9 ?_
  refine lv_iload_n hx hb dX12_finds_12 rfl (lv_at hl 0 rfl) ?_
  refine lv_ldcw (v := 1000000) hx hb hown (hts (.constant RX12 496 (1000000)) (List.mem_of_getElem? (i := 2) rfl)) dX12_finds_13 ?_
  refine z_iast (i := 57) hx hb hK hW hS rfl (z_inl (by decide)) dX12_finds_16 (fun H locs hz1 hW hS => ?_)
  refine lv_iinc (v := 11) (lv' := [(1, .int 11), (0, .ref (ad 0))]) hx hb dX12_finds_17 hl (k := 0) rfl (by decide) (by decide) rfl (fun ls hl => ?_)
  refine lv_goto (tgt := 2) hx hb dX12_finds_20 (by decide) ?_
  refine lv_iload_n hx hb dX12_finds_2 rfl (lv_at hl 0 rfl) ?_
  refine lv_bipush (v := 16) hx hb dX12_finds_3 (by decide) ?_
  refine lv_icmp_ge (tgt := 23) hx hb dX12_finds_5 (by decide) (fun c12 => absurd c12 (by decide)) (fun c12 => ?_)
  refine lv_aload_n hx hb dX12_finds_8 rfl (lv_at hl 1 rfl) ?_
  refine z_get (T := TX12) (N := 96) (ci := 12) (i := 0) (v := .ref (ad 57)) hx hb hts zi_X12_finds_X12 hown hK hW rfl rfl 81 (by decide) (hts (.fieldLink RX12 187 "PetrolBoardModel" "far" "[I") (List.mem_of_getElem? (i := 1) rfl)) (fun _ h => h) rfl dX12_finds_9 ?_
  refine lv_iload_n hx hb dX12_finds_12 rfl (lv_at hl 0 rfl) ?_
  refine lv_ldcw (v := 1000000) hx hb hown (hts (.constant RX12 496 (1000000)) (List.mem_of_getElem? (i := 2) rfl)) dX12_finds_13 ?_
  refine z_iast (i := 57) hx hb hK hW hS rfl (z_inl (by decide)) dX12_finds_16 (fun H locs hz1 hW hS => ?_)
  refine lv_iinc (v := 12) (lv' := [(1, .int 12), (0, .ref (ad 0))]) hx hb dX12_finds_17 hl (k := 0) rfl (by decide) (by decide) rfl (fun ls hl => ?_)
  refine lv_goto (tgt := 2) hx hb dX12_finds_20 (by decide) ?_
  refine lv_iload_n hx hb dX12_finds_2 rfl (lv_at hl 0 rfl) ?_
  refine lv_bipush (v := 16) hx hb dX12_finds_3 (by decide) ?_
  refine lv_icmp_ge (tgt := 23) hx hb dX12_finds_5 (by decide) (fun c13 => absurd c13 (by decide)) (fun c13 => ?_)
  refine lv_aload_n hx hb dX12_finds_8 rfl (lv_at hl 1 rfl) ?_
  refine z_get (T := TX12) (N := 96) (ci := 12) (i := 0) (v := .ref (ad 57)) hx hb hts zi_X12_finds_X12 hown hK hW rfl rfl 81 (by decide) (hts (.fieldLink RX12 187 "PetrolBoardModel" "far" "[I") (List.mem_of_getElem? (i := 1) rfl)) (fun _ h => h) rfl dX12_finds_9 ?_
  refine lv_iload_n hx hb dX12_finds_12 rfl (lv_at hl 0 rfl) ?_
  refine lv_ldcw (v := 1000000) hx hb hown (hts (.constant RX12 496 (1000000)) (List.mem_of_getElem? (i := 2) rfl)) dX12_finds_13 ?_
  refine z_iast (i := 57) hx hb hK hW hS rfl (z_inl (by decide)) dX12_finds_16 (fun H locs hz1 hW hS => ?_)
  refine lv_iinc (v := 13) (lv' := [(1, .int 13), (0, .ref (ad 0))]) hx hb dX12_finds_17 hl (k := 0) rfl (by decide) (by decide) rfl (fun ls hl => ?_)
  refine lv_goto (tgt := 2) hx hb dX12_finds_20 (by decide) ?_
  refine lv_iload_n hx hb dX12_finds_2 rfl (lv_at hl 0 rfl) ?_
  refine lv_bipush (v := 16) hx hb dX12_finds_3 (by decide) ?_
  refine lv_icmp_ge (tgt := 23) hx hb dX12_finds_5 (by decide) (fun c14 => absurd c14 (by decide)) (fun c14 => ?_)
  refine lv_aload_n hx hb dX12_finds_8 rfl (lv_at hl 1 rfl) ?_
  refine z_get (T := TX12) (N := 96) (ci := 12) (i := 0) (v := .ref (ad 57)) hx hb hts zi_X12_finds_X12 hown hK hW rfl rfl 81 (by decide) (hts (.fieldLink RX12 187 "PetrolBoardModel" "far" "[I") (List.mem_of_getElem? (i := 1) rfl)) (fun _ h => h) rfl dX12_finds_9 ?_
  refine lv_iload_n hx hb dX12_finds_12 rfl (lv_at hl 0 rfl) ?_
  refine lv_ldcw (v := 1000000) hx hb hown (hts (.constant RX12 496 (1000000)) (List.mem_of_getElem? (i := 2) rfl)) dX12_finds_13 ?_
  refine z_iast (i := 57) hx hb hK hW hS rfl (z_inl (by decide)) dX12_finds_16 (fun H locs hz1 hW hS => ?_)
  refine lv_iinc (v := 14) (lv' := [(1, .int 14), (0, .ref (ad 0))]) hx hb dX12_finds_17 hl (k := 0) rfl (by decide) (by decide) rfl (fun ls hl => ?_)
  refine lv_goto (tgt := 2) hx hb dX12_finds_20 (by decide) ?_
  refine lv_iload_n hx hb dX12_finds_2 rfl (lv_at hl 0 rfl) ?_
  refine lv_bipush (v := 16) hx hb dX12_finds_3 (by decide) ?_
  refine lv_icmp_ge (tgt := 23) hx hb dX12_finds_5 (by decide) (fun c15 => absurd c15 (by decide)) (fun c15 => ?_)
  refine lv_aload_n hx hb dX12_finds_8 rfl (lv_at hl 1 rfl) ?_
  refine z_get (T := TX12) (N := 96) (ci := 12) (i := 0) (v := .ref (ad 57)) hx hb hts zi_X12_finds_X12 hown hK hW rfl rfl 81 (by decide) (hts (.fieldLink RX12 187 "PetrolBoardModel" "far" "[I") (List.mem_of_getElem? (i := 1) rfl)) (fun _ h => h) rfl dX12_finds_9 ?_
  refine lv_iload_n hx hb dX12_finds_12 rfl (lv_at hl 0 rfl) ?_
  refine lv_ldcw (v := 1000000) hx hb hown (hts (.constant RX12 496 (1000000)) (List.mem_of_getElem? (i := 2) rfl)) dX12_finds_13 ?_
  refine z_iast (i := 57) hx hb hK hW hS rfl (z_inl (by decide)) dX12_finds_16 (fun H locs hz1 hW hS => ?_)
  refine lv_iinc (v := 15) (lv' := [(1, .int 15), (0, .ref (ad 0))]) hx hb dX12_finds_17 hl (k := 0) rfl (by decide) (by decide) rfl (fun ls hl => ?_)
  refine lv_goto (tgt := 2) hx hb dX12_finds_20 (by decide) ?_
  refine lv_iload_n hx hb dX12_finds_2 rfl (lv_at hl 0 rfl) ?_
  refine lv_bipush (v := 16) hx hb dX12_finds_3 (by decide) ?_
  refine lv_icmp_ge (tgt := 23) hx hb dX12_finds_5 (by decide) (fun c16 => absurd c16 (by decide)) (fun c16 => ?_)
  refine lv_aload_n hx hb dX12_finds_8 rfl (lv_at hl 1 rfl) ?_
  refine z_get (T := TX12) (N := 96) (ci := 12) (i := 0) (v := .ref (ad 57)) hx hb hts zi_X12_finds_X12 hown hK hW rfl rfl 81 (by decide) (hts (.fieldLink RX12 187 "PetrolBoardModel" "far" "[I") (List.mem_of_getElem? (i := 1) rfl)) (fun _ h => h) rfl dX12_finds_9 ?_
  refine lv_iload_n hx hb dX12_finds_12 rfl (lv_at hl 0 rfl) ?_
  refine lv_ldcw (v := 1000000) hx hb hown (hts (.constant RX12 496 (1000000)) (List.mem_of_getElem? (i := 2) rfl)) dX12_finds_13 ?_
  refine z_iast (i := 57) hx hb hK hW hS rfl (z_inl (by decide)) dX12_finds_16 (fun H locs hz1 hW hS => ?_)
  refine lv_iinc (v := 16) (lv' := [(1, .int 16), (0, .ref (ad 0))]) hx hb dX12_finds_17 hl (k := 0) rfl (by decide) (by decide) rfl (fun ls hl => ?_)
  refine lv_goto (tgt := 2) hx hb dX12_finds_20 (by decide) ?_
  refine lv_iload_n hx hb dX12_finds_2 rfl (lv_at hl 0 rfl) ?_
  refine lv_bipush (v := 16) hx hb dX12_finds_3 (by decide) ?_
  refine lv_icmp_ge (tgt := 23) hx hb dX12_finds_5 (by decide) (fun c17 => ?_) (fun c17 => absurd (by decide) c17)
  refine lv_aload_n hx hb dX12_finds_23 rfl (lv_at hl 1 rfl) ?_
  refine z_get (T := TX12) (N := 96) (ci := 12) (i := 0) (v := .ref (ad 57)) hx hb hts zi_X12_finds_X12 hown hK hW rfl rfl 81 (by decide) (hts (.fieldLink RX12 187 "PetrolBoardModel" "far" "[I") (List.mem_of_getElem? (i := 1) rfl)) (fun _ h => h) rfl dX12_finds_24 ?_
  refine lv_iconst (v := 0) hx hb dX12_finds_27 (by decide) ?_
  refine lv_iconst (v := 0) hx hb dX12_finds_28 (by decide) ?_
  refine z_iast (i := 57) hx hb hK hW hS rfl (z_inl (by decide)) dX12_finds_29 (fun H locs hz1 hW hS => ?_)
  refine lv_iconst (v := 0) hx hb dX12_finds_30 (by decide) ?_
  refine lv_istore_n (lv' := [(1, .int 0), (0, .ref (ad 0))]) hx hb dX12_finds_31 rfl hl (by decide) rfl (fun ls hl => ?_)
  have lp18 : ∀ (f : Nat) (y19 : Int32) (H : Heap) (locs : List Loc) (ls : Array Slot), 0 ≤ y19 → y19 ≤ 16 → (16 : Int32).toInt < y19.toInt + (f : Int) → z_W G A (shM, ad, (z_up (z_up (z_up (z_up (z_up (z_up (z_up (z_up (z_up (z_up (z_up (z_up (z_up (z_up (z_up (z_up (z_up IM 57 (0 : Int32).toNatClampNeg 1000000) 57 (1 : Int32).toNatClampNeg 1000000) 57 (2 : Int32).toNatClampNeg 1000000) 57 (3 : Int32).toNatClampNeg 1000000) 57 (4 : Int32).toNatClampNeg 1000000) 57 (5 : Int32).toNatClampNeg 1000000) 57 (6 : Int32).toNatClampNeg 1000000) 57 (7 : Int32).toNatClampNeg 1000000) 57 (8 : Int32).toNatClampNeg 1000000) 57 (9 : Int32).toNatClampNeg 1000000) 57 (10 : Int32).toNatClampNeg 1000000) 57 (11 : Int32).toNatClampNeg 1000000) 57 (12 : Int32).toNatClampNeg 1000000) 57 (13 : Int32).toNatClampNeg 1000000) 57 (14 : Int32).toNatClampNeg 1000000) 57 (15 : Int32).toNatClampNeg 1000000) 57 (0 : Int32).toNatClampNeg 0), JM, PM ad) H → va_S A s.heap H locs → lv_has ls 4 [(1, .int y19), (0, .ref (ad 0))] → W p l e (headSpec wsX12_finds { frames := 1, cells := 0, slots := 0, locals := 12 }).room s m ([.ref (ad 0)] : List Value).toArray below meth c H locs 0 0 (MQ below (va_Qi (fun (r : Int32) (u1 : z_U) => r = 0) (z_B G A) A) ([.ref (ad 0)] : List Value).toArray s 0 0 A) (F0 m 32 ls []) := by
    intro f
    induction f with
    | zero => intro y19 H locs ls lp181 lp182 lp183; exact (z_zero lp182 lp183).elim
    | succ f lp18ih =>
      intro y19 H locs ls lp181 lp182 lp183 hW hS hl
      refine lv_iload_n hx hb dX12_finds_32 rfl (lv_at hl 0 rfl) ?_
      refine lv_bipush (v := 16) hx hb dX12_finds_33 (by decide) ?_
      refine lv_icmp_ge (tgt := 159) hx hb dX12_finds_35 (by decide) (fun c20 => ?_) (fun c20 => ?_)
      · refine lv_aload_n hx hb dX12_finds_159 rfl (lv_at hl 1 rfl) ?_
        refine z_get (T := TX12) (N := 96) (ci := 12) (i := 0) (v := .ref (ad 57)) hx hb hts zi_X12_finds_X12 hown hK hW rfl rfl 81 (by decide) (hts (.fieldLink RX12 187 "PetrolBoardModel" "far" "[I") (List.mem_of_getElem? (i := 1) rfl)) (fun _ h => h) rfl dX12_finds_160 ?_
        refine lv_bipush (v := 15) hx hb dX12_finds_163 (by decide) ?_
        refine z_iald (i := 57) hx hb hK hW rfl (z_inl (by decide)) dX12_finds_165 ?_
        refine z_topi (v := 1000000) (by decide) ?_
        refine lv_ldcw (v := 1000000) hx hb hown (hts (.constant RX12 496 (1000000)) (List.mem_of_getElem? (i := 2) rfl)) dX12_finds_166 ?_
        refine lv_icmp_ge (tgt := 176) hx hb dX12_finds_169 (by decide) (fun c21 => ?_) (fun c21 => absurd (by decide) c21)
        refine lv_iconst (v := 0) hx hb dX12_finds_176 (by decide) ?_
        exact z_zret hx hb hr (by decide) hK hS (Nat.le_of_ble_eq_true rfl) (Nat.le_of_ble_eq_true rfl) hlocks dX12_finds_177 (shM, ad, (z_up (z_up (z_up (z_up (z_up (z_up (z_up (z_up (z_up (z_up (z_up (z_up (z_up (z_up (z_up (z_up (z_up IM 57 (0 : Int32).toNatClampNeg 1000000) 57 (1 : Int32).toNatClampNeg 1000000) 57 (2 : Int32).toNatClampNeg 1000000) 57 (3 : Int32).toNatClampNeg 1000000) 57 (4 : Int32).toNatClampNeg 1000000) 57 (5 : Int32).toNatClampNeg 1000000) 57 (6 : Int32).toNatClampNeg 1000000) 57 (7 : Int32).toNatClampNeg 1000000) 57 (8 : Int32).toNatClampNeg 1000000) 57 (9 : Int32).toNatClampNeg 1000000) 57 (10 : Int32).toNatClampNeg 1000000) 57 (11 : Int32).toNatClampNeg 1000000) 57 (12 : Int32).toNatClampNeg 1000000) 57 (13 : Int32).toNatClampNeg 1000000) 57 (14 : Int32).toNatClampNeg 1000000) 57 (15 : Int32).toNatClampNeg 1000000) 57 (0 : Int32).toNatClampNeg 0), JM, PM ad) hW rfl
      · refine lv_iconst (v := 0) hx hb dX12_finds_38 (by decide) ?_
        refine lv_istore_n (lv' := [(2, .int 0), (1, .int y19), (0, .ref (ad 0))]) hx hb dX12_finds_39 rfl hl (by decide) rfl (fun ls hl => ?_)
        have lp22 : ∀ (f : Nat) (y23 : Int32) (H : Heap) (locs : List Loc) (ls : Array Slot), 0 ≤ y23 → y23 ≤ 16 → (16 : Int32).toInt < y23.toInt + (f : Int) → z_W G A (shM, ad, (z_up (z_up (z_up (z_up (z_up (z_up (z_up (z_up (z_up (z_up (z_up (z_up (z_up (z_up (z_up (z_up (z_up IM 57 (0 : Int32).toNatClampNeg 1000000) 57 (1 : Int32).toNatClampNeg 1000000) 57 (2 : Int32).toNatClampNeg 1000000) 57 (3 : Int32).toNatClampNeg 1000000) 57 (4 : Int32).toNatClampNeg 1000000) 57 (5 : Int32).toNatClampNeg 1000000) 57 (6 : Int32).toNatClampNeg 1000000) 57 (7 : Int32).toNatClampNeg 1000000) 57 (8 : Int32).toNatClampNeg 1000000) 57 (9 : Int32).toNatClampNeg 1000000) 57 (10 : Int32).toNatClampNeg 1000000) 57 (11 : Int32).toNatClampNeg 1000000) 57 (12 : Int32).toNatClampNeg 1000000) 57 (13 : Int32).toNatClampNeg 1000000) 57 (14 : Int32).toNatClampNeg 1000000) 57 (15 : Int32).toNatClampNeg 1000000) 57 (0 : Int32).toNatClampNeg 0), JM, PM ad) H → va_S A s.heap H locs → lv_has ls 4 [(2, .int y23), (1, .int y19), (0, .ref (ad 0))] → W p l e (headSpec wsX12_finds { frames := 1, cells := 0, slots := 0, locals := 12 }).room s m ([.ref (ad 0)] : List Value).toArray below meth c H locs 0 0 (MQ below (va_Qi (fun (r : Int32) (u1 : z_U) => r = 0) (z_B G A) A) ([.ref (ad 0)] : List Value).toArray s 0 0 A) (F0 m 40 ls []) := by
          intro f
          induction f with
          | zero => intro y23 H locs ls lp221 lp222 lp223; exact (z_zero lp222 lp223).elim
          | succ f lp22ih =>
            intro y23 H locs ls lp221 lp222 lp223 hW hS hl
            refine lv_iload_n hx hb dX12_finds_40 rfl (lv_at hl 0 rfl) ?_
            refine lv_bipush (v := 16) hx hb dX12_finds_41 (by decide) ?_
            refine lv_icmp_ge (tgt := 153) hx hb dX12_finds_43 (by decide) (fun c24 => ?_) (fun c24 => ?_)
            · obtain ⟨x25, ex25⟩ : ∃ y : Int32, y = y19 + 1 := ⟨_, rfl⟩
              refine lv_iinc (v := x25) (lv' := [(1, .int x25), (2, .int y23), (0, .ref (ad 0))]) hx hb dX12_finds_153 hl (k := 1) rfl (by rw [ex25]; rfl) (by decide) rfl (fun ls hl => ?_)
              refine lv_goto (tgt := 32) hx hb dX12_finds_156 (by decide) ?_
              obtain ⟨z26a, z26b, z26c⟩ := z_step ex25 lp181 c20 lp183
              exact lp18ih x25 H locs ls z26a z26b z26c hW hS (lv_sub hl [0, 2] rfl)
            · refine lv_iconst (v := 0) hx hb dX12_finds_46 (by decide) ?_
              refine lv_istore_n (lv' := [(3, .int 0), (2, .int y23), (1, .int y19), (0, .ref (ad 0))]) hx hb dX12_finds_47 rfl hl (by decide) rfl (fun ls hl => ?_)
              have lp27 : ∀ (f : Nat) (y28 : Int32) (H : Heap) (locs : List Loc) (ls : Array Slot), 0 ≤ y28 → y28 ≤ 16 → (16 : Int32).toInt < y28.toInt + (f : Int) → z_W G A (shM, ad, (z_up (z_up (z_up (z_up (z_up (z_up (z_up (z_up (z_up (z_up (z_up (z_up (z_up (z_up (z_up (z_up (z_up IM 57 (0 : Int32).toNatClampNeg 1000000) 57 (1 : Int32).toNatClampNeg 1000000) 57 (2 : Int32).toNatClampNeg 1000000) 57 (3 : Int32).toNatClampNeg 1000000) 57 (4 : Int32).toNatClampNeg 1000000) 57 (5 : Int32).toNatClampNeg 1000000) 57 (6 : Int32).toNatClampNeg 1000000) 57 (7 : Int32).toNatClampNeg 1000000) 57 (8 : Int32).toNatClampNeg 1000000) 57 (9 : Int32).toNatClampNeg 1000000) 57 (10 : Int32).toNatClampNeg 1000000) 57 (11 : Int32).toNatClampNeg 1000000) 57 (12 : Int32).toNatClampNeg 1000000) 57 (13 : Int32).toNatClampNeg 1000000) 57 (14 : Int32).toNatClampNeg 1000000) 57 (15 : Int32).toNatClampNeg 1000000) 57 (0 : Int32).toNatClampNeg 0), JM, PM ad) H → va_S A s.heap H locs → lv_has ls 4 [(3, .int y28), (2, .int y23), (1, .int y19), (0, .ref (ad 0))] → W p l e (headSpec wsX12_finds { frames := 1, cells := 0, slots := 0, locals := 12 }).room s m ([.ref (ad 0)] : List Value).toArray below meth c H locs 0 0 (MQ below (va_Qi (fun (r : Int32) (u1 : z_U) => r = 0) (z_B G A) A) ([.ref (ad 0)] : List Value).toArray s 0 0 A) (F0 m 48 ls []) := by
                intro f
                induction f with
                | zero => intro y28 H locs ls lp271 lp272 lp273; exact (z_zero lp272 lp273).elim
                | succ f lp27ih =>
                  intro y28 H locs ls lp271 lp272 lp273 hW hS hl
                  refine lv_iload_n hx hb dX12_finds_48 rfl (lv_at hl 0 rfl) ?_
                  refine lv_bipush (v := 16) hx hb dX12_finds_49 (by decide) ?_
                  refine lv_icmp_ge (tgt := 147) hx hb dX12_finds_51 (by decide) (fun c29 => ?_) (fun c29 => ?_)
                  · obtain ⟨x30, ex30⟩ : ∃ y : Int32, y = y23 + 1 := ⟨_, rfl⟩
                    refine lv_iinc (v := x30) (lv' := [(2, .int x30), (3, .int y28), (1, .int y19), (0, .ref (ad 0))]) hx hb dX12_finds_147 hl (k := 1) rfl (by rw [ex30]; rfl) (by decide) rfl (fun ls hl => ?_)
                    refine lv_goto (tgt := 40) hx hb dX12_finds_150 (by decide) ?_
                    obtain ⟨z31a, z31b, z31c⟩ := z_step ex30 lp221 c24 lp223
                    exact lp22ih x30 H locs ls z31a z31b z31c hW hS (lv_sub hl [0, 2, 3] rfl)
                  · refine lv_aload_n hx hb dX12_finds_54 rfl (lv_at hl 3 rfl) ?_
                    refine z_get (T := TX12) (N := 96) (ci := 12) (i := 0) (v := .ref (ad 55)) hx hb hts zi_X12_finds_X12 hown hK hW rfl rfl 79 (by decide) (hts (.fieldLink RX12 181 "PetrolBoardModel" "room" "[I") (List.mem_of_getElem? (i := 3) rfl)) (fun _ h => h) rfl dX12_finds_55 ?_
                    refine lv_bipush (v := 16) hx hb dX12_finds_58 (by decide) ?_
                    refine lv_iload_n hx hb dX12_finds_60 rfl (lv_at hl 1 rfl) ?_
                    refine lv_imul hx hb dX12_finds_61 ?_
                    refine lv_iload_n hx hb dX12_finds_62 rfl (lv_at hl 0 rfl) ?_
                    refine lv_iadd hx hb dX12_finds_63 ?_
                    refine z_iald (i := 55) hx hb hK hW rfl (z_in16 lp221 c24 lp271 c29) dX12_finds_64 ?_
                    refine z_topi (v := 0) rfl ?_
                    refine lv_if_eq (tgt := 141) hx hb dX12_finds_65 (by decide) (fun c32 => ?_) (fun c32 => absurd (by decide) c32)
                    obtain ⟨x33, ex33⟩ : ∃ y : Int32, y = y28 + 1 := ⟨_, rfl⟩
                    refine lv_iinc (v := x33) (lv' := [(3, .int x33), (2, .int y23), (1, .int y19), (0, .ref (ad 0))]) hx hb dX12_finds_141 hl (k := 0) rfl (by rw [ex33]; rfl) (by decide) rfl (fun ls hl => ?_)
                    refine lv_goto (tgt := 48) hx hb dX12_finds_144 (by decide) ?_
                    obtain ⟨z34a, z34b, z34c⟩ := z_step ex33 lp271 c29 lp273
                    exact lp27ih x33 H locs ls z34a z34b z34c hW hS (lv_sub hl [0, 1, 2, 3] rfl)
              exact lp27 17 0 H locs ls (by decide) (by decide) (by decide) hW hS hl
        exact lp22 17 0 H locs ls (by decide) (by decide) (by decide) hW hS hl
  exact lp18 17 0 H locs ls (by decide) (by decide) (by decide) hW hS hl
theorem zi_X12_flow_X12 : ∀ w ∈ wsX120, w ∈ wsX12_flow := fun w h => (List.mem_cons_of_mem _ (List.mem_append_right _ h))
set_option maxHeartbeats 4000000 in
set_option maxRecDepth 100000 in
theorem ct_X12_flow (l : Launch) (G : z_G) (ad : Nat → Nat) (a1 : Int32) (a2 : Int32) : z_M l yX12_flow wsX12_flow { frames := 2, cells := 0, slots := 0, locals := 35 } [.ref (ad 0), .int a1, .int a2] G (shM, ad, IM, JM, PM ad) (fun r u1 => r = fr_flow a1 a2) 0 0 := by
  intro sz
  refine z_headQ (cc := cX12_flow) (maxL := 7) (ret := (some .int)) (by decide) rfl (Nat.le_of_ble_eq_true rfl) ?_
  intro p e s m below meth c ls hIn hK hsz hW hl
  obtain ⟨hx, hb, hr, hml, hown, hts, hlocks, hname⟩ := hIn
  subst hsz
  have hown : s.vm.findClass RX12 = some m.cls := hown
  have hA : ∀ q : Nat, s.heap.size ≤ q → z_A (shM, ad, IM, JM, PM ad) s.heap.size q := fun q h => Or.inr h
  generalize hAe : z_A (shM, ad, IM, JM, PM ad) s.heap.size = A at *
  have hS : va_S A s.heap s.heap [] := va_S.rf
  have hl : lv_has ls 7 [(0, .ref (ad 0)), (1, .int a1), (2, .int a2)] := hl
  refine lv_iload_n hx hb dX12_flow_0 rfl (lv_at hl 1 rfl) ?_
  refine lv_iconst (v := (-1)) hx hb dX12_flow_1 (by decide) ?_
  refine lv_icmp_eq (tgt := 17) hx hb dX12_flow_2 (by decide) (fun c1 => ?_) (fun c1 => ?_)
  · refine lv_iload_n hx hb dX12_flow_17 rfl (lv_at hl 2 rfl) ?_
    refine lv_iconst (v := 0) hx hb dX12_flow_18 (by decide) ?_
    refine lv_iconst (v := 1) hx hb dX12_flow_19 (by decide) ?_
    refine z_ci hW hS hA (va_runS (As := [.int a2, .int 0, .int 1]) (rest := []) ⟨hx, hb, hml, hown, hts⟩ (ct_X12_within l G (shM, ad, IM, JM, PM ad) a2 0 1 _) (va_cwS 3 hts gX12_flow_X12_within rfl rfl rfl (by decide +kernel) ⟨Nat.le_of_ble_eq_true rfl, Nat.le_of_ble_eq_true rfl⟩) (z_preS hK hW) rfl rfl hl.1 rfl (lv_room (Nat.le_of_ble_eq_true rfl)) dX12_flow_20 ⟨Nat.le_of_ble_eq_true rfl, Nat.le_of_ble_eq_true rfl⟩) (fun r u1 H locs hp hW hS => ?_)
    obtain ⟨e9, hp⟩ := hp
    rw [e9] at hW
    rcases hp with ⟨rfl, h2, h3⟩ | ⟨rfl, h4⟩
    · refine lv_if_ne (tgt := 28) hx hb dX12_flow_23 (by decide) (fun c5 => ?_) (fun c5 => absurd c5 (by decide))
      refine lv_iconst (v := 0) hx hb dX12_flow_28 (by decide) ?_
      refine lv_istore_n (lv' := [(3, .int 0), (0, .ref (ad 0)), (1, .int a1), (2, .int a2)]) hx hb dX12_flow_29 rfl hl (by decide) rfl (fun ls hl => ?_)
      have lp6 : ∀ (f : Nat) (y7 : Int32) (H : Heap) (locs : List Loc) (ls : Array Slot), 0 ≤ y7 → y7 ≤ 256 → (256 : Int32).toInt < y7.toInt + (f : Int) → z_W G A (shM, ad, IM, JM, PM ad) H → va_S A s.heap H locs → lv_has ls 7 [(3, .int y7), (0, .ref (ad 0)), (1, .int a1), (2, .int a2)] → W p l e (headSpec wsX12_flow { frames := 2, cells := 0, slots := 0, locals := 35 }).room s m ([.ref (ad 0), .int a1, .int a2] : List Value).toArray below meth c H locs 0 0 (MQ below (va_Qi (fun (r : Int32) (u1 : z_U) => r = fr_flow a1 a2) (z_B G A) A) ([.ref (ad 0), .int a1, .int a2] : List Value).toArray s 0 0 A) (F0 m 30 ls []) := by
        intro f
        induction f with
        | zero => intro y7 H locs ls lp61 lp62 lp63; exact (z_zero lp62 lp63).elim
        | succ f lp6ih =>
          intro y7 H locs ls lp61 lp62 lp63 hW hS hl
          refine lv_iload_n hx hb dX12_flow_30 rfl (lv_at hl 0 rfl) ?_
          refine lv_sipush (v := 256) hx hb dX12_flow_31 (by decide) ?_
          refine lv_icmp_ge (tgt := 57) hx hb dX12_flow_34 (by decide) (fun c8 => ?_) (fun c8 => ?_)
          · refine lv_iconst (v := 0) hx hb dX12_flow_57 (by decide) ?_
            refine lv_istore_n (lv' := [(3, .int 0), (0, .ref (ad 0)), (1, .int a1), (2, .int a2)]) hx hb dX12_flow_58 rfl hl (by decide) rfl (fun ls hl => ?_)
            refine lv_iload_n hx hb dX12_flow_59 rfl (lv_at hl 0 rfl) ?_
            refine lv_aload_n hx hb dX12_flow_60 rfl (lv_at hl 1 rfl) ?_
            refine z_get (T := TX12) (N := 96) (ci := 12) (i := 0) (v := .int 0) hx hb hts zi_X12_flow_X12 hown hK hW rfl rfl 75 (by decide) (hts (.fieldLink RX12 493 "PetrolBoardModel" "ports" "I") (List.mem_of_getElem? (i := 1) rfl)) (fun _ h => h) rfl dX12_flow_61 ?_
            refine lv_icmp_ge (tgt := 151) hx hb dX12_flow_64 (by decide) (fun c9 => ?_) (fun c9 => absurd (by decide) c9)
            refine lv_iconst (v := 0) hx hb dX12_flow_151 (by decide) ?_
            refine lv_istore_n (lv' := [(3, .int 0), (0, .ref (ad 0)), (1, .int a1), (2, .int a2)]) hx hb dX12_flow_152 rfl hl (by decide) rfl (fun ls hl => ?_)
            refine lv_iload_n hx hb dX12_flow_153 rfl (lv_at hl 0 rfl) ?_
            refine lv_aload_n hx hb dX12_flow_154 rfl (lv_at hl 1 rfl) ?_
            refine z_get (T := TX12) (N := 96) (ci := 12) (i := 0) (v := .int 0) hx hb hts zi_X12_flow_X12 hown hK hW rfl rfl 54 (by decide) (hts (.fieldLink RX12 461 "PetrolBoardModel" "stations" "I") (List.mem_of_getElem? (i := 5) rfl)) (fun _ h => h) rfl dX12_flow_155 ?_
            refine lv_icmp_ge (tgt := 183) hx hb dX12_flow_158 (by decide) (fun c10 => ?_) (fun c10 => absurd (by decide) c10)
            refine lv_iconst (v := 0) hx hb dX12_flow_183 (by decide) ?_
            refine lv_istore_n (lv' := [(3, .int 0), (0, .ref (ad 0)), (1, .int a1), (2, .int a2)]) hx hb dX12_flow_184 rfl hl (by decide) rfl (fun ls hl => ?_)
            refine lv_iconst (v := 0) hx hb dX12_flow_185 (by decide) ?_
            refine lv_istore (lv' := [(4, .int 0), (3, .int 0), (0, .ref (ad 0)), (1, .int a1), (2, .int a2)]) hx hb dX12_flow_186 hl (by decide) rfl (fun ls hl => ?_)
            refine lv_aload_n hx hb dX12_flow_188 rfl (lv_at hl 2 rfl) ?_
            refine z_ci hW hS hA (va_runV (As := []) (rest := []) ⟨hx, hb, hml, hown, hts⟩ (ct_X12_finds l G ad _) (cwV 0 hts gX12_flow_X12_finds rfl rfl rfl (by decide +kernel) ⟨Nat.le_of_ble_eq_true rfl, Nat.le_of_ble_eq_true rfl⟩) (z_preV hK hW rfl rfl) rfl rfl hl.1 rfl (lv_room (Nat.le_of_ble_eq_true rfl)) dX12_flow_189 ⟨Nat.le_of_ble_eq_true rfl, Nat.le_of_ble_eq_true rfl⟩) (fun r u1 H locs hp hW hS => ?_)
            rw [hp]
            refine lv_if_eq (tgt := 336) hx hb dX12_flow_192 (by decide) (fun c11 => ?_) (fun c11 => absurd (by decide) c11)
            refine lv_iload_n hx hb dX12_flow_336 rfl (lv_at hl 4 rfl) ?_
            refine lv_if_ne (tgt := 344) hx hb dX12_flow_337 (by decide) (fun c12 => ?_) (fun c12 => ?_)
            · refine lv_iload hx hb dX12_flow_344 (lv_at hl 0 rfl) ?_
              exact z_iret hx hb hr hK hS (Nat.le_of_ble_eq_true rfl) (Nat.le_of_ble_eq_true rfl) hlocks dX12_flow_346 u1 hW (by unfold fr_flow; split <;> first | rfl | decide | (rename_i q; exfalso; simp only [Int32.lt_iff_toInt_lt, Int32.le_iff_toInt_le, ← Int32.toInt_inj, z_lm1, z_l0, z_l1, z_l256, true_and, and_true] at q c1 h2 h3 lp61 lp62 c8 c12; omega))
            · refine lv_iload_n hx hb dX12_flow_340 rfl (lv_at hl 1 rfl) ?_
              refine lv_goto (tgt := 346) hx hb dX12_flow_341 (by decide) ?_
              exact z_iret hx hb hr hK hS (Nat.le_of_ble_eq_true rfl) (Nat.le_of_ble_eq_true rfl) hlocks dX12_flow_346 u1 hW (by unfold fr_flow; split <;> first | rfl | decide | (rename_i q; exfalso; simp only [Int32.lt_iff_toInt_lt, Int32.le_iff_toInt_le, ← Int32.toInt_inj, z_lm1, z_l0, z_l1, z_l256, true_and, and_true] at q c1 h2 h3 lp61 lp62 c8 c12; omega))
          · refine lv_aload_n hx hb dX12_flow_37 rfl (lv_at hl 1 rfl) ?_
            refine z_get (T := TX12) (N := 96) (ci := 12) (i := 0) (v := .ref (ad 55)) hx hb hts zi_X12_flow_X12 hown hK hW rfl rfl 79 (by decide) (hts (.fieldLink RX12 181 "PetrolBoardModel" "room" "[I") (List.mem_of_getElem? (i := 2) rfl)) (fun _ h => h) rfl dX12_flow_38 ?_
            refine lv_iload_n hx hb dX12_flow_41 rfl (lv_at hl 0 rfl) ?_
            refine lv_iconst (v := 0) hx hb dX12_flow_42 (by decide) ?_
            refine z_iast (i := 55) hx hb hK hW hS rfl (vp_in_iff.mpr (by simp only [Int32.lt_iff_toInt_lt, Int32.le_iff_toInt_le, ← Int32.toInt_inj, z_l0, z_l256] at lp61 lp62 c8; constructor <;> omega)) dX12_flow_43 (fun H locs hz1 hW hS => ?_)
            rw [show (z_up IM 55 y7.toNatClampNeg 0) = IM from z_up_id rfl] at hW
            refine lv_aload_n hx hb dX12_flow_44 rfl (lv_at hl 1 rfl) ?_
            refine z_get (T := TX12) (N := 96) (ci := 12) (i := 0) (v := .ref (ad 56)) hx hb hts zi_X12_flow_X12 hown hK hW rfl rfl 80 (by decide) (hts (.fieldLink RX12 184 "PetrolBoardModel" "miles" "[I") (List.mem_of_getElem? (i := 3) rfl)) (fun _ h => h) rfl dX12_flow_45 ?_
            refine lv_iload_n hx hb dX12_flow_48 rfl (lv_at hl 0 rfl) ?_
            refine lv_iconst (v := 0) hx hb dX12_flow_49 (by decide) ?_
            refine z_iast (i := 56) hx hb hK hW hS rfl (vp_in_iff.mpr (by simp only [Int32.lt_iff_toInt_lt, Int32.le_iff_toInt_le, ← Int32.toInt_inj, z_l0, z_l256] at lp61 lp62 c8; constructor <;> omega)) dX12_flow_50 (fun H locs hz1 hW hS => ?_)
            rw [show (z_up IM 56 y7.toNatClampNeg 0) = IM from z_up_id rfl] at hW
            obtain ⟨x13, ex13⟩ : ∃ y : Int32, y = y7 + 1 := ⟨_, rfl⟩
            refine lv_iinc (v := x13) (lv' := [(3, .int x13), (0, .ref (ad 0)), (1, .int a1), (2, .int a2)]) hx hb dX12_flow_51 hl (k := 0) rfl (by rw [ex13]; rfl) (by decide) rfl (fun ls hl => ?_)
            refine lv_goto (tgt := 30) hx hb dX12_flow_54 (by decide) ?_
            obtain ⟨z14a, z14b, z14c⟩ := z_step ex13 lp61 c8 lp63
            exact lp6ih x13 H locs ls z14a z14b z14c hW hS (lv_sub hl [0, 1, 2, 3] rfl)
      exact lp6 257 0 H locs ls (by decide) (by decide) (by decide) hW hS hl
    · refine lv_if_ne (tgt := 28) hx hb dX12_flow_23 (by decide) (fun c15 => absurd (by decide) c15) (fun c15 => ?_)
      refine lv_iconst (v := (-1)) hx hb dX12_flow_26 (by decide) ?_
      exact z_iret hx hb hr hK hS (Nat.le_of_ble_eq_true rfl) (Nat.le_of_ble_eq_true rfl) hlocks dX12_flow_27 (shM, ad, IM, JM, PM ad) hW (by unfold fr_flow; split <;> first | rfl | decide | (rename_i q; exfalso; simp only [Int32.lt_iff_toInt_lt, Int32.le_iff_toInt_le, ← Int32.toInt_inj, z_lm1, z_l0, z_l1, true_and, and_true] at q c1 h4; omega))
  · refine lv_iload_n hx hb dX12_flow_5 rfl (lv_at hl 1 rfl) ?_
    refine lv_if_lt (tgt := 26) hx hb dX12_flow_6 (by decide) (fun c16 => ?_) (fun c16 => ?_)
    · refine lv_iconst (v := (-1)) hx hb dX12_flow_26 (by decide) ?_
      exact z_iret hx hb hr hK hS (Nat.le_of_ble_eq_true rfl) (Nat.le_of_ble_eq_true rfl) hlocks dX12_flow_27 (shM, ad, IM, JM, PM ad) hW (by unfold fr_flow; split <;> first | rfl | decide | (rename_i q; exfalso; simp only [Int32.lt_iff_toInt_lt, Int32.le_iff_toInt_le, ← Int32.toInt_inj, z_lm1, z_l0, z_l1, true_and, and_true] at q c1 c16; omega))
    · refine lv_iload_n hx hb dX12_flow_9 rfl (lv_at hl 1 rfl) ?_
      refine lv_aload_n hx hb dX12_flow_10 rfl (lv_at hl 0 rfl) ?_
      refine z_get (T := TX12) (N := 96) (ci := 12) (i := 0) (v := .int 0) hx hb hts zi_X12_flow_X12 hown hK hW rfl rfl 75 (by decide) (hts (.fieldLink RX12 493 "PetrolBoardModel" "ports" "I") (List.mem_of_getElem? (i := 1) rfl)) (fun _ h => h) rfl dX12_flow_11 ?_
      refine lv_icmp_ge (tgt := 26) hx hb dX12_flow_14 (by decide) (fun c17 => ?_) (fun c17 => False.elim (by simp only [Int32.lt_iff_toInt_lt, Int32.le_iff_toInt_le, ← Int32.toInt_inj, z_lm1, z_l0] at c1 c16 c17; omega))
      refine lv_iconst (v := (-1)) hx hb dX12_flow_26 (by decide) ?_
      exact z_iret hx hb hr hK hS (Nat.le_of_ble_eq_true rfl) (Nat.le_of_ble_eq_true rfl) hlocks dX12_flow_27 (shM, ad, IM, JM, PM ad) hW (by unfold fr_flow; split <;> first | rfl | decide | (rename_i q; exfalso; simp only [Int32.lt_iff_toInt_lt, Int32.le_iff_toInt_le, ← Int32.toInt_inj, z_lm1, z_l0, z_l1, true_and, and_true] at q c1 c16; omega))
