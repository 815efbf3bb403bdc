theorem dX9_addToken_0 : decode cX9_addToken 0 = .ok (.aload_n 0, 1) := by decide +kernel
theorem dX9_addToken_1 : decode cX9_addToken 1 = .ok (.getfield 76, 3) := by decide +kernel
theorem dX9_addToken_4 : decode cX9_addToken 4 = .ok (.aload_n 0, 1) := by decide +kernel
theorem dX9_addToken_5 : decode cX9_addToken 5 = .ok (.getfield 15, 3) := by decide +kernel
theorem dX9_addToken_8 : decode cX9_addToken 8 = .ok (.arraylength, 1) := by decide +kernel
theorem dX9_addToken_9 : decode cX9_addToken 9 = .ok (.if_icmp .ge 43, 3) := by decide +kernel
theorem dX9_addToken_12 : decode cX9_addToken 12 = .ok (.aload_n 0, 1) := by decide +kernel
theorem dX9_addToken_13 : decode cX9_addToken 13 = .ok (.getfield 15, 3) := by decide +kernel
theorem dX9_addToken_16 : decode cX9_addToken 16 = .ok (.aload_n 0, 1) := by decide +kernel
theorem dX9_addToken_17 : decode cX9_addToken 17 = .ok (.getfield 76, 3) := by decide +kernel
theorem dX9_addToken_20 : decode cX9_addToken 20 = .ok (.iload_n 1, 1) := by decide +kernel
theorem dX9_addToken_21 : decode cX9_addToken 21 = .ok (.iastore, 1) := by decide +kernel
theorem dX9_addToken_22 : decode cX9_addToken 22 = .ok (.aload_n 0, 1) := by decide +kernel
theorem dX9_addToken_23 : decode cX9_addToken 23 = .ok (.getfield 21, 3) := by decide +kernel
theorem dX9_addToken_26 : decode cX9_addToken 26 = .ok (.aload_n 0, 1) := by decide +kernel
theorem dX9_addToken_27 : decode cX9_addToken 27 = .ok (.getfield 76, 3) := by decide +kernel
theorem dX9_addToken_30 : decode cX9_addToken 30 = .ok (.iload_n 2, 1) := by decide +kernel
theorem dX9_addToken_31 : decode cX9_addToken 31 = .ok (.iastore, 1) := by decide +kernel
theorem dX9_addToken_32 : decode cX9_addToken 32 = .ok (.aload_n 0, 1) := by decide +kernel
theorem dX9_addToken_33 : decode cX9_addToken 33 = .ok (.getfield 18, 3) := by decide +kernel
theorem dX9_addToken_36 : decode cX9_addToken 36 = .ok (.aload_n 0, 1) := by decide +kernel
theorem dX9_addToken_37 : decode cX9_addToken 37 = .ok (.getfield 76, 3) := by decide +kernel
theorem dX9_addToken_40 : decode cX9_addToken 40 = .ok (.iload_n 3, 1) := by decide +kernel
theorem dX9_addToken_41 : decode cX9_addToken 41 = .ok (.iastore, 1) := by decide +kernel
theorem dX9_addToken_42 : decode cX9_addToken 42 = .ok (.aload_n 0, 1) := by decide +kernel
theorem dX9_addToken_43 : decode cX9_addToken 43 = .ok (.dup, 1) := by decide +kernel
theorem dX9_addToken_44 : decode cX9_addToken 44 = .ok (.getfield 76, 3) := by decide +kernel
theorem dX9_addToken_47 : decode cX9_addToken 47 = .ok (.iconst 1, 1) := by decide +kernel
theorem dX9_addToken_48 : decode cX9_addToken 48 = .ok (.iadd, 1) := by decide +kernel
theorem dX9_addToken_49 : decode cX9_addToken 49 = .ok (.putfield 76, 3) := by decide +kernel
theorem dX9_addToken_52 : decode cX9_addToken 52 = .ok (.return_, 1) := by decide +kernel
theorem dX9_scan_0 : decode cX9_scan 0 = .ok (.iload_n 1, 1) := by decide +kernel
theorem dX9_scan_1 : decode cX9_scan 1 = .ok (.aload_n 0, 1) := by decide +kernel
theorem dX9_scan_2 : decode cX9_scan 2 = .ok (.getfield 9, 3) := by decide +kernel
theorem dX9_scan_5 : decode cX9_scan 5 = .ok (.arraylength, 1) := by decide +kernel
theorem dX9_scan_6 : decode cX9_scan 6 = .ok (.invokestatic 40, 3) := by decide +kernel
theorem dX9_scan_9 : decode cX9_scan 9 = .ok (.istore_n 2, 1) := by decide +kernel
theorem dX9_scan_10 : decode cX9_scan 10 = .ok (.aload_n 0, 1) := by decide +kernel
theorem dX9_scan_11 : decode cX9_scan 11 = .ok (.iconst 0, 1) := by decide +kernel
theorem dX9_scan_12 : decode cX9_scan 12 = .ok (.putfield 76, 3) := by decide +kernel
theorem dX9_scan_15 : decode cX9_scan 15 = .ok (.iconst 0, 1) := by decide +kernel
theorem dX9_scan_16 : decode cX9_scan 16 = .ok (.istore 4, 2) := by decide +kernel
theorem dX9_scan_18 : decode cX9_scan 18 = .ok (.iload 4, 2) := by decide +kernel
theorem dX9_scan_20 : decode cX9_scan 20 = .ok (.iload_n 2, 1) := by decide +kernel
theorem dX9_scan_21 : decode cX9_scan 21 = .ok (.if_icmp .ge 57, 3) := by decide +kernel
theorem dX9_scan_78 : decode cX9_scan 78 = .ok (.aload_n 0, 1) := by decide +kernel
theorem dX9_scan_79 : decode cX9_scan 79 = .ok (.sipush 401, 3) := by decide +kernel
theorem dX9_scan_82 : decode cX9_scan 82 = .ok (.iload_n 2, 1) := by decide +kernel
theorem dX9_scan_83 : decode cX9_scan 83 = .ok (.iconst 0, 1) := by decide +kernel
set_option maxRecDepth 20000 in
theorem ggX9_scan_X9_addToken : GoodIn wsX9_scan wsX9_addToken := goodIn_r _ [98, 6, 99, 100, 101, 102, 103, 104, 105, 106, 107, 108, 109, 110, 111, 112, 113, 114, 115] (by decide +kernel) (by decide +kernel)
set_option maxRecDepth 20000 in
theorem gX9_scan_X9_addToken : GoodIn wsX9_scan (wsV RX9 124 RX9 yX9_addToken wsX9_addToken) := goodIn_app (goodIn_of _ (by decide +kernel)) ggX9_scan_X9_addToken
theorem dX9_scan_84 : decode cX9_scan 84 = .ok (.invokevirtual 124, 3) := by decide +kernel
theorem dX9_scan_87 : decode cX9_scan 87 = .ok (.return_, 1) := by decide +kernel
theorem dX9_step_0 : decode cX9_step 0 = .ok (.aload_n 0, 1) := by decide +kernel
theorem dX9_step_1 : decode cX9_step 1 = .ok (.dup, 1) := by decide +kernel
theorem dX9_step_2 : decode cX9_step 2 = .ok (.getfield 56, 3) := by decide +kernel
theorem dX9_step_5 : decode cX9_step 5 = .ok (.iconst 1, 1) := by decide +kernel
theorem dX9_step_6 : decode cX9_step 6 = .ok (.iadd, 1) := by decide +kernel
theorem dX9_step_7 : decode cX9_step 7 = .ok (.putfield 56, 3) := by decide +kernel
theorem dX9_step_10 : decode cX9_step 10 = .ok (.aload_n 0, 1) := by decide +kernel
theorem dX9_step_11 : decode cX9_step 11 = .ok (.aload_n 0, 1) := by decide +kernel
theorem dX9_step_12 : decode cX9_step 12 = .ok (.getfield 56, 3) := by decide +kernel
theorem dX9_step_15 : decode cX9_step 15 = .ok (.aload_n 0, 1) := by decide +kernel
theorem dX9_step_16 : decode cX9_step 16 = .ok (.getfield 76, 3) := by decide +kernel
theorem dX9_step_19 : decode cX9_step 19 = .ok (.if_icmp .ge 27, 3) := by decide +kernel
theorem dX9_step_22 : decode cX9_step 22 = .ok (.aload_n 0, 1) := by decide +kernel
theorem dX9_step_23 : decode cX9_step 23 = .ok (.getfield 56, 3) := by decide +kernel
theorem dX9_step_26 : decode cX9_step 26 = .ok (.aload_n 0, 1) := by decide +kernel
theorem dX9_step_27 : decode cX9_step 27 = .ok (.getfield 15, 3) := by decide +kernel
theorem dX9_step_30 : decode cX9_step 30 = .ok (.arraylength, 1) := by decide +kernel
theorem dX9_step_31 : decode cX9_step 31 = .ok (.if_icmp .ge 15, 3) := by decide +kernel
theorem dX9_step_34 : decode cX9_step 34 = .ok (.aload_n 0, 1) := by decide +kernel
theorem dX9_step_35 : decode cX9_step 35 = .ok (.getfield 15, 3) := by decide +kernel
theorem dX9_step_38 : decode cX9_step 38 = .ok (.aload_n 0, 1) := by decide +kernel
theorem dX9_step_39 : decode cX9_step 39 = .ok (.getfield 56, 3) := by decide +kernel
theorem dX9_step_42 : decode cX9_step 42 = .ok (.iaload, 1) := by decide +kernel
theorem dX9_step_43 : decode cX9_step 43 = .ok (.goto 6, 3) := by decide +kernel
theorem dX9_step_49 : decode cX9_step 49 = .ok (.putfield 62, 3) := by decide +kernel
theorem dX9_step_52 : decode cX9_step 52 = .ok (.return_, 1) := by decide +kernel
theorem dX9_read_0 : decode cX9_read 0 = .ok (.aload_n 0, 1) := by decide +kernel
theorem dX9_read_1 : decode cX9_read 1 = .ok (.iload_n 1, 1) := by decide +kernel
theorem dX9_read_2 : decode cX9_read 2 = .ok (.aload_n 0, 1) := by decide +kernel
theorem dX9_read_3 : decode cX9_read 3 = .ok (.getfield 36, 3) := by decide +kernel
theorem dX9_read_6 : decode cX9_read 6 = .ok (.invokestatic 40, 3) := by decide +kernel
set_option maxRecDepth 20000 in
theorem ggX9_read_X9_scan : GoodIn wsX9_read wsX9_scan := goodIn_r _ [14, 15, 2, 3, 4, 5, 16, 17, 18, 19, 20, 21, 22, 13, 23, 24, 25, 26, 27, 28, 29, 30, 31, 32, 33, 34, 35, 36, 37, 38, 39, 40, 41, 42, 43, 44, 45, 46, 47, 48, 49, 50, 51, 52, 53, 54, 55, 56, 57, 58, 59, 60, 61, 62, 63, 64, 65, 66, 67, 68, 69, 70, 71, 72, 73, 74, 75, 76, 77, 78, 79, 80, 81, 82, 83, 84, 85, 86, 87, 88, 89, 90, 91, 92, 93, 94, 95, 96, 97, 98, 99, 100, 101, 102, 103, 104, 105, 106, 107, 108, 109, 110, 175, 176, 177, 178, 179, 180, 181, 182, 183, 184, 185, 186, 187, 188] (by decide +kernel) (by decide +kernel)
set_option maxRecDepth 20000 in
theorem gX9_read_X9_scan : GoodIn wsX9_read (wsV RX9 46 RX9 yX9_scan wsX9_scan) := goodIn_app (goodIn_of _ (by decide +kernel)) ggX9_read_X9_scan
theorem dX9_read_9 : decode cX9_read 9 = .ok (.invokevirtual 46, 3) := by decide +kernel
theorem dX9_read_12 : decode cX9_read 12 = .ok (.aload_n 0, 1) := by decide +kernel
theorem dX9_read_13 : decode cX9_read 13 = .ok (.iconst 0, 1) := by decide +kernel
theorem dX9_read_14 : decode cX9_read 14 = .ok (.putfield 36, 3) := by decide +kernel
theorem dX9_read_17 : decode cX9_read 17 = .ok (.aload_n 0, 1) := by decide +kernel
theorem dX9_read_18 : decode cX9_read 18 = .ok (.iconst 0, 1) := by decide +kernel
theorem dX9_read_19 : decode cX9_read 19 = .ok (.putfield 50, 3) := by decide +kernel
theorem dX9_read_22 : decode cX9_read 22 = .ok (.aload_n 0, 1) := by decide +kernel
theorem dX9_read_23 : decode cX9_read 23 = .ok (.iconst 0, 1) := by decide +kernel
theorem dX9_read_24 : decode cX9_read 24 = .ok (.putfield 53, 3) := by decide +kernel
theorem dX9_read_27 : decode cX9_read 27 = .ok (.aload_n 0, 1) := by decide +kernel
theorem dX9_read_28 : decode cX9_read 28 = .ok (.iconst (-1), 1) := by decide +kernel
theorem dX9_read_29 : decode cX9_read 29 = .ok (.putfield 56, 3) := by decide +kernel
theorem dX9_read_32 : decode cX9_read 32 = .ok (.aload_n 0, 1) := by decide +kernel
set_option maxRecDepth 20000 in
theorem ggX9_read_X9_step : GoodIn wsX9_read wsX9_step := goodIn_r _ [114, 8, 16, 108, 9, 175, 176, 177, 178, 179, 180, 181, 182, 183, 184, 185, 186, 187, 188] (by decide +kernel) (by decide +kernel)
set_option maxRecDepth 20000 in
theorem gX9_read_X9_step : GoodIn wsX9_read (wsV RX9 59 RX9 yX9_step wsX9_step) := goodIn_app (goodIn_of _ (by decide +kernel)) ggX9_read_X9_step
theorem dX9_read_33 : decode cX9_read 33 = .ok (.invokevirtual 59, 3) := by decide +kernel
theorem dX9_read_36 : decode cX9_read 36 = .ok (.iconst 0, 1) := by decide +kernel
theorem dX9_read_37 : decode cX9_read 37 = .ok (.istore_n 2, 1) := by decide +kernel
theorem dX9_read_38 : decode cX9_read 38 = .ok (.iload_n 2, 1) := by decide +kernel
theorem dX9_read_39 : decode cX9_read 39 = .ok (.bipush 24, 2) := by decide +kernel
theorem dX9_read_41 : decode cX9_read 41 = .ok (.if_icmp .ge 48, 3) := by decide +kernel
theorem dX9_read_44 : decode cX9_read 44 = .ok (.aload_n 0, 1) := by decide +kernel
theorem dX9_read_45 : decode cX9_read 45 = .ok (.getfield 62, 3) := by decide +kernel
theorem dX9_read_48 : decode cX9_read 48 = .ok (.sipush 401, 3) := by decide +kernel
theorem dX9_read_51 : decode cX9_read 51 = .ok (.if_icmp .eq 38, 3) := by decide +kernel
theorem dX9_read_89 : decode cX9_read 89 = .ok (.aload_n 0, 1) := by decide +kernel
theorem dX9_read_90 : decode cX9_read 90 = .ok (.getfield 62, 3) := by decide +kernel
theorem dX9_read_93 : decode cX9_read 93 = .ok (.sipush 401, 3) := by decide +kernel
theorem dX9_read_96 : decode cX9_read 96 = .ok (.if_icmp .ne 7, 3) := by decide +kernel
theorem dX9_read_99 : decode cX9_read 99 = .ok (.iconst (-1), 1) := by decide +kernel
theorem dX9_read_100 : decode cX9_read 100 = .ok (.goto 7, 3) := by decide +kernel
theorem dX9_read_107 : decode cX9_read 107 = .ok (.ireturn, 1) := by decide +kernel

theorem zi_X9_addToken_X9 : ∀ w ∈ wsX90, w ∈ wsX9_addToken := fun w h => (List.mem_cons_of_mem _ (List.mem_append_right _ h))
set_option maxHeartbeats 4000000 in
set_option maxRecDepth 100000 in
theorem ct_X9_addToken (l : Launch) (G : z_G) (ad : Nat → Nat) : z_Mv l yX9_addToken wsX9_addToken { frames := 1, cells := 0, slots := 0, locals := 12 } [.ref (ad 12), .int 401, .int 0, .int 0] G (shX, ad, IX, JX, PX ad) (fun u1 => u1 = (shX, ad, (z_up (z_up IX 14 (0 : Int32).toNatClampNeg 401) 12 5 1), JX, PX ad)) 0 0 := by
  intro sz
  refine z_headQ (cc := cX9_addToken) (maxL := 4) (ret := none) (by decide) rfl (Nat.le_of_ble_eq_true rfl) ?_
  intro p e s m below meth c ls hIn hK hsz hW hl
  obtain ⟨hx, hb, hr, hml, hown, hts, hlocks, hname⟩ := hIn
  subst hsz
  have hown : s.vm.findClass RX9 = some m.cls := hown
  have hA : ∀ q : Nat, s.heap.size ≤ q → z_A (shX, ad, IX, JX, PX ad) s.heap.size q := fun q h => Or.inr h
  generalize hAe : z_A (shX, ad, IX, JX, PX ad) s.heap.size = A at *
  have hS : va_S A s.heap s.heap [] := va_S.rf
  have hl : lv_has ls 4 [(0, .ref (ad 12)), (1, .int 401), (2, .int 0), (3, .int 0)] := hl
  refine lv_aload_n hx hb dX9_addToken_0 rfl (lv_at hl 0 rfl) ?_
  refine z_get (T := TX9) (N := 14) (ci := 9) (i := 12) (v := .int 0) hx hb hts zi_X9_addToken_X9 hown hK hW rfl rfl 5 (by decide) (hts (.fieldLink RX9 76 "PetrolBoard$Reader" "scanned" "I") (List.mem_of_getElem? (i := 1) rfl)) (fun _ h => h) rfl dX9_addToken_1 ?_
  refine lv_aload_n hx hb dX9_addToken_4 rfl (lv_at hl 0 rfl) ?_
  refine z_get (T := TX9) (N := 14) (ci := 9) (i := 12) (v := .ref (ad 14)) hx hb hts zi_X9_addToken_X9 hown hK hW rfl rfl 2 (by decide) (hts (.fieldLink RX9 15 "PetrolBoard$Reader" "tokens" "[I") (List.mem_of_getElem? (i := 2) rfl)) (fun _ h => h) rfl dX9_addToken_5 ?_
  refine z_alen (i := 14) (v := 501) hx hb hK hW rfl (by simp [z_tys]) (by rfl) dX9_addToken_8 ?_
  refine lv_icmp_ge (tgt := 52) hx hb dX9_addToken_9 (by decide) (fun c1 => absurd c1 (by decide)) (fun c1 => ?_)
  refine lv_aload_n hx hb dX9_addToken_12 rfl (lv_at hl 0 rfl) ?_
  refine z_get (T := TX9) (N := 14) (ci := 9) (i := 12) (v := .ref (ad 14)) hx hb hts zi_X9_addToken_X9 hown hK hW rfl rfl 2 (by decide) (hts (.fieldLink RX9 15 "PetrolBoard$Reader" "tokens" "[I") (List.mem_of_getElem? (i := 2) rfl)) (fun _ h => h) rfl dX9_addToken_13 ?_
  refine lv_aload_n hx hb dX9_addToken_16 rfl (lv_at hl 0 rfl) ?_
  refine z_get (T := TX9) (N := 14) (ci := 9) (i := 12) (v := .int 0) hx hb hts zi_X9_addToken_X9 hown hK hW rfl rfl 5 (by decide) (hts (.fieldLink RX9 76 "PetrolBoard$Reader" "scanned" "I") (List.mem_of_getElem? (i := 1) rfl)) (fun _ h => h) rfl dX9_addToken_17 ?_
  refine lv_iload_n hx hb dX9_addToken_20 rfl (lv_at hl 1 rfl) ?_
  refine z_iast (i := 14) hx hb hK hW hS rfl (z_inl (by decide)) dX9_addToken_21 (fun H locs hz1 hW hS => ?_)
  refine lv_aload_n hx hb dX9_addToken_22 rfl (lv_at hl 0 rfl) ?_
  refine z_get (T := TX9) (N := 14) (ci := 9) (i := 12) (v := .ref (ad 16)) hx hb hts zi_X9_addToken_X9 hown hK hW rfl rfl 4 (by decide) (hts (.fieldLink RX9 21 "PetrolBoard$Reader" "places" "[I") (List.mem_of_getElem? (i := 3) rfl)) (fun _ h => h) rfl dX9_addToken_23 ?_
  refine lv_aload_n hx hb dX9_addToken_26 rfl (lv_at hl 0 rfl) ?_
  refine z_get (T := TX9) (N := 14) (ci := 9) (i := 12) (v := .int 0) hx hb hts zi_X9_addToken_X9 hown hK hW rfl rfl 5 (by decide) (hts (.fieldLink RX9 76 "PetrolBoard$Reader" "scanned" "I") (List.mem_of_getElem? (i := 1) rfl)) (fun _ h => h) rfl dX9_addToken_27 ?_
  refine lv_iload_n hx hb dX9_addToken_30 rfl (lv_at hl 2 rfl) ?_
  refine z_iast (i := 16) hx hb hK hW hS rfl (z_inl (by decide)) dX9_addToken_31 (fun H locs hz1 hW hS => ?_)
  rw [show (z_up (z_up IX 14 (0 : Int32).toNatClampNeg 401) 16 (0 : Int32).toNatClampNeg 0) = (z_up IX 14 (0 : Int32).toNatClampNeg 401) from z_up_id rfl] at hW
  refine lv_aload_n hx hb dX9_addToken_32 rfl (lv_at hl 0 rfl) ?_
  refine z_get (T := TX9) (N := 14) (ci := 9) (i := 12) (v := .ref (ad 15)) hx hb hts zi_X9_addToken_X9 hown hK hW rfl rfl 3 (by decide) (hts (.fieldLink RX9 18 "PetrolBoard$Reader" "values" "[I") (List.mem_of_getElem? (i := 4) rfl)) (fun _ h => h) rfl dX9_addToken_33 ?_
  refine lv_aload_n hx hb dX9_addToken_36 rfl (lv_at hl 0 rfl) ?_
  refine z_get (T := TX9) (N := 14) (ci := 9) (i := 12) (v := .int 0) hx hb hts zi_X9_addToken_X9 hown hK hW rfl rfl 5 (by decide) (hts (.fieldLink RX9 76 "PetrolBoard$Reader" "scanned" "I") (List.mem_of_getElem? (i := 1) rfl)) (fun _ h => h) rfl dX9_addToken_37 ?_
  refine lv_iload_n hx hb dX9_addToken_40 rfl (lv_at hl 3 rfl) ?_
  refine z_iast (i := 15) hx hb hK hW hS rfl (z_inl (by decide)) dX9_addToken_41 (fun H locs hz1 hW hS => ?_)
  rw [show (z_up (z_up IX 14 (0 : Int32).toNatClampNeg 401) 15 (0 : Int32).toNatClampNeg 0) = (z_up IX 14 (0 : Int32).toNatClampNeg 401) from z_up_id rfl] at hW
  refine lv_aload_n hx hb dX9_addToken_42 rfl (lv_at hl 0 rfl) ?_
  refine lv_dup hx hb dX9_addToken_43 rfl ?_
  refine z_get (T := TX9) (N := 14) (ci := 9) (i := 12) (v := .int 0) hx hb hts zi_X9_addToken_X9 hown hK hW rfl rfl 5 (by decide) (hts (.fieldLink RX9 76 "PetrolBoard$Reader" "scanned" "I") (List.mem_of_getElem? (i := 1) rfl)) (fun _ h => h) rfl dX9_addToken_44 ?_
  refine lv_iconst (v := 1) hx hb dX9_addToken_47 (by decide) ?_
  refine lv_iadd hx hb dX9_addToken_48 ?_
  refine z_topi (v := 1) (by decide) ?_
  refine z_put (T := TX9) (N := 14) (ci := 9) (i := 12) (v := .int 1) (I1 := (z_up (z_up IX 14 (0 : Int32).toNatClampNeg 401) 12 5 1)) (J1 := JX) (P1 := PX ad) hx hb hts zi_X9_addToken_X9 tyX9 tyX9_ok nmX9 hown hK hW hS rfl rfl 5 (by decide) (hts (.fieldLink RX9 76 "PetrolBoard$Reader" "scanned" "I") (List.mem_of_getElem? (i := 1) rfl)) (fun _ h => h) rfl rfl rfl (by first | rfl | exact congrArg _ z_up_s) (fun a b h ty => z_vI h ty) dX9_addToken_49 (fun H locs hz1 hW hS => ?_)
  exact z_vret hx hb hr hK hS (Nat.le_of_ble_eq_true rfl) (Nat.le_of_ble_eq_true rfl) hlocks dX9_addToken_52 (shX, ad, (z_up (z_up IX 14 (0 : Int32).toNatClampNeg 401) 12 5 1), JX, PX ad) hW rfl
theorem zi_X9_scan_X9 : ∀ w ∈ wsX90, w ∈ wsX9_scan := fun w h => (List.mem_cons_of_mem _ (List.mem_append_right _ h))
set_option maxHeartbeats 4000000 in
set_option maxRecDepth 100000 in
theorem ct_X9_scan (l : Launch) (G : z_G) (ad : Nat → Nat) : z_Mv l yX9_scan wsX9_scan { frames := 2, cells := 0, slots := 0, locals := 40 } [.ref (ad 12), .int 0] G (shX, ad, IX, JX, PX ad) (fun u1 => u1 = (shX, ad, (z_up (z_up IX 14 (0 : Int32).toNatClampNeg 401) 12 5 1), JX, PX ad)) 0 0 := by
  intro sz
  refine z_headQ (cc := cX9_scan) (maxL := 5) (ret := none) (by decide) rfl (Nat.le_of_ble_eq_true rfl) ?_
  intro p e s m below meth c ls hIn hK hsz hW hl
  obtain ⟨hx, hb, hr, hml, hown, hts, hlocks, hname⟩ := hIn
  subst hsz
  have hown : s.vm.findClass RX9 = some m.cls := hown
  have hA : ∀ q : Nat, s.heap.size ≤ q → z_A (shX, ad, IX, JX, PX ad) s.heap.size q := fun q h => Or.inr h
  generalize hAe : z_A (shX, ad, IX, JX, PX ad) s.heap.size = A at *
  have hS : va_S A s.heap s.heap [] := va_S.rf
  have hl : lv_has ls 5 [(0, .ref (ad 12)), (1, .int 0)] := hl
  refine lv_iload_n hx hb dX9_scan_0 rfl (lv_at hl 1 rfl) ?_
  refine lv_aload_n hx hb dX9_scan_1 rfl (lv_at hl 0 rfl) ?_
  refine z_get (T := TX9) (N := 14) (ci := 9) (i := 12) (v := .ref (ad 13)) hx hb hts zi_X9_scan_X9 hown hK hW rfl rfl 0 (by decide) (hts (.fieldLink RX9 9 "PetrolBoard$Reader" "text" "[I") (List.mem_of_getElem? (i := 1) rfl)) (fun _ h => h) rfl dX9_scan_2 ?_
  refine z_alen (i := 13) (v := 500) hx hb hK hW rfl (by simp [z_tys]) (by rfl) dX9_scan_5 ?_
  refine va_mmin (x := 0) (y := 500) hx hb (hml.trans hl.1.symm) hown (hts (.methodLink RX9 40 Lib.Math.min.name) (List.mem_of_getElem? (i := 2) rfl)) (hts (.static Lib.Math.min.name) (List.mem_of_getElem? (i := 3) rfl)) (hts (.initialized "java/lang/Math") (List.mem_of_getElem? (i := 4) rfl)) (hts (.code Lib.Math.min.name Lib.Math.min.code 2 (some .int)) (List.mem_of_getElem? (i := 5) rfl)) (Nat.le_of_ble_eq_true rfl) (Nat.le_of_ble_eq_true rfl) (Nat.le_of_ble_eq_true rfl) (Nat.le_of_ble_eq_true rfl) dX9_scan_6 ?_
  refine z_topi (v := 0) (by decide) ?_
  refine lv_istore_n (lv' := [(2, .int 0), (0, .ref (ad 12)), (1, .int 0)]) hx hb dX9_scan_9 rfl hl (by decide) rfl (fun ls hl => ?_)
  refine lv_aload_n hx hb dX9_scan_10 rfl (lv_at hl 1 rfl) ?_
  refine lv_iconst (v := 0) hx hb dX9_scan_11 (by decide) ?_
  refine z_put (T := TX9) (N := 14) (ci := 9) (i := 12) (v := .int 0) (I1 := (z_up IX 12 5 0)) (J1 := JX) (P1 := PX ad) hx hb hts zi_X9_scan_X9 tyX9 tyX9_ok nmX9 hown hK hW hS rfl rfl 5 (by decide) (hts (.fieldLink RX9 76 "PetrolBoard$Reader" "scanned" "I") (List.mem_of_getElem? (i := 6) rfl)) (fun _ h => h) rfl rfl rfl (by first | rfl | exact congrArg _ z_up_s) (fun a b h ty => z_vI h ty) dX9_scan_12 (fun H locs hz1 hW hS => ?_)
  rw [show (z_up IX 12 5 0) = IX from z_up_id rfl] at hW
  refine lv_iconst (v := 0) hx hb dX9_scan_15 (by decide) ?_
  refine lv_istore (lv' := [(4, .int 0), (2, .int 0), (0, .ref (ad 12)), (1, .int 0)]) hx hb dX9_scan_16 hl (by decide) rfl (fun ls hl => ?_)
  refine lv_iload hx hb dX9_scan_18 (lv_at hl 0 rfl) ?_
  refine lv_iload_n hx hb dX9_scan_20 rfl (lv_at hl 1 rfl) ?_
  refine lv_icmp_ge (tgt := 78) hx hb dX9_scan_21 (by decide) (fun c1 => ?_) (fun c1 => absurd (by decide) c1)
  refine lv_aload_n hx hb dX9_scan_78 rfl (lv_at hl 2 rfl) ?_
  refine lv_sipush (v := 401) hx hb dX9_scan_79 (by decide) ?_
  refine lv_iload_n hx hb dX9_scan_82 rfl (lv_at hl 1 rfl) ?_
  refine lv_iconst (v := 0) hx hb dX9_scan_83 (by decide) ?_
  refine z_cv hW hS hA (va_runV (As := [.int 401, .int 0, .int 0]) (rest := []) ⟨hx, hb, hml, hown, hts⟩ (ct_X9_addToken l G ad _) (cwV 3 hts gX9_scan_X9_addToken rfl rfl rfl (by decide +kernel) ⟨Nat.le_of_ble_eq_true rfl, Nat.le_of_ble_eq_true rfl⟩) (z_preV hK hW rfl rfl) rfl rfl hl.1 rfl (lv_room (Nat.le_of_ble_eq_true rfl)) dX9_scan_84 ⟨Nat.le_of_ble_eq_true rfl, Nat.le_of_ble_eq_true rfl⟩) (fun u1 H locs hp hW hS => ?_)
  rw [hp] at hW
  exact z_vret hx hb hr hK hS (Nat.le_of_ble_eq_true rfl) (Nat.le_of_ble_eq_true rfl) hlocks dX9_scan_87 (shX, ad, (z_up (z_up IX 14 (0 : Int32).toNatClampNeg 401) 12 5 1), JX, PX ad) hW rfl
theorem zi_X9_step_X9 : ∀ w ∈ wsX90, w ∈ wsX9_step := fun w h => (List.mem_cons_of_mem _ (List.mem_append_right _ h))
set_option maxHeartbeats 4000000 in
set_option maxRecDepth 100000 in
theorem ct_X9_step (l : Launch) (G : z_G) (ad : Nat → Nat) : z_Mv l yX9_step wsX9_step { frames := 1, cells := 0, slots := 0, locals := 12 } [.ref (ad 12)] G (shX, ad, (z_up (z_up (z_up IX 14 (0 : Int32).toNatClampNeg 401) 12 5 1) 12 6 (-1)), JX, PX ad) (fun u1 => u1 = (shX, ad, (z_up (z_up (z_up (z_up (z_up IX 14 (0 : Int32).toNatClampNeg 401) 12 5 1) 12 6 (-1)) 12 6 0) 12 7 401), JX, PX ad)) 0 0 := by
  intro sz
  refine z_headQ (cc := cX9_step) (maxL := 1) (ret := none) (by decide) rfl (Nat.le_of_ble_eq_true rfl) ?_
  intro p e s m below meth c ls hIn hK hsz hW hl
  obtain ⟨hx, hb, hr, hml, hown, hts, hlocks, hname⟩ := hIn
  subst hsz
  have hown : s.vm.findClass RX9 = some m.cls := hown
  have hA : ∀ q : Nat, s.heap.size ≤ q → z_A (shX, ad, (z_up (z_up (z_up IX 14 (0 : Int32).toNatClampNeg 401) 12 5 1) 12 6 (-1)), JX, PX ad) s.heap.size q := fun q h => Or.inr h
  generalize hAe : z_A (shX, ad, (z_up (z_up (z_up IX 14 (0 : Int32).toNatClampNeg 401) 12 5 1) 12 6 (-1)), JX, PX ad) s.heap.size = A at *
  have hS : va_S A s.heap s.heap [] := va_S.rf
  have hl : lv_has ls 1 [(0, .ref (ad 12))] := hl
  refine lv_aload_n hx hb dX9_step_0 rfl (lv_at hl 0 rfl) ?_
  refine lv_dup hx hb dX9_step_1 rfl ?_
  refine z_get (T := TX9) (N := 14) (ci := 9) (i := 12) (v := .int (-1)) hx hb hts zi_X9_step_X9 hown hK hW rfl rfl 6 (by decide) (hts (.fieldLink RX9 56 "PetrolBoard$Reader" "at" "I") (List.mem_of_getElem? (i := 1) rfl)) (fun _ h => h) rfl dX9_step_2 ?_
  refine lv_iconst (v := 1) hx hb dX9_step_5 (by decide) ?_
  refine lv_iadd hx hb dX9_step_6 ?_
  refine z_topi (v := 0) (by decide) ?_
  refine z_put (T := TX9) (N := 14) (ci := 9) (i := 12) (v := .int 0) (I1 := (z_up (z_up (z_up (z_up IX 14 (0 : Int32).toNatClampNeg 401) 12 5 1) 12 6 (-1)) 12 6 0)) (J1 := JX) (P1 := PX ad) hx hb hts zi_X9_step_X9 tyX9 tyX9_ok nmX9 hown hK hW hS rfl rfl 6 (by decide) (hts (.fieldLink RX9 56 "PetrolBoard$Reader" "at" "I") (List.mem_of_getElem? (i := 1) rfl)) (fun _ h => h) rfl rfl rfl (by first | rfl | exact congrArg _ z_up_s) (fun a b h ty => z_vI h ty) dX9_step_7 (fun H locs hz1 hW hS => ?_)
  refine lv_aload_n hx hb dX9_step_10 rfl (lv_at hl 0 rfl) ?_
  refine lv_aload_n hx hb dX9_step_11 rfl (lv_at hl 0 rfl) ?_
  refine z_get (T := TX9) (N := 14) (ci := 9) (i := 12) (v := .int 0) hx hb hts zi_X9_step_X9 hown hK hW rfl rfl 6 (by decide) (hts (.fieldLink RX9 56 "PetrolBoard$Reader" "at" "I") (List.mem_of_getElem? (i := 1) rfl)) (fun _ h => h) rfl dX9_step_12 ?_
  refine lv_aload_n hx hb dX9_step_15 rfl (lv_at hl 0 rfl) ?_
  refine z_get (T := TX9) (N := 14) (ci := 9) (i := 12) (v := .int 1) hx hb hts zi_X9_step_X9 hown hK hW rfl rfl 5 (by decide) (hts (.fieldLink RX9 76 "PetrolBoard$Reader" "scanned" "I") (List.mem_of_getElem? (i := 2) rfl)) (fun _ h => h) rfl dX9_step_16 ?_
  refine lv_icmp_ge (tgt := 46) hx hb dX9_step_19 (by decide) (fun c1 => absurd c1 (by decide)) (fun c1 => ?_)
  refine lv_aload_n hx hb dX9_step_22 rfl (lv_at hl 0 rfl) ?_
  refine z_get (T := TX9) (N := 14) (ci := 9) (i := 12) (v := .int 0) hx hb hts zi_X9_step_X9 hown hK hW rfl rfl 6 (by decide) (hts (.fieldLink RX9 56 "PetrolBoard$Reader" "at" "I") (List.mem_of_getElem? (i := 1) rfl)) (fun _ h => h) rfl dX9_step_23 ?_
  refine lv_aload_n hx hb dX9_step_26 rfl (lv_at hl 0 rfl) ?_
  refine z_get (T := TX9) (N := 14) (ci := 9) (i := 12) (v := .ref (ad 14)) hx hb hts zi_X9_step_X9 hown hK hW rfl rfl 2 (by decide) (hts (.fieldLink RX9 15 "PetrolBoard$Reader" "tokens" "[I") (List.mem_of_getElem? (i := 3) rfl)) (fun _ h => h) rfl dX9_step_27 ?_
  refine z_alen (i := 14) (v := 501) hx hb hK hW rfl (by simp [z_tys]) (by rfl) dX9_step_30 ?_
  refine lv_icmp_ge (tgt := 46) hx hb dX9_step_31 (by decide) (fun c2 => absurd c2 (by decide)) (fun c2 => ?_)
  refine lv_aload_n hx hb dX9_step_34 rfl (lv_at hl 0 rfl) ?_
  refine z_get (T := TX9) (N := 14) (ci := 9) (i := 12) (v := .ref (ad 14)) hx hb hts zi_X9_step_X9 hown hK hW rfl rfl 2 (by decide) (hts (.fieldLink RX9 15 "PetrolBoard$Reader" "tokens" "[I") (List.mem_of_getElem? (i := 3) rfl)) (fun _ h => h) rfl dX9_step_35 ?_
  refine lv_aload_n hx hb dX9_step_38 rfl (lv_at hl 0 rfl) ?_
  refine z_get (T := TX9) (N := 14) (ci := 9) (i := 12) (v := .int 0) hx hb hts zi_X9_step_X9 hown hK hW rfl rfl 6 (by decide) (hts (.fieldLink RX9 56 "PetrolBoard$Reader" "at" "I") (List.mem_of_getElem? (i := 1) rfl)) (fun _ h => h) rfl dX9_step_39 ?_
  refine z_iald (i := 14) hx hb hK hW rfl (z_inl (by decide)) dX9_step_42 ?_
  refine z_topi (v := 401) (by decide) ?_
  refine lv_goto (tgt := 49) hx hb dX9_step_43 (by decide) ?_
  refine z_put (T := TX9) (N := 14) (ci := 9) (i := 12) (v := .int 401) (I1 := (z_up (z_up (z_up (z_up (z_up IX 14 (0 : Int32).toNatClampNeg 401) 12 5 1) 12 6 (-1)) 12 6 0) 12 7 401)) (J1 := JX) (P1 := PX ad) hx hb hts zi_X9_step_X9 tyX9 tyX9_ok nmX9 hown hK hW hS rfl rfl 7 (by decide) (hts (.fieldLink RX9 62 "PetrolBoard$Reader" "token" "I") (List.mem_of_getElem? (i := 4) rfl)) (fun _ h => h) rfl rfl rfl (by first | rfl | exact congrArg _ z_up_s) (fun a b h ty => z_vI h ty) dX9_step_49 (fun H locs hz1 hW hS => ?_)
  exact z_vret hx hb hr hK hS (Nat.le_of_ble_eq_true rfl) (Nat.le_of_ble_eq_true rfl) hlocks dX9_step_52 (shX, ad, (z_up (z_up (z_up (z_up (z_up IX 14 (0 : Int32).toNatClampNeg 401) 12 5 1) 12 6 (-1)) 12 6 0) 12 7 401), JX, PX ad) hW rfl
theorem zi_X9_read_X9 : ∀ w ∈ wsX90, w ∈ wsX9_read := fun w h => (List.mem_cons_of_mem _ (List.mem_append_right _ h))
set_option maxHeartbeats 4000000 in
set_option maxRecDepth 100000 in
theorem ct_X9_read (l : Launch) (G : z_G) (ad : Nat → Nat) : z_M l yX9_read wsX9_read { frames := 3, cells := 0, slots := 0, locals := 64 } [.ref (ad 12), .int 0] G (shX, ad, IX, JX, PX ad) (fun r u1 => u1 = (shX, ad, (z_up (z_up (z_up (z_up (z_up IX 14 (0 : Int32).toNatClampNeg 401) 12 5 1) 12 6 (-1)) 12 6 0) 12 7 401), JX, PX ad) ∧ r = -1) 0 0 := by
  intro sz
  refine z_headQ (cc := cX9_read) (maxL := 3) (ret := (some .int)) (by decide) rfl (Nat.le_of_ble_eq_true rfl) ?_
  intro p e s m below meth c ls hIn hK hsz hW hl
  obtain ⟨hx, hb, hr, hml, hown, hts, hlocks, hname⟩ := hIn
  subst hsz
  have hown : s.vm.findClass RX9 = some m.cls := hown
  have hA : ∀ q : Nat, s.heap.size ≤ q → z_A (shX, ad, IX, JX, PX ad) s.heap.size q := fun q h => Or.inr h
  generalize hAe : z_A (shX, ad, IX, JX, PX ad) s.heap.size = A at *
  have hS : va_S A s.heap s.heap [] := va_S.rf
  have hl : lv_has ls 3 [(0, .ref (ad 12)), (1, .int 0)] := hl
  refine lv_aload_n hx hb dX9_read_0 rfl (lv_at hl 0 rfl) ?_
  refine lv_iload_n hx hb dX9_read_1 rfl (lv_at hl 1 rfl) ?_
  refine lv_aload_n hx hb dX9_read_2 rfl (lv_at hl 0 rfl) ?_
  refine z_get (T := TX9) (N := 14) (ci := 9) (i := 12) (v := .int 0) hx hb hts zi_X9_read_X9 hown hK hW rfl rfl 1 (by decide) (hts (.fieldLink RX9 36 "PetrolBoard$Reader" "taped" "I") (List.mem_of_getElem? (i := 1) rfl)) (fun _ h => h) rfl dX9_read_3 ?_
  refine va_mmin (x := 0) (y := 0) hx hb (hml.trans hl.1.symm) hown (hts (.methodLink RX9 40 Lib.Math.min.name) (List.mem_of_getElem? (i := 2) rfl)) (hts (.static Lib.Math.min.name) (List.mem_of_getElem? (i := 3) rfl)) (hts (.initialized "java/lang/Math") (List.mem_of_getElem? (i := 4) rfl)) (hts (.code Lib.Math.min.name Lib.Math.min.code 2 (some .int)) (List.mem_of_getElem? (i := 5) rfl)) (Nat.le_of_ble_eq_true rfl) (Nat.le_of_ble_eq_true rfl) (Nat.le_of_ble_eq_true rfl) (Nat.le_of_ble_eq_true rfl) dX9_read_6 ?_
  refine z_topi (v := 0) (by decide) ?_
  refine z_cv hW hS hA (va_runV (As := [.int 0]) (rest := []) ⟨hx, hb, hml, hown, hts⟩ (ct_X9_scan l G ad _) (cwV 1 hts gX9_read_X9_scan rfl rfl rfl (by decide +kernel) ⟨Nat.le_of_ble_eq_true rfl, Nat.le_of_ble_eq_true rfl⟩) (z_preV hK hW rfl rfl) rfl rfl hl.1 rfl (lv_room (Nat.le_of_ble_eq_true rfl)) dX9_read_9 ⟨Nat.le_of_ble_eq_true rfl, Nat.le_of_ble_eq_true rfl⟩) (fun u1 H locs hp hW hS => ?_)
  rw [hp] at hW
  refine lv_aload_n hx hb dX9_read_12 rfl (lv_at hl 0 rfl) ?_
  refine lv_iconst (v := 0) hx hb dX9_read_13 (by decide) ?_
  refine z_put (T := TX9) (N := 14) (ci := 9) (i := 12) (v := .int 0) (I1 := (z_up (z_up (z_up IX 14 (0 : Int32).toNatClampNeg 401) 12 5 1) 12 1 0)) (J1 := JX) (P1 := PX ad) hx hb hts zi_X9_read_X9 tyX9 tyX9_ok nmX9 hown hK hW hS rfl rfl 1 (by decide) (hts (.fieldLink RX9 36 "PetrolBoard$Reader" "taped" "I") (List.mem_of_getElem? (i := 1) rfl)) (fun _ h => h) rfl rfl rfl (by first | rfl | exact congrArg _ z_up_s) (fun a b h ty => z_vI h ty) dX9_read_14 (fun H locs hz1 hW hS => ?_)
  rw [show (z_up (z_up (z_up IX 14 (0 : Int32).toNatClampNeg 401) 12 5 1) 12 1 0) = (z_up (z_up IX 14 (0 : Int32).toNatClampNeg 401) 12 5 1) from z_up_id rfl] at hW
  refine lv_aload_n hx hb dX9_read_17 rfl (lv_at hl 0 rfl) ?_
  refine lv_iconst (v := 0) hx hb dX9_read_18 (by decide) ?_
  refine z_put (T := TX9) (N := 14) (ci := 9) (i := 12) (v := .int 0) (I1 := (z_up (z_up (z_up IX 14 (0 : Int32).toNatClampNeg 401) 12 5 1) 12 9 0)) (J1 := JX) (P1 := PX ad) hx hb hts zi_X9_read_X9 tyX9 tyX9_ok nmX9 hown hK hW hS rfl rfl 9 (by decide) (hts (.fieldLink RX9 50 "PetrolBoard$Reader" "used" "I") (List.mem_of_getElem? (i := 6) rfl)) (fun _ h => h) rfl rfl rfl (by first | rfl | exact congrArg _ z_up_s) (fun a b h ty => z_vI h ty) dX9_read_19 (fun H locs hz1 hW hS => ?_)
  rw [show (z_up (z_up (z_up IX 14 (0 : Int32).toNatClampNeg 401) 12 5 1) 12 9 0) = (z_up (z_up IX 14 (0 : Int32).toNatClampNeg 401) 12 5 1) from z_up_id rfl] at hW
  refine lv_aload_n hx hb dX9_read_22 rfl (lv_at hl 0 rfl) ?_
  refine lv_iconst (v := 0) hx hb dX9_read_23 (by decide) ?_
  refine z_put (T := TX9) (N := 14) (ci := 9) (i := 12) (v := .int 0) (I1 := (z_up (z_up (z_up IX 14 (0 : Int32).toNatClampNeg 401) 12 5 1) 12 13 0)) (J1 := JX) (P1 := PX ad) hx hb hts zi_X9_read_X9 tyX9 tyX9_ok nmX9 hown hK hW hS rfl rfl 13 (by decide) (hts (.fieldLink RX9 53 "PetrolBoard$Reader" "statements" "I") (List.mem_of_getElem? (i := 7) rfl)) (fun _ h => h) rfl rfl rfl (by first | rfl | exact congrArg _ z_up_s) (fun a b h ty => z_vI h ty) dX9_read_24 (fun H locs hz1 hW hS => ?_)
  rw [show (z_up (z_up (z_up IX 14 (0 : Int32).toNatClampNeg 401) 12 5 1) 12 13 0) = (z_up (z_up IX 14 (0 : Int32).toNatClampNeg 401) 12 5 1) from z_up_id rfl] at hW
  refine lv_aload_n hx hb dX9_read_27 rfl (lv_at hl 0 rfl) ?_
  refine lv_iconst (v := (-1)) hx hb dX9_read_28 (by decide) ?_
  refine z_put (T := TX9) (N := 14) (ci := 9) (i := 12) (v := .int (-1)) (I1 := (z_up (z_up (z_up IX 14 (0 : Int32).toNatClampNeg 401) 12 5 1) 12 6 (-1))) (J1 := JX) (P1 := PX ad) hx hb hts zi_X9_read_X9 tyX9 tyX9_ok nmX9 hown hK hW hS rfl rfl 6 (by decide) (hts (.fieldLink RX9 56 "PetrolBoard$Reader" "at" "I") (List.mem_of_getElem? (i := 8) rfl)) (fun _ h => h) rfl rfl rfl (by first | rfl | exact congrArg _ z_up_s) (fun a b h ty => z_vI h ty) dX9_read_29 (fun H locs hz1 hW hS => ?_)
  refine lv_aload_n hx hb dX9_read_32 rfl (lv_at hl 0 rfl) ?_
  refine z_cv hW hS hA (va_runV (As := []) (rest := []) ⟨hx, hb, hml, hown, hts⟩ (ct_X9_step l G ad _) (cwV 0 hts gX9_read_X9_step rfl rfl rfl (by decide +kernel) ⟨Nat.le_of_ble_eq_true rfl, Nat.le_of_ble_eq_true rfl⟩) (z_preV hK hW rfl rfl) rfl rfl hl.1 rfl (lv_room (Nat.le_of_ble_eq_true rfl)) dX9_read_33 ⟨Nat.le_of_ble_eq_true rfl, Nat.le_of_ble_eq_true rfl⟩) (fun u1 H locs hp hW hS => ?_)
  rw [hp] at hW
  refine lv_iconst (v := 0) hx hb dX9_read_36 (by decide) ?_
  refine lv_istore_n (lv' := [(2, .int 0), (0, .ref (ad 12)), (1, .int 0)]) hx hb dX9_read_37 rfl hl (by decide) rfl (fun ls hl => ?_)
  refine lv_iload_n hx hb dX9_read_38 rfl (lv_at hl 0 rfl) ?_
  refine lv_bipush (v := 24) hx hb dX9_read_39 (by decide) ?_
  refine lv_icmp_ge (tgt := 89) hx hb dX9_read_41 (by decide) (fun c1 => absurd c1 (by decide)) (fun c1 => ?_)
  refine lv_aload_n hx hb dX9_read_44 rfl (lv_at hl 1 rfl) ?_
  refine z_get (T := TX9) (N := 14) (ci := 9) (i := 12) (v := .int 401) hx hb hts zi_X9_read_X9 hown hK hW rfl rfl 7 (by decide) (hts (.fieldLink RX9 62 "PetrolBoard$Reader" "token" "I") (List.mem_of_getElem? (i := 9) rfl)) (fun _ h => h) rfl dX9_read_45 ?_
  refine lv_sipush (v := 401) hx hb dX9_read_48 (by decide) ?_
  refine lv_icmp_eq (tgt := 89) hx hb dX9_read_51 (by decide) (fun c2 => ?_) (fun c2 => absurd (by decide) c2)
  refine lv_aload_n hx hb dX9_read_89 rfl (lv_at hl 1 rfl) ?_
  refine z_get (T := TX9) (N := 14) (ci := 9) (i := 12) (v := .int 401) hx hb hts zi_X9_read_X9 hown hK hW rfl rfl 7 (by decide) (hts (.fieldLink RX9 62 "PetrolBoard$Reader" "token" "I") (List.mem_of_getElem? (i := 9) rfl)) (fun _ h => h) rfl dX9_read_90 ?_
  refine lv_sipush (v := 401) hx hb dX9_read_93 (by decide) ?_
  refine lv_icmp_ne (tgt := 103) hx hb dX9_read_96 (by decide) (fun c3 => absurd (by decide) c3) (fun c3 => ?_)
  refine lv_iconst (v := (-1)) hx hb dX9_read_99 (by decide) ?_
  refine lv_goto (tgt := 107) hx hb dX9_read_100 (by decide) ?_
  exact z_iret hx hb hr hK hS (Nat.le_of_ble_eq_true rfl) (Nat.le_of_ble_eq_true rfl) hlocks dX9_read_107 (shX, ad, (z_up (z_up (z_up (z_up (z_up IX 14 (0 : Int32).toNatClampNeg 401) 12 5 1) 12 6 (-1)) 12 6 0) 12 7 401), JX, PX ad) hW ⟨rfl, rfl⟩
