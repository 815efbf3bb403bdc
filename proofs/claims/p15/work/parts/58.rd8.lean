theorem dX9_read_0 : decode cX9_read 0 = .ok (.aload_n 0, 1) := by decide +kernel
theorem dX9_read_1 : decode cX9_read 1 = .ok (.iload_n 1, 1) := by decide +kernel
theorem dX9_read_2 : decode cX9_read 2 = .ok (.aload_n 0, 1) := by decide +kernel
theorem dX9_read_3 : decode cX9_read 3 = .ok (.getfield 36, 3) := by decide +kernel
theorem dX9_read_6 : decode cX9_read 6 = .ok (.invokestatic 40, 3) := by decide +kernel
set_option maxRecDepth 20000 in
theorem ggX9_read_X9_scan : GoodIn wsX9_read wsX9_scan := goodIn_r _ [14, 15, 2, 3, 4, 5, 16, 17, 18, 19, 20, 21, 22, 13, 23, 24, 25, 26, 27, 28, 29, 30, 31, 32, 33, 34, 35, 36, 37, 38, 39, 40, 41, 42, 43, 44, 45, 46, 47, 48, 49, 50, 51, 52, 53, 54, 55, 56, 57, 58, 59, 60, 61, 62, 63, 64, 65, 66, 67, 68, 69, 70, 71, 72, 73, 74, 75, 76, 77, 78, 79, 80, 81, 82, 83, 84, 85, 86, 87, 88, 89, 90, 91, 92, 93, 94, 95, 96, 97, 98, 99, 100, 101, 102, 103, 104, 105, 106, 107, 108, 109, 110, 175, 176, 177, 178, 179, 180, 181, 182, 183, 184, 185, 186, 187, 188] rfl (by decide +kernel)
set_option maxRecDepth 20000 in
theorem gX9_read_X9_scan : GoodIn wsX9_read (wsV RX9 46 RX9 yX9_scan wsX9_scan) := goodIn_app (goodIn_r _ [10, 11, 12, 13] rfl (by decide +kernel)) ggX9_read_X9_scan
theorem dX9_read_9 : decode cX9_read 9 = .ok (.invokevirtual 46, 3) := by decide +kernel
theorem dX9_read_12 : decode cX9_read 12 = .ok (.aload_n 0, 1) := by decide +kernel
theorem dX9_read_13 : decode cX9_read 13 = .ok (.iconst 0, 1) := by decide +kernel
theorem dX9_read_14 : decode cX9_read 14 = .ok (.putfield 36, 3) := by decide +kernel
theorem dX9_read_17 : decode cX9_read 17 = .ok (.aload_n 0, 1) := by decide +kernel
theorem dX9_read_18 : decode cX9_read 18 = .ok (.iconst 0, 1) := by decide +kernel
theorem dX9_read_19 : decode cX9_read 19 = .ok (.putfield 50, 3) := by decide +kernel
theorem dX9_read_22 : decode cX9_read 22 = .ok (.aload_n 0, 1) := by decide +kernel
theorem dX9_read_23 : decode cX9_read 23 = .ok (.iconst 0, 1) := by decide +kernel
theorem dX9_read_24 : decode cX9_read 24 = .ok (.putfield 53, 3) := by decide +kernel
theorem dX9_read_27 : decode cX9_read 27 = .ok (.aload_n 0, 1) := by decide +kernel
theorem dX9_read_28 : decode cX9_read 28 = .ok (.iconst (-1), 1) := by decide +kernel
theorem dX9_read_29 : decode cX9_read 29 = .ok (.putfield 56, 3) := by decide +kernel
theorem dX9_read_32 : decode cX9_read 32 = .ok (.aload_n 0, 1) := by decide +kernel
set_option maxRecDepth 20000 in
theorem ggX9_read_X9_step : GoodIn wsX9_read wsX9_step := goodIn_r _ [114, 8, 16, 108, 9, 175, 176, 177, 178, 179, 180, 181, 182, 183, 184, 185, 186, 187, 188] rfl (by decide +kernel)
set_option maxRecDepth 20000 in
theorem gX9_read_X9_step : GoodIn wsX9_read (wsV RX9 59 RX9 yX9_step wsX9_step) := goodIn_app (goodIn_r _ [111, 112, 113, 13] rfl (by decide +kernel)) ggX9_read_X9_step
theorem dX9_read_33 : decode cX9_read 33 = .ok (.invokevirtual 59, 3) := by decide +kernel
theorem dX9_read_36 : decode cX9_read 36 = .ok (.iconst 0, 1) := by decide +kernel
theorem dX9_read_37 : decode cX9_read 37 = .ok (.istore_n 2, 1) := by decide +kernel
theorem dX9_read_38 : decode cX9_read 38 = .ok (.iload_n 2, 1) := by decide +kernel
theorem dX9_read_39 : decode cX9_read 39 = .ok (.bipush 24, 2) := by decide +kernel
theorem dX9_read_41 : decode cX9_read 41 = .ok (.if_icmp .ge 48, 3) := by decide +kernel
theorem dX9_read_89 : decode cX9_read 89 = .ok (.aload_n 0, 1) := by decide +kernel
theorem dX9_read_90 : decode cX9_read 90 = .ok (.getfield 62, 3) := by decide +kernel
theorem dX9_read_93 : decode cX9_read 93 = .ok (.sipush 401, 3) := by decide +kernel
theorem dX9_read_96 : decode cX9_read 96 = .ok (.if_icmp .ne 7, 3) := by decide +kernel
theorem dX9_read_103 : decode cX9_read 103 = .ok (.aload_n 0, 1) := by decide +kernel
set_option maxRecDepth 20000 in
theorem ggX9_read_X9_place : GoodIn wsX9_read wsX9_place := goodIn_r _ [174, 8, 16, 109, 175, 176, 177, 178, 179, 180, 181, 182, 183, 184, 185, 186, 187, 188] rfl (by decide +kernel)
set_option maxRecDepth 20000 in
theorem gX9_read_X9_place : GoodIn wsX9_read (wsV RX9 72 RX9 yX9_place wsX9_place) := goodIn_app (goodIn_r _ [171, 172, 173, 13] rfl (by decide +kernel)) ggX9_read_X9_place
theorem dX9_read_104 : decode cX9_read 104 = .ok (.invokevirtual 72, 3) := by decide +kernel
theorem dX9_read_107 : decode cX9_read 107 = .ok (.ireturn, 1) := by decide +kernel
theorem dX9_read_99 : decode cX9_read 99 = .ok (.iconst (-1), 1) := by decide +kernel
theorem dX9_read_100 : decode cX9_read 100 = .ok (.goto 7, 3) := by decide +kernel
theorem dX9_read_44 : decode cX9_read 44 = .ok (.aload_n 0, 1) := by decide +kernel
theorem dX9_read_45 : decode cX9_read 45 = .ok (.getfield 62, 3) := by decide +kernel
theorem dX9_read_48 : decode cX9_read 48 = .ok (.sipush 401, 3) := by decide +kernel
theorem dX9_read_51 : decode cX9_read 51 = .ok (.if_icmp .eq 38, 3) := by decide +kernel
theorem dX9_read_54 : decode cX9_read 54 = .ok (.aload_n 0, 1) := by decide +kernel
theorem dX9_read_55 : decode cX9_read 55 = .ok (.iload_n 2, 1) := by decide +kernel
set_option maxRecDepth 20000 in
theorem ggX9_read_X9_statement : GoodIn wsX9_read wsX9_statement := goodIn_r _ [118, 119, 9, 120, 6, 121, 111, 112, 113, 13, 114, 8, 16, 108, 122, 123, 124, 125, 126, 127, 128, 129, 130, 131, 132, 133, 134, 135, 136, 137, 138, 110, 139, 140, 141, 142, 143, 144, 145, 146, 147, 148, 149, 150, 151, 152, 153, 154, 155, 156, 157, 158, 159, 160, 161, 162, 163, 164, 165, 166, 167, 168, 169, 170, 175, 176, 177, 178, 179, 180, 181, 182, 183, 184, 185, 186, 187, 188] rfl (by decide +kernel)
set_option maxRecDepth 20000 in
theorem gX9_read_X9_statement : GoodIn wsX9_read (wsV RX9 65 RX9 yX9_statement wsX9_statement) := goodIn_app (goodIn_r _ [115, 116, 117, 13] rfl (by decide +kernel)) ggX9_read_X9_statement
theorem dX9_read_56 : decode cX9_read 56 = .ok (.invokevirtual 65, 3) := by decide +kernel
theorem dX9_read_59 : decode cX9_read 59 = .ok (.ifCond .eq 12, 3) := by decide +kernel
theorem dX9_read_62 : decode cX9_read 62 = .ok (.aload_n 0, 1) := by decide +kernel
theorem dX9_read_63 : decode cX9_read 63 = .ok (.bipush 59, 2) := by decide +kernel
set_option maxRecDepth 20000 in
theorem ggX9_read_X9_taken : GoodIn wsX9_read wsX9_taken := goodIn_r _ [142, 9, 111, 112, 113, 13, 114, 8, 16, 108, 175, 176, 177, 178, 179, 180, 181, 182, 183, 184, 185, 186, 187, 188] rfl (by decide +kernel)
set_option maxRecDepth 20000 in
theorem gX9_read_X9_taken : GoodIn wsX9_read (wsV RX9 69 RX9 yX9_taken wsX9_taken) := goodIn_app (goodIn_r _ [139, 140, 141, 13] rfl (by decide +kernel)) ggX9_read_X9_taken
theorem dX9_read_65 : decode cX9_read 65 = .ok (.invokevirtual 69, 3) := by decide +kernel
theorem dX9_read_68 : decode cX9_read 68 = .ok (.ifCond .ne 8, 3) := by decide +kernel
theorem dX9_read_76 : decode cX9_read 76 = .ok (.aload_n 0, 1) := by decide +kernel
theorem dX9_read_77 : decode cX9_read 77 = .ok (.iload_n 2, 1) := by decide +kernel
theorem dX9_read_78 : decode cX9_read 78 = .ok (.iconst 1, 1) := by decide +kernel
theorem dX9_read_79 : decode cX9_read 79 = .ok (.iadd, 1) := by decide +kernel
theorem dX9_read_80 : decode cX9_read 80 = .ok (.putfield 53, 3) := by decide +kernel
theorem dX9_read_83 : decode cX9_read 83 = .ok (.iinc 2 1, 3) := by decide +kernel
theorem dX9_read_86 : decode cX9_read 86 = .ok (.goto (-48), 3) := by decide +kernel
theorem dX9_read_71 : decode cX9_read 71 = .ok (.aload_n 0, 1) := by decide +kernel
theorem dX9_read_72 : decode cX9_read 72 = .ok (.invokevirtual 72, 3) := by decide +kernel
theorem dX9_read_75 : decode cX9_read 75 = .ok (.ireturn, 1) := by decide +kernel

def L_X9_read : z_L := [(14, 999), (16, 999), (15, 999), (12, 5), (12, 1), (12, 9), (12, 13), (12, 6), (12, 7), (17, 999), (20, 999), (19, 999), (18, 999)]
theorem zj_X9_read_X9 : ∀ w ∈ wsX90, w ∈ wsX9_read := fun w h => (List.mem_cons_of_mem _ (List.mem_append_right _ h))
set_option maxHeartbeats 8000000 in
set_option maxRecDepth 100000 in
theorem sx_X9_read (l : Launch) (G : z_G) (adK adV : Nat → Nat) (ad : Nat → Nat) (c : z_C) (I : z_I) (hR : z_iR I) (a1 : Int32) (q1 : 0 ≤ a1.toInt) : z_MN (z_Ck adK adV) l yX9_read wsX9_read { frames := 47, cells := 0, slots := 0, locals := 1021 } [.ref (ad 12), .int a1] G (shC c, ad, I, JX, PC c ad) (fun r u1 => ∃ I1 : z_I, u1 = (shC c, ad, I1, JX, PC c ad) ∧ z_iR I1 ∧ z_fr L_X9_read I1 I) 0 0 := by
  intro sz
  refine z_headN (cc := cX9_read) (maxL := 3) (ret := (some .int)) (by decide) rfl (Nat.le_of_ble_eq_true rfl) ?_
  intro p e s m below meth c0 ls hIn hK hsz hW hl hKn
  obtain ⟨hx, hb, hr, hml, hown, hts, hlocks, hname⟩ := hIn
  subst hsz
  have hown : s.vm.findClass RX9 = some m.cls := hown
  have hA : ∀ q : Nat, s.heap.size ≤ q → z_A (shC c, ad, I, JX, PC c ad) s.heap.size q := fun q h => Or.inr h
  generalize hAe : z_A (shC c, ad, I, JX, PC c ad) s.heap.size = A at *
  have hS : va_S A s.heap s.heap [] := va_S.rf
  have hl : lv_has ls 3 [(0, .ref (ad 12)), (1, .int a1)] := hl
  refine lv_aload_n hx hb dX9_read_0 rfl (lv_at hl 0 rfl) ?_
  refine lv_iload_n hx hb dX9_read_1 rfl (lv_at hl 1 rfl) ?_
  refine lv_aload_n hx hb dX9_read_2 rfl (lv_at hl 0 rfl) ?_
  have r1 : 0 ≤ (I 12 1).toInt ∧ (I 12 1).toInt ≤ 500 := hR.1
  refine z_get (T := TX9) (N := 14) (ci := 9) (i := 12) (v := .int (I 12 1)) hx hb hts zj_X9_read_X9 hown hK hW rfl rfl 1 (by decide) (hts (.fieldLink RX9 36 "PetrolBoard$Reader" "taped" "I") (List.mem_of_getElem? (i := 1) rfl)) (fun _ h => h) rfl dX9_read_3 ?_
  refine va_mmin (x := a1) (y := (I 12 1)) hx hb (hml.trans hl.1.symm) hown (hts (.methodLink RX9 40 Lib.Math.min.name) (List.mem_of_getElem? (i := 2) rfl)) (hts (.static Lib.Math.min.name) (List.mem_of_getElem? (i := 3) rfl)) (hts (.initialized "java/lang/Math") (List.mem_of_getElem? (i := 4) rfl)) (hts (.code Lib.Math.min.name Lib.Math.min.code 2 (some .int)) (List.mem_of_getElem? (i := 5) rfl)) (Nat.le_of_ble_eq_true rfl) (Nat.le_of_ble_eq_true rfl) (Nat.le_of_ble_eq_true rfl) (Nat.le_of_ble_eq_true rfl) dX9_read_6 ?_
  refine lv_topi (fun x2 ex2 => ?_)
  have tx2 := z_tmmin ex2 rfl rfl
  refine z_cv hW hS hA (va_runV (As := [.int x2]) (rest := []) ⟨hx, hb, hml, hown, hts⟩ (sx_X9_scan l G adK adV ad c I ⟨(by show 0 ≤ (I 12 1).toInt ∧ (I 12 1).toInt ≤ 500; exact hR.1), (by show 0 ≤ (I 12 5).toInt ∧ (I 12 5).toInt ≤ 501; exact hR.2.1), (by show (-1) ≤ (I 12 6).toInt ∧ (I 12 6).toInt ≤ 1000000; exact hR.2.2.1), (by show 0 ≤ (I 12 9).toInt ∧ (I 12 9).toInt ≤ 500; exact hR.2.2.2.1), (by show 0 ≤ (I 12 13).toInt ∧ (I 12 13).toInt ≤ 24; exact hR.2.2.2.2)⟩ x2 (by first | omega | decide) _) (cwV 1 hts gX9_read_X9_scan rfl rfl rfl (by decide +kernel) ⟨Nat.le_of_ble_eq_true rfl, Nat.le_of_ble_eq_true rfl⟩) (z_preVN (z_Ck.nice adK adV) (i := 12) hK hW hS hA hKn rfl rfl) rfl rfl hl.1 rfl (lv_room (Nat.le_of_ble_eq_true rfl)) dX9_read_9 ⟨Nat.le_of_ble_eq_true rfl, Nat.le_of_ble_eq_true rfl⟩) (fun u1 H locs hp hW hS => ?_)
  obtain ⟨I3, e9, hI3R, fI3⟩ := hp
  rw [e9] at hW
  have f4 := z_fr_sub (L := L_X9_read) z_fr_0 fI3 (by decide)
  have k5 : (I3 12 6).toInt = (I 12 6).toInt := by rw [fI3 12 6 (by decide)]
  have k6 : (I3 12 7).toInt = (I 12 7).toInt := by rw [fI3 12 7 (by decide)]
  refine lv_aload_n hx hb dX9_read_12 rfl (lv_at hl 0 rfl) ?_
  refine lv_iconst (v := 0) hx hb dX9_read_13 (by decide) ?_
  refine z_put (T := TX9) (N := 14) (ci := 9) (i := 12) (v := .int 0) (I1 := z_up I3 12 1 0) (J1 := JX) (P1 := PC c ad) hx hb hts zj_X9_read_X9 tyX9 tyX9_ok nmX9 hown hK hW hS rfl rfl 1 (by decide) (hts (.fieldLink RX9 36 "PetrolBoard$Reader" "taped" "I") (List.mem_of_getElem? (i := 1) rfl)) (fun _ h => h) rfl rfl rfl (by first | rfl | exact congrArg _ z_up_s) (fun a b h ty => z_vI h ty) dX9_read_14 (fun H locs hz1 hW hS => ?_)
  obtain ⟨I7, eI7⟩ : ∃ K : z_I, K = z_up I3 12 1 0 := ⟨_, rfl⟩
  rw [← eI7] at hW
  have f8 := z_fr_k f4 (show z_wr L_X9_read 12 1 = true by decide) eI7
  refine lv_aload_n hx hb dX9_read_17 rfl (lv_at hl 0 rfl) ?_
  refine lv_iconst (v := 0) hx hb dX9_read_18 (by decide) ?_
  refine z_put (T := TX9) (N := 14) (ci := 9) (i := 12) (v := .int 0) (I1 := z_up I7 12 9 0) (J1 := JX) (P1 := PC c ad) hx hb hts zj_X9_read_X9 tyX9 tyX9_ok nmX9 hown hK hW hS rfl rfl 9 (by decide) (hts (.fieldLink RX9 50 "PetrolBoard$Reader" "used" "I") (List.mem_of_getElem? (i := 6) rfl)) (fun _ h => h) rfl rfl rfl (by first | rfl | exact congrArg _ z_up_s) (fun a b h ty => z_vI h ty) dX9_read_19 (fun H locs hz1 hW hS => ?_)
  obtain ⟨I9, eI9⟩ : ∃ K : z_I, K = z_up I7 12 9 0 := ⟨_, rfl⟩
  rw [← eI9] at hW
  have f10 := z_fr_k f8 (show z_wr L_X9_read 12 9 = true by decide) eI9
  refine lv_aload_n hx hb dX9_read_22 rfl (lv_at hl 0 rfl) ?_
  refine lv_iconst (v := 0) hx hb dX9_read_23 (by decide) ?_
  refine z_put (T := TX9) (N := 14) (ci := 9) (i := 12) (v := .int 0) (I1 := z_up I9 12 13 0) (J1 := JX) (P1 := PC c ad) hx hb hts zj_X9_read_X9 tyX9 tyX9_ok nmX9 hown hK hW hS rfl rfl 13 (by decide) (hts (.fieldLink RX9 53 "PetrolBoard$Reader" "statements" "I") (List.mem_of_getElem? (i := 7) rfl)) (fun _ h => h) rfl rfl rfl (by first | rfl | exact congrArg _ z_up_s) (fun a b h ty => z_vI h ty) dX9_read_24 (fun H locs hz1 hW hS => ?_)
  obtain ⟨I11, eI11⟩ : ∃ K : z_I, K = z_up I9 12 13 0 := ⟨_, rfl⟩
  rw [← eI11] at hW
  have f12 := z_fr_k f10 (show z_wr L_X9_read 12 13 = true by decide) eI11
  refine lv_aload_n hx hb dX9_read_27 rfl (lv_at hl 0 rfl) ?_
  refine lv_iconst (v := (-1)) hx hb dX9_read_28 (by decide) ?_
  refine z_put (T := TX9) (N := 14) (ci := 9) (i := 12) (v := .int (-1)) (I1 := z_up I11 12 6 (-1)) (J1 := JX) (P1 := PC c ad) hx hb hts zj_X9_read_X9 tyX9 tyX9_ok nmX9 hown hK hW hS rfl rfl 6 (by decide) (hts (.fieldLink RX9 56 "PetrolBoard$Reader" "at" "I") (List.mem_of_getElem? (i := 8) rfl)) (fun _ h => h) rfl rfl rfl (by first | rfl | exact congrArg _ z_up_s) (fun a b h ty => z_vI h ty) dX9_read_29 (fun H locs hz1 hW hS => ?_)
  obtain ⟨I13, eI13⟩ : ∃ K : z_I, K = z_up I11 12 6 (-1) := ⟨_, rfl⟩
  rw [← eI13] at hW
  have f14 := z_fr_k f12 (show z_wr L_X9_read 12 6 = true by decide) eI13
  refine lv_aload_n hx hb dX9_read_32 rfl (lv_at hl 0 rfl) ?_
  refine z_cv hW hS hA (va_runV (As := []) (rest := []) ⟨hx, hb, hml, hown, hts⟩ (sx_X9_step l G ad c I13 ⟨(by show 0 ≤ (I13 12 1).toInt ∧ (I13 12 1).toInt ≤ 500; rw [eI13, z_up_k (by decide), eI11, z_up_k (by decide), eI9, z_up_k (by decide), eI7, z_up_s]; decide), (by show 0 ≤ (I13 12 5).toInt ∧ (I13 12 5).toInt ≤ 501; rw [eI13, z_up_k (by decide), eI11, z_up_k (by decide), eI9, z_up_k (by decide), eI7, z_up_k (by decide)]; exact hI3R.2.1), (by show (-1) ≤ (I13 12 6).toInt ∧ (I13 12 6).toInt ≤ 1000000; rw [eI13, z_up_s]; decide), (by show 0 ≤ (I13 12 9).toInt ∧ (I13 12 9).toInt ≤ 500; rw [eI13, z_up_k (by decide), eI11, z_up_k (by decide), eI9, z_up_s]; decide), (by show 0 ≤ (I13 12 13).toInt ∧ (I13 12 13).toInt ≤ 24; rw [eI13, z_up_k (by decide), eI11, z_up_s]; decide)⟩   (by show (I13 12 6).toInt ≤ 500; have q : (I13 12 6) = (-1) := (by rw [eI13, z_up_s]); rw [q]; first | omega | decide) _) (cwV 0 hts gX9_read_X9_step rfl rfl rfl (by decide +kernel) ⟨Nat.le_of_ble_eq_true rfl, Nat.le_of_ble_eq_true rfl⟩) (z_preV (i := 12) hK hW rfl rfl) rfl rfl hl.1 rfl (lv_room (Nat.le_of_ble_eq_true rfl)) dX9_read_33 ⟨Nat.le_of_ble_eq_true rfl, Nat.le_of_ble_eq_true rfl⟩) (fun u1 H locs hp hW hS => ?_)
  obtain ⟨I15, e9, hI15R, hI15T, fI15⟩ := hp
  rw [e9] at hW
  have f16 := z_fr_sub (L := L_X9_read) f14 fI15 (by decide)
  have k17 : (I15 12 6).toInt ≤ 501 ∧ ((I15 12 7).toInt = 401 ∨ (I15 12 6).toInt ≤ 500) := hI15T
  refine lv_iconst (v := 0) hx hb dX9_read_36 (by decide) ?_
  refine lv_istore_n (lv' := [(2, .int 0), (0, .ref (ad 12)), (1, .int a1)]) hx hb dX9_read_37 rfl hl (by decide) rfl (fun ls hl => ?_)
  have lp18 : ∀ (f : Nat) (y19 : Int32) (I20 : z_I) (H : Heap) (locs : List Loc) (ls : Array Slot), (2147483647 < y19.toInt + (f : Int)) → (0 ≤ y19.toInt) → (z_iR I20) → (z_iT I20) → (z_fr L_X9_read I20 I) → z_W G A (shC c, ad, I20, JX, PC c ad) H → va_S A s.heap H locs → lv_has ls 3 [(2, .int y19), (0, .ref (ad 12)), (1, .int a1)] → W p l e (headSpec wsX9_read { frames := 47, cells := 0, slots := 0, locals := 1021 }).room s m ([.ref (ad 12), .int a1] : List Value).toArray below meth c0 H locs 0 0 (MQ below (va_Qi (fun (r : Int32) (u1 : z_U) => ∃ I1 : z_I, u1 = (shC c, ad, I1, JX, PC c ad) ∧ z_iR I1 ∧ z_fr L_X9_read I1 I) (z_B G A) A) ([.ref (ad 12), .int a1] : List Value).toArray s 0 0 A) (F0 m 38 ls []) := by
    intro f
    induction f with
    | zero => intro y19 I20  H locs ls lp18m lp18l2 lp18R lp18T lp18fr hW hS hl; exact absurd lp18m (by have := Int32.toInt_lt y19; have := Int32.le_toInt y19; omega)
    | succ f lp18ih =>
      intro y19 I20  H locs ls lp18m lp18l2 lp18R lp18T lp18fr hW hS hl
      have k21 : (I20 12 6).toInt ≤ 501 ∧ ((I20 12 7).toInt = 401 ∨ (I20 12 6).toInt ≤ 500) := lp18T
      refine lv_iload_n hx hb dX9_read_38 rfl (lv_at hl 0 rfl) ?_
      refine lv_bipush (v := 24) hx hb dX9_read_39 (by decide) ?_
      refine lv_icmp_ge (tgt := 89) hx hb dX9_read_41 (by decide) (fun c22 => ?_) (fun c22 => ?_)
      · have g23 := z_f_ge rfl z_l24 c22
        have b24 := Int32.toInt_lt y19
        refine lv_aload_n hx hb dX9_read_89 rfl (lv_at hl 1 rfl) ?_
        refine z_get (T := TX9) (N := 14) (ci := 9) (i := 12) (v := .int (I20 12 7)) hx hb hts zj_X9_read_X9 hown hK hW rfl rfl 7 (by decide) (hts (.fieldLink RX9 62 "PetrolBoard$Reader" "token" "I") (List.mem_of_getElem? (i := 9) rfl)) (fun _ h => h) rfl dX9_read_90 ?_
        refine lv_sipush (v := 401) hx hb dX9_read_93 (by decide) ?_
        refine lv_icmp_ne (tgt := 103) hx hb dX9_read_96 (by decide) (fun c25 => ?_) (fun c25 => ?_)
        · have g26 := z_f_ne rfl z_l401 c25
          have b27 := Int32.toInt_lt (I20 12 7)
          refine lv_aload_n hx hb dX9_read_103 rfl (lv_at hl 1 rfl) ?_
          refine z_ci hW hS hA (va_runV (As := []) (rest := []) ⟨hx, hb, hml, hown, hts⟩ (sx_X9_place l G ad c I20 ⟨(by show 0 ≤ (I20 12 1).toInt ∧ (I20 12 1).toInt ≤ 500; exact lp18R.1), (by show 0 ≤ (I20 12 5).toInt ∧ (I20 12 5).toInt ≤ 501; exact lp18R.2.1), (by show (-1) ≤ (I20 12 6).toInt ∧ (I20 12 6).toInt ≤ 1000000; exact lp18R.2.2.1), (by show 0 ≤ (I20 12 9).toInt ∧ (I20 12 9).toInt ≤ 500; exact lp18R.2.2.2.1), (by show 0 ≤ (I20 12 13).toInt ∧ (I20 12 13).toInt ≤ 24; exact lp18R.2.2.2.2)⟩  _) (cwV 0 hts gX9_read_X9_place rfl rfl rfl (by decide +kernel) ⟨Nat.le_of_ble_eq_true rfl, Nat.le_of_ble_eq_true rfl⟩) (z_preV (i := 12) hK hW rfl rfl) rfl rfl hl.1 rfl (lv_room (Nat.le_of_ble_eq_true rfl)) dX9_read_104 ⟨Nat.le_of_ble_eq_true rfl, Nat.le_of_ble_eq_true rfl⟩) (fun r u1 H locs hp hW hS => ?_)
          rw [hp] at hW
          refine lv_topi (fun x28 ex28 => ?_)
          exact z_iret hx hb hr hK hS (Nat.le_of_ble_eq_true rfl) (Nat.le_of_ble_eq_true rfl) hlocks dX9_read_107 (shC c, ad, I20, JX, PC c ad) hW ⟨I20, rfl, ⟨(by show 0 ≤ (I20 12 1).toInt ∧ (I20 12 1).toInt ≤ 500; exact lp18R.1), (by show 0 ≤ (I20 12 5).toInt ∧ (I20 12 5).toInt ≤ 501; exact lp18R.2.1), (by show (-1) ≤ (I20 12 6).toInt ∧ (I20 12 6).toInt ≤ 1000000; exact lp18R.2.2.1), (by show 0 ≤ (I20 12 9).toInt ∧ (I20 12 9).toInt ≤ 500; exact lp18R.2.2.2.1), (by show 0 ≤ (I20 12 13).toInt ∧ (I20 12 13).toInt ≤ 24; exact lp18R.2.2.2.2)⟩, lp18fr⟩
        · have g29 := z_f_eq rfl z_l401 c25
          have b30 := Int32.toInt_lt (I20 12 7)
          refine lv_iconst (v := (-1)) hx hb dX9_read_99 (by decide) ?_
          refine lv_goto (tgt := 107) hx hb dX9_read_100 (by decide) ?_
          exact z_iret hx hb hr hK hS (Nat.le_of_ble_eq_true rfl) (Nat.le_of_ble_eq_true rfl) hlocks dX9_read_107 (shC c, ad, I20, JX, PC c ad) hW ⟨I20, rfl, ⟨(by show 0 ≤ (I20 12 1).toInt ∧ (I20 12 1).toInt ≤ 500; exact lp18R.1), (by show 0 ≤ (I20 12 5).toInt ∧ (I20 12 5).toInt ≤ 501; exact lp18R.2.1), (by show (-1) ≤ (I20 12 6).toInt ∧ (I20 12 6).toInt ≤ 1000000; exact lp18R.2.2.1), (by show 0 ≤ (I20 12 9).toInt ∧ (I20 12 9).toInt ≤ 500; exact lp18R.2.2.2.1), (by show 0 ≤ (I20 12 13).toInt ∧ (I20 12 13).toInt ≤ 24; exact lp18R.2.2.2.2)⟩, lp18fr⟩
      · have g31 := z_f_nge rfl z_l24 c22
        have b32 := Int32.toInt_lt y19
        refine lv_aload_n hx hb dX9_read_44 rfl (lv_at hl 1 rfl) ?_
        refine z_get (T := TX9) (N := 14) (ci := 9) (i := 12) (v := .int (I20 12 7)) hx hb hts zj_X9_read_X9 hown hK hW rfl rfl 7 (by decide) (hts (.fieldLink RX9 62 "PetrolBoard$Reader" "token" "I") (List.mem_of_getElem? (i := 9) rfl)) (fun _ h => h) rfl dX9_read_45 ?_
        refine lv_sipush (v := 401) hx hb dX9_read_48 (by decide) ?_
        refine lv_icmp_eq (tgt := 89) hx hb dX9_read_51 (by decide) (fun c33 => ?_) (fun c33 => ?_)
        · have g34 := z_f_eq rfl z_l401 c33
          have b35 := Int32.toInt_lt (I20 12 7)
          refine lv_aload_n hx hb dX9_read_89 rfl (lv_at hl 1 rfl) ?_
          refine z_get (T := TX9) (N := 14) (ci := 9) (i := 12) (v := .int (I20 12 7)) hx hb hts zj_X9_read_X9 hown hK hW rfl rfl 7 (by decide) (hts (.fieldLink RX9 62 "PetrolBoard$Reader" "token" "I") (List.mem_of_getElem? (i := 9) rfl)) (fun _ h => h) rfl dX9_read_90 ?_
          refine lv_sipush (v := 401) hx hb dX9_read_93 (by decide) ?_
          refine lv_icmp_ne (tgt := 103) hx hb dX9_read_96 (by decide) (fun c36 => (by have g := z_f_ne rfl z_l401 c36; omega)) (fun c36 => ?_)
          have g37 := z_f_eq rfl z_l401 c36
          refine lv_iconst (v := (-1)) hx hb dX9_read_99 (by decide) ?_
          refine lv_goto (tgt := 107) hx hb dX9_read_100 (by decide) ?_
          exact z_iret hx hb hr hK hS (Nat.le_of_ble_eq_true rfl) (Nat.le_of_ble_eq_true rfl) hlocks dX9_read_107 (shC c, ad, I20, JX, PC c ad) hW ⟨I20, rfl, ⟨(by show 0 ≤ (I20 12 1).toInt ∧ (I20 12 1).toInt ≤ 500; exact lp18R.1), (by show 0 ≤ (I20 12 5).toInt ∧ (I20 12 5).toInt ≤ 501; exact lp18R.2.1), (by show (-1) ≤ (I20 12 6).toInt ∧ (I20 12 6).toInt ≤ 1000000; exact lp18R.2.2.1), (by show 0 ≤ (I20 12 9).toInt ∧ (I20 12 9).toInt ≤ 500; exact lp18R.2.2.2.1), (by show 0 ≤ (I20 12 13).toInt ∧ (I20 12 13).toInt ≤ 24; exact lp18R.2.2.2.2)⟩, lp18fr⟩
        · have g38 := z_f_ne rfl z_l401 c33
          have b39 := Int32.toInt_lt (I20 12 7)
          refine lv_aload_n hx hb dX9_read_54 rfl (lv_at hl 1 rfl) ?_
          refine lv_iload_n hx hb dX9_read_55 rfl (lv_at hl 0 rfl) ?_
          refine z_ci hW hS hA (va_runV (As := [.int y19]) (rest := []) ⟨hx, hb, hml, hown, hts⟩ (sx_X9_statement l G ad c I20 ⟨(by show 0 ≤ (I20 12 1).toInt ∧ (I20 12 1).toInt ≤ 500; exact lp18R.1), (by show 0 ≤ (I20 12 5).toInt ∧ (I20 12 5).toInt ≤ 501; exact lp18R.2.1), (by show (-1) ≤ (I20 12 6).toInt ∧ (I20 12 6).toInt ≤ 1000000; exact lp18R.2.2.1), (by show 0 ≤ (I20 12 9).toInt ∧ (I20 12 9).toInt ≤ 500; exact lp18R.2.2.2.1), (by show 0 ≤ (I20 12 13).toInt ∧ (I20 12 13).toInt ≤ 24; exact lp18R.2.2.2.2)⟩ (by show (I20 12 6).toInt ≤ 501 ∧ ((I20 12 7).toInt = 401 ∨ (I20 12 6).toInt ≤ 500); first | omega | decide) y19 _) (cwV 1 hts gX9_read_X9_statement rfl rfl rfl (by decide +kernel) ⟨Nat.le_of_ble_eq_true rfl, Nat.le_of_ble_eq_true rfl⟩) (z_preV (i := 12) hK hW rfl rfl) rfl rfl hl.1 rfl (lv_room (Nat.le_of_ble_eq_true rfl)) dX9_read_56 ⟨Nat.le_of_ble_eq_true rfl, Nat.le_of_ble_eq_true rfl⟩) (fun r u1 H locs hp hW hS => ?_)
          obtain ⟨I40, e9, hI40R, hI40T, fI40, hp⟩ := hp
          rw [e9] at hW
          have f41 := z_fr_sub (L := L_X9_read) lp18fr fI40 (by decide)
          have k42 : (I40 12 6).toInt ≤ 501 ∧ ((I40 12 7).toInt = 401 ∨ (I40 12 6).toInt ≤ 500) := hI40T
          rcases hp with rfl | rfl
          · refine lv_if_eq (tgt := 71) hx hb dX9_read_59 (by decide) (fun c43 => absurd c43 (by decide)) (fun c43 => ?_)
            refine lv_aload_n hx hb dX9_read_62 rfl (lv_at hl 1 rfl) ?_
            refine lv_bipush (v := 59) hx hb dX9_read_63 (by decide) ?_
            refine z_ci hW hS hA (va_runV (As := [.int 59]) (rest := []) ⟨hx, hb, hml, hown, hts⟩ (sx_X9_taken l G ad c I40 ⟨(by show 0 ≤ (I40 12 1).toInt ∧ (I40 12 1).toInt ≤ 500; exact hI40R.1), (by show 0 ≤ (I40 12 5).toInt ∧ (I40 12 5).toInt ≤ 501; exact hI40R.2.1), (by show (-1) ≤ (I40 12 6).toInt ∧ (I40 12 6).toInt ≤ 1000000; exact hI40R.2.2.1), (by show 0 ≤ (I40 12 9).toInt ∧ (I40 12 9).toInt ≤ 500; exact hI40R.2.2.2.1), (by show 0 ≤ (I40 12 13).toInt ∧ (I40 12 13).toInt ≤ 24; exact hI40R.2.2.2.2)⟩ (by show (I40 12 6).toInt ≤ 501 ∧ ((I40 12 7).toInt = 401 ∨ (I40 12 6).toInt ≤ 500); first | omega | decide) 59 (by first | omega | decide) _) (cwV 1 hts gX9_read_X9_taken rfl rfl rfl (by decide +kernel) ⟨Nat.le_of_ble_eq_true rfl, Nat.le_of_ble_eq_true rfl⟩) (z_preV (i := 12) hK hW rfl rfl) rfl rfl hl.1 rfl (lv_room (Nat.le_of_ble_eq_true rfl)) dX9_read_65 ⟨Nat.le_of_ble_eq_true rfl, Nat.le_of_ble_eq_true rfl⟩) (fun r u1 H locs hp hW hS => ?_)
            obtain ⟨I44, e9, hI44R, hI44T, fI44, hp⟩ := hp
            rw [e9] at hW
            have f45 := z_fr_sub (L := L_X9_read) f41 fI44 (by decide)
            have k46 : (I44 12 6).toInt ≤ 501 ∧ ((I44 12 7).toInt = 401 ∨ (I44 12 6).toInt ≤ 500) := hI44T
            rcases hp with rfl | rfl
            · refine lv_if_ne (tgt := 76) hx hb dX9_read_68 (by decide) (fun c47 => ?_) (fun c47 => absurd c47 (by decide))
              refine lv_aload_n hx hb dX9_read_76 rfl (lv_at hl 1 rfl) ?_
              refine lv_iload_n hx hb dX9_read_77 rfl (lv_at hl 0 rfl) ?_
              refine lv_iconst (v := 1) hx hb dX9_read_78 (by decide) ?_
              refine lv_iadd hx hb dX9_read_79 ?_
              refine lv_topi (fun x48 ex48 => ?_)
              have tx48 : x48.toInt = y19.toInt + 1 := z_tadd ex48 rfl z_l1 (by omega) (by omega)
              refine z_put (T := TX9) (N := 14) (ci := 9) (i := 12) (v := .int x48) (I1 := z_up I44 12 13 x48) (J1 := JX) (P1 := PC c ad) hx hb hts zj_X9_read_X9 tyX9 tyX9_ok nmX9 hown hK hW hS rfl rfl 13 (by decide) (hts (.fieldLink RX9 53 "PetrolBoard$Reader" "statements" "I") (List.mem_of_getElem? (i := 7) rfl)) (fun _ h => h) rfl rfl rfl (by first | rfl | exact congrArg _ z_up_s) (fun a b h ty => z_vI h ty) dX9_read_80 (fun H locs hz1 hW hS => ?_)
              obtain ⟨I49, eI49⟩ : ∃ K : z_I, K = z_up I44 12 13 x48 := ⟨_, rfl⟩
              rw [← eI49] at hW
              have f50 := z_fr_k f45 (show z_wr L_X9_read 12 13 = true by decide) eI49
              obtain ⟨x51, ex51⟩ : ∃ y : Int32, y = y19 + 1 := ⟨_, rfl⟩
              have tx51 : x51.toInt = y19.toInt + 1 := z_tadd ex51 rfl z_l1 (by omega) (by omega)
              refine lv_iinc (v := x51) (lv' := [(2, .int x51), (0, .ref (ad 12)), (1, .int a1)]) hx hb dX9_read_83 hl (k := 0) rfl (by rw [ex51]; rfl) (by decide) rfl (fun ls hl => ?_)
              refine lv_goto (tgt := 38) hx hb dX9_read_86 (by decide) ?_
              exact lp18ih x51 I49  _ _ _ (by omega) (by omega) ⟨(by show 0 ≤ (I49 12 1).toInt ∧ (I49 12 1).toInt ≤ 500; rw [eI49, z_up_k (by decide)]; exact hI44R.1), (by show 0 ≤ (I49 12 5).toInt ∧ (I49 12 5).toInt ≤ 501; rw [eI49, z_up_k (by decide)]; exact hI44R.2.1), (by show (-1) ≤ (I49 12 6).toInt ∧ (I49 12 6).toInt ≤ 1000000; rw [eI49, z_up_k (by decide)]; exact hI44R.2.2.1), (by show 0 ≤ (I49 12 9).toInt ∧ (I49 12 9).toInt ≤ 500; rw [eI49, z_up_k (by decide)]; exact hI44R.2.2.2.1), (by show 0 ≤ (I49 12 13).toInt ∧ (I49 12 13).toInt ≤ 24; rw [eI49, z_up_s]; omega)⟩ (by have q0 : (I49 12 6) = (I44 12 6) := (by rw [eI49, z_up_k (by decide)]); have q1 : (I49 12 7) = (I44 12 7) := (by rw [eI49, z_up_k (by decide)]); show (I49 12 6).toInt ≤ 501 ∧ ((I49 12 7).toInt = 401 ∨ (I49 12 6).toInt ≤ 500); rw [q0, q1]; first | omega | decide) f50 hW hS (lv_sub hl [0, 1, 2] rfl)
            · refine lv_if_ne (tgt := 76) hx hb dX9_read_68 (by decide) (fun c52 => absurd (by decide) c52) (fun c52 => ?_)
              refine lv_aload_n hx hb dX9_read_71 rfl (lv_at hl 1 rfl) ?_
              refine z_ci hW hS hA (va_runV (As := []) (rest := []) ⟨hx, hb, hml, hown, hts⟩ (sx_X9_place l G ad c I44 ⟨(by show 0 ≤ (I44 12 1).toInt ∧ (I44 12 1).toInt ≤ 500; exact hI44R.1), (by show 0 ≤ (I44 12 5).toInt ∧ (I44 12 5).toInt ≤ 501; exact hI44R.2.1), (by show (-1) ≤ (I44 12 6).toInt ∧ (I44 12 6).toInt ≤ 1000000; exact hI44R.2.2.1), (by show 0 ≤ (I44 12 9).toInt ∧ (I44 12 9).toInt ≤ 500; exact hI44R.2.2.2.1), (by show 0 ≤ (I44 12 13).toInt ∧ (I44 12 13).toInt ≤ 24; exact hI44R.2.2.2.2)⟩  _) (cwV 0 hts gX9_read_X9_place rfl rfl rfl (by decide +kernel) ⟨Nat.le_of_ble_eq_true rfl, Nat.le_of_ble_eq_true rfl⟩) (z_preV (i := 12) hK hW rfl rfl) rfl rfl hl.1 rfl (lv_room (Nat.le_of_ble_eq_true rfl)) dX9_read_72 ⟨Nat.le_of_ble_eq_true rfl, Nat.le_of_ble_eq_true rfl⟩) (fun r u1 H locs hp hW hS => ?_)
              rw [hp] at hW
              refine lv_topi (fun x53 ex53 => ?_)
              exact z_iret hx hb hr hK hS (Nat.le_of_ble_eq_true rfl) (Nat.le_of_ble_eq_true rfl) hlocks dX9_read_75 (shC c, ad, I44, JX, PC c ad) hW ⟨I44, rfl, ⟨(by show 0 ≤ (I44 12 1).toInt ∧ (I44 12 1).toInt ≤ 500; exact hI44R.1), (by show 0 ≤ (I44 12 5).toInt ∧ (I44 12 5).toInt ≤ 501; exact hI44R.2.1), (by show (-1) ≤ (I44 12 6).toInt ∧ (I44 12 6).toInt ≤ 1000000; exact hI44R.2.2.1), (by show 0 ≤ (I44 12 9).toInt ∧ (I44 12 9).toInt ≤ 500; exact hI44R.2.2.2.1), (by show 0 ≤ (I44 12 13).toInt ∧ (I44 12 13).toInt ≤ 24; exact hI44R.2.2.2.2)⟩, f45⟩
          · refine lv_if_eq (tgt := 71) hx hb dX9_read_59 (by decide) (fun c54 => ?_) (fun c54 => absurd (by decide) c54)
            refine lv_aload_n hx hb dX9_read_71 rfl (lv_at hl 1 rfl) ?_
            refine z_ci hW hS hA (va_runV (As := []) (rest := []) ⟨hx, hb, hml, hown, hts⟩ (sx_X9_place l G ad c I40 ⟨(by show 0 ≤ (I40 12 1).toInt ∧ (I40 12 1).toInt ≤ 500; exact hI40R.1), (by show 0 ≤ (I40 12 5).toInt ∧ (I40 12 5).toInt ≤ 501; exact hI40R.2.1), (by show (-1) ≤ (I40 12 6).toInt ∧ (I40 12 6).toInt ≤ 1000000; exact hI40R.2.2.1), (by show 0 ≤ (I40 12 9).toInt ∧ (I40 12 9).toInt ≤ 500; exact hI40R.2.2.2.1), (by show 0 ≤ (I40 12 13).toInt ∧ (I40 12 13).toInt ≤ 24; exact hI40R.2.2.2.2)⟩  _) (cwV 0 hts gX9_read_X9_place rfl rfl rfl (by decide +kernel) ⟨Nat.le_of_ble_eq_true rfl, Nat.le_of_ble_eq_true rfl⟩) (z_preV (i := 12) hK hW rfl rfl) rfl rfl hl.1 rfl (lv_room (Nat.le_of_ble_eq_true rfl)) dX9_read_72 ⟨Nat.le_of_ble_eq_true rfl, Nat.le_of_ble_eq_true rfl⟩) (fun r u1 H locs hp hW hS => ?_)
            rw [hp] at hW
            refine lv_topi (fun x55 ex55 => ?_)
            exact z_iret hx hb hr hK hS (Nat.le_of_ble_eq_true rfl) (Nat.le_of_ble_eq_true rfl) hlocks dX9_read_75 (shC c, ad, I40, JX, PC c ad) hW ⟨I40, rfl, ⟨(by show 0 ≤ (I40 12 1).toInt ∧ (I40 12 1).toInt ≤ 500; exact hI40R.1), (by show 0 ≤ (I40 12 5).toInt ∧ (I40 12 5).toInt ≤ 501; exact hI40R.2.1), (by show (-1) ≤ (I40 12 6).toInt ∧ (I40 12 6).toInt ≤ 1000000; exact hI40R.2.2.1), (by show 0 ≤ (I40 12 9).toInt ∧ (I40 12 9).toInt ≤ 500; exact hI40R.2.2.2.1), (by show 0 ≤ (I40 12 13).toInt ∧ (I40 12 13).toInt ≤ 24; exact hI40R.2.2.2.2)⟩, f41⟩
  exact lp18 4294967296 (0) I15  _ _ _ (z_m0u _) (by rw [z_l0]; omega) ⟨(by show 0 ≤ (I15 12 1).toInt ∧ (I15 12 1).toInt ≤ 500; exact hI15R.1), (by show 0 ≤ (I15 12 5).toInt ∧ (I15 12 5).toInt ≤ 501; exact hI15R.2.1), (by show (-1) ≤ (I15 12 6).toInt ∧ (I15 12 6).toInt ≤ 1000000; exact hI15R.2.2.1), (by show 0 ≤ (I15 12 9).toInt ∧ (I15 12 9).toInt ≤ 500; exact hI15R.2.2.2.1), (by show 0 ≤ (I15 12 13).toInt ∧ (I15 12 13).toInt ≤ 24; exact hI15R.2.2.2.2)⟩ (by show (I15 12 6).toInt ≤ 501 ∧ ((I15 12 7).toInt = 401 ∨ (I15 12 6).toInt ≤ 500); first | omega | decide) f16 hW hS (lv_sub hl [0, 1, 2] rfl)
