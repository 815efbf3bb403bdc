set_option maxHeartbeats 8000000 in
set_option maxRecDepth 100000 in
theorem sx_X11_pour_d_q (l : Launch) (G : z_G) (ad : Nat → Nat) (c : z_C) (I : z_I) (hP : z_iP I) (hO : z_iO I) (hH : z_iH I) (hB : z_iB I) (hC : z_iC I) (a1 : Int32) (a2 : Int32) (a3 : Int32) (hc : z_okc c) (h10 : c.1 ≤ 10) : z_MS l yX11_pour wsX11_pour { frames := 4, cells := 0, slots := 0, locals := 86 } [.ref (ad 0), .int a1, .int a2, .int a3] G (shC c, ad, I, JX, PC c ad) (fun r u1 => ∃ I1 : z_I, u1 = (shC c, ad, I1, JX, PC c ad) ∧ z_iP I1 ∧ z_iO I1 ∧ z_iH I1 ∧ z_iB I1 ∧ z_iC I1 ∧ z_fr L_X11_pour_d I1 I ∧ (((0 ≤ a1.toInt ∧ a1.toInt < (I 0 8).toInt ∧ 0 ≤ a2.toInt ∧ a2.toInt < (I 1 5).toInt ∧ 0 ≤ a3.toInt ∧ a3.toInt ≤ 99999 ∧ (I 30 8).toInt < 300) ∧ r.toInt = (I 30 8).toInt ∧ (I1 30 8).toInt = (I 30 8).toInt + 1 ∧ (∀ j, I1 32 j = if j = (I 30 8).toNatClampNeg then a2 else I 32 j) ∧ ∃ v : Int32, (v.toInt = 1 ↔ z_fx I a2 = 2) ∧ ∀ j, I1 37 j = if j = (I 30 8).toNatClampNeg then v else I 37 j) ∨ (¬ (0 ≤ a1.toInt ∧ a1.toInt < (I 0 8).toInt ∧ 0 ≤ a2.toInt ∧ a2.toInt < (I 1 5).toInt ∧ 0 ≤ a3.toInt ∧ a3.toInt ≤ 99999 ∧ (I 30 8).toInt < 300) ∧ r.toInt = -1 ∧ (I1 30 8).toInt = (I 30 8).toInt ∧ ∀ j, I1 32 j = I 32 j ∧ I1 37 j = I 37 j))) 0 0 := by
  intro sz
  refine z_headS (cc := cX11_pour) (maxL := 5) (ret := (some .int)) (by decide) rfl (Nat.le_of_ble_eq_true rfl) ?_
  intro p e s m below meth c0 ls hIn hK hsz hW hl hSt
  obtain ⟨hx, hb, hr, hml, hown, hts, hlocks, hname⟩ := hIn
  subst hsz
  have hown : s.vm.findClass RX11 = some m.cls := hown
  have hA : ∀ q : Nat, s.heap.size ≤ q → z_A (shC c, ad, I, JX, PC c ad) s.heap.size q := fun q h => Or.inr h
  generalize hAe : z_A (shC c, ad, I, JX, PC c ad) s.heap.size = A at *
  have hS : va_S A s.heap s.heap [] := va_S.rf
  have hl : lv_has ls 5 [(0, .ref (ad 0)), (1, .int a1), (2, .int a2), (3, .int a3)] := hl
  refine lv_aload_n hx hb dX11_pour_0 rfl (lv_at hl 0 rfl) ?_
  refine lv_iload_n hx hb dX11_pour_1 rfl (lv_at hl 1 rfl) ?_
  refine z_ci hW hS hA (va_runV (As := [.int a1]) (rest := []) ⟨hx, hb, hml, hown, hts⟩ (sx_X11_hasStation_e l G ad c I ⟨(by show 0 ≤ (I 0 0).toInt ∧ (I 0 0).toInt ≤ 719; exact hB.1), (by show 0 ≤ (I 0 8).toInt ∧ (I 0 8).toInt ≤ 10; exact hB.2)⟩ a1 hc h10 _) (cwV 1 hts gX11_pour_X11_hasStation rfl rfl rfl (by decide +kernel) ⟨Nat.le_of_ble_eq_true rfl, Nat.le_of_ble_eq_true rfl⟩) (z_preV (i := 0) hK hW rfl rfl) rfl rfl hl.1 rfl (lv_room (Nat.le_of_ble_eq_true rfl)) dX11_pour_2 ⟨Nat.le_of_ble_eq_true rfl, Nat.le_of_ble_eq_true rfl⟩) (fun r u1 H locs hp hW hS => ?_)
  obtain ⟨e9, hp⟩ := hp
  rw [e9] at hW
  rcases hp with ⟨rfl, h1⟩ | ⟨rfl, h1⟩
  · have h2 := h1
    have r3 : 0 ≤ (I 0 8).toInt ∧ (I 0 8).toInt ≤ 10 := hB.2
    refine lv_if_eq (tgt := 29) hx hb dX11_pour_5 (by decide) (fun c4 => absurd c4 (by decide)) (fun c4 => ?_)
    refine lv_aload_n hx hb dX11_pour_8 rfl (lv_at hl 0 rfl) ?_
    refine z_get (T := TX11) (N := 13) (ci := 11) (i := 0) (v := .ref (ad 1)) hx hb hts zj_X11_pour_X11 hown hK hW rfl rfl 2 (by decide) (hts (.fieldLink RX11 16 "PetrolBoard" "holders" "LPetrolBoard$Holders;") (me_s (me_l (me_l (me_l (me_l (me_l (me_l (me_l (List.mem_of_getElem? (i := 0) rfl)))))))))) (fun _ h => h) rfl dX11_pour_9 ?_
    refine lv_iload_n hx hb dX11_pour_12 rfl (lv_at hl 2 rfl) ?_
    refine z_ci hW hS hA (va_runV (As := [.int a2]) (rest := []) ⟨hx, hb, hml, hown, hts⟩ (sx_X2_has_e l G ad c I ⟨(by show 0 ≤ (I 1 5).toInt ∧ (I 1 5).toInt ≤ 30; exact hH.1), (by show 0 ≤ (I 1 11).toInt ∧ (I 1 11).toInt ≤ 200; exact hH.2)⟩ a2 _) (cwV 1 hts gX11_pour_X2_has rfl rfl rfl (by decide +kernel) ⟨Nat.le_of_ble_eq_true rfl, Nat.le_of_ble_eq_true rfl⟩) (z_preV (i := 1) hK hW rfl rfl) rfl rfl hl.1 rfl (lv_room (Nat.le_of_ble_eq_true rfl)) dX11_pour_13 ⟨Nat.le_of_ble_eq_true rfl, Nat.le_of_ble_eq_true rfl⟩) (fun r u1 H locs hp hW hS => ?_)
    obtain ⟨e9, hp⟩ := hp
    rw [e9] at hW
    rcases hp with ⟨rfl, h5⟩ | ⟨rfl, h5⟩
    · have h6 := h5
      have r7 : 0 ≤ (I 1 5).toInt ∧ (I 1 5).toInt ≤ 30 := hH.1
      refine lv_if_eq (tgt := 29) hx hb dX11_pour_16 (by decide) (fun c8 => absurd c8 (by decide)) (fun c8 => ?_)
      refine lv_iload_n hx hb dX11_pour_19 rfl (lv_at hl 3 rfl) ?_
      refine lv_iconst (v := 0) hx hb dX11_pour_20 (by decide) ?_
      refine lv_ldc (v := 99999) hx hb hown (hts (.constant RX11 185 (99999)) (me_s (me_l (me_l (me_l (me_l (me_l (me_l (me_l (List.mem_of_getElem? (i := 1) rfl)))))))))) dX11_pour_21 ?_
      refine z_ci hW hS hA (va_runS (As := [.int a3, .int 0, .int 99999]) (rest := []) ⟨hx, hb, hml, hown, hts⟩ (sx_X11_within_e l G ad c I  a3 0 99999 _) (va_cwS 3 hts gX11_pour_X11_within rfl rfl rfl (by decide +kernel) ⟨Nat.le_of_ble_eq_true rfl, Nat.le_of_ble_eq_true rfl⟩) (z_preS hK hW) rfl rfl hl.1 rfl (lv_room (Nat.le_of_ble_eq_true rfl)) dX11_pour_23 ⟨Nat.le_of_ble_eq_true rfl, Nat.le_of_ble_eq_true rfl⟩) (fun r u1 H locs hp hW hS => ?_)
      obtain ⟨e9, hp⟩ := hp
      rw [e9] at hW
      rcases hp with ⟨rfl, h9⟩ | ⟨rfl, h9⟩
      · have h11 := h9
        have z12 := z_l0
        have z13 := z_l99999
        refine lv_if_ne (tgt := 31) hx hb dX11_pour_26 (by decide) (fun c14 => ?_) (fun c14 => absurd c14 (by decide))
        refine lv_aload_n hx hb dX11_pour_31 rfl (lv_at hl 0 rfl) ?_
        refine z_get (T := TX11) (N := 13) (ci := 11) (i := 0) (v := .ref (ad 30)) hx hb hts zj_X11_pour_X11 hown hK hW rfl rfl 6 (by decide) (hts (.fieldLink RX11 44 "PetrolBoard" "pours" "LPetrolBoard$Pours;") (me_s (me_l (me_l (me_l (me_l (me_l (me_l (me_l (List.mem_of_getElem? (i := 2) rfl)))))))))) (fun _ h => h) rfl dX11_pour_32 ?_
        refine lv_iload_n hx hb dX11_pour_35 rfl (lv_at hl 1 rfl) ?_
        refine lv_iload_n hx hb dX11_pour_36 rfl (lv_at hl 2 rfl) ?_
        refine lv_iload_n hx hb dX11_pour_37 rfl (lv_at hl 3 rfl) ?_
        refine lv_aload_n hx hb dX11_pour_38 rfl (lv_at hl 0 rfl) ?_
        have r15 : 0 ≤ (I 0 0).toInt ∧ (I 0 0).toInt ≤ 719 := hB.1
        refine z_get (T := TX11) (N := 13) (ci := 11) (i := 0) (v := .int (I 0 0)) hx hb hts zj_X11_pour_X11 hown hK hW rfl rfl 0 (by decide) (hts (.fieldLink RX11 85 "PetrolBoard" "today" "I") (me_s (me_l (me_l (me_l (me_l (me_l (me_l (me_l (List.mem_of_getElem? (i := 3) rfl)))))))))) (fun _ h => h) rfl dX11_pour_39 ?_
        refine z_ci hW hS hA (va_runV (As := [.int a1, .int a2, .int a3, .int (I 0 0)]) (rest := []) ⟨hx, hb, hml, hown, hts⟩ (sx_X8_add_d l G ad c I (by show 0 ≤ (I 30 8).toInt ∧ (I 30 8).toInt ≤ 300; exact hP) a1 a2 a3 (I 0 0) _) (cwV 4 hts gX11_pour_X8_add rfl rfl rfl (by decide +kernel) ⟨Nat.le_of_ble_eq_true rfl, Nat.le_of_ble_eq_true rfl⟩) (z_preV (i := 30) hK hW rfl rfl) rfl rfl hl.1 rfl (lv_room (Nat.le_of_ble_eq_true rfl)) dX11_pour_42 ⟨Nat.le_of_ble_eq_true rfl, Nat.le_of_ble_eq_true rfl⟩) (fun r u1 H locs hp hW hS => ?_)
        obtain ⟨I16, e9, hI16P, fI16, hp⟩ := hp
        rw [e9] at hW
        have f17 := z_fr_sub (L := L_X11_pour_d) z_fr_0 fI16 (by decide)
        have k18 : 0 ≤ (I16 21 2).toInt ∧ (I16 21 2).toInt ≤ 12 := by rw [fI16 21 2 (by decide)]; exact (by show 0 ≤ (I 21 2).toInt ∧ (I 21 2).toInt ≤ 12; exact hO)
        have k19 : 0 ≤ (I16 1 5).toInt ∧ (I16 1 5).toInt ≤ 30 := by rw [fI16 1 5 (by decide)]; exact (by show 0 ≤ (I 1 5).toInt ∧ (I 1 5).toInt ≤ 30; exact hH.1)
        have k20 : 0 ≤ (I16 1 11).toInt ∧ (I16 1 11).toInt ≤ 200 := by rw [fI16 1 11 (by decide)]; exact (by show 0 ≤ (I 1 11).toInt ∧ (I 1 11).toInt ≤ 200; exact hH.2)
        have k21 : 0 ≤ (I16 0 0).toInt ∧ (I16 0 0).toInt ≤ 719 := by rw [fI16 0 0 (by decide)]; exact (by show 0 ≤ (I 0 0).toInt ∧ (I 0 0).toInt ≤ 719; exact hB.1)
        have k22 : 0 ≤ (I16 0 8).toInt ∧ (I16 0 8).toInt ≤ 10 := by rw [fI16 0 8 (by decide)]; exact (by show 0 ≤ (I 0 8).toInt ∧ (I 0 8).toInt ≤ 10; exact hB.2)
        have k23 : 0 ≤ (I16 26 4).toInt ∧ (I16 26 4).toInt ≤ 512 := by rw [fI16 26 4 (by decide)]; exact (by show 0 ≤ (I 26 4).toInt ∧ (I 26 4).toInt ≤ 512; exact hC)
        refine lv_topi (fun x24 ex24 => ?_)
        rw [← ex24] at hp
        rcases hp with ⟨h25, h26, h27, h28⟩ | ⟨h25, h26, h27, h28⟩
        · refine lv_istore (lv' := [(4, .int x24), (0, .ref (ad 0)), (1, .int a1), (2, .int a2), (3, .int a3)]) hx hb dX11_pour_45 hl (by decide) rfl (fun ls hl => ?_)
          refine lv_aload_n hx hb dX11_pour_47 rfl (lv_at hl 1 rfl) ?_
          refine z_get (T := TX11) (N := 13) (ci := 11) (i := 0) (v := .ref (ad 30)) hx hb hts zj_X11_pour_X11 hown hK hW rfl rfl 6 (by decide) (hts (.fieldLink RX11 44 "PetrolBoard" "pours" "LPetrolBoard$Pours;") (me_s (me_l (me_l (me_l (me_l (me_l (me_l (me_l (List.mem_of_getElem? (i := 2) rfl)))))))))) (fun _ h => h) rfl dX11_pour_48 ?_
          refine lv_iload hx hb dX11_pour_51 (lv_at hl 0 rfl) ?_
          refine z_ci hW hS hA (va_runV (As := [.int x24]) (rest := []) ⟨hx, hb, hml, hown, hts⟩ (sx_X8_has_d l G ad c I16 (by show 0 ≤ (I16 30 8).toInt ∧ (I16 30 8).toInt ≤ 300; exact hI16P) x24 _) (cwV 1 hts gX11_pour_X8_has rfl rfl rfl (by decide +kernel) ⟨Nat.le_of_ble_eq_true rfl, Nat.le_of_ble_eq_true rfl⟩) (z_preV (i := 30) hK hW rfl rfl) rfl rfl hl.1 rfl (lv_room (Nat.le_of_ble_eq_true rfl)) dX11_pour_53 ⟨Nat.le_of_ble_eq_true rfl, Nat.le_of_ble_eq_true rfl⟩) (fun r u1 H locs hp hW hS => ?_)
          obtain ⟨e9, hp⟩ := hp
          rw [e9] at hW
          rcases hp with ⟨rfl, h29⟩ | ⟨rfl, h29⟩
          · have h30 := h29
            have r31 : 0 ≤ (I16 30 8).toInt ∧ (I16 30 8).toInt ≤ 300 := hI16P
            refine lv_if_eq (tgt := 129) hx hb dX11_pour_56 (by decide) (fun c32 => absurd c32 (by decide)) (fun c32 => ?_)
            refine lv_aload_n hx hb dX11_pour_59 rfl (lv_at hl 1 rfl) ?_
            refine z_get (T := TX11) (N := 13) (ci := 11) (i := 0) (v := .ref (ad 30)) hx hb hts zj_X11_pour_X11 hown hK hW rfl rfl 6 (by decide) (hts (.fieldLink RX11 44 "PetrolBoard" "pours" "LPetrolBoard$Pours;") (me_s (me_l (me_l (me_l (me_l (me_l (me_l (me_l (List.mem_of_getElem? (i := 2) rfl)))))))))) (fun _ h => h) rfl dX11_pour_60 ?_
            refine z_get (T := TX8) (N := 9) (ci := 8) (i := 30) (v := .ref (ad 35)) hx hb hts zj_X11_pour_X8 hown hK hW rfl rfl 4 (by decide) (hts (.fieldLink RX11 189 "PetrolBoard$Pours" "tenths" "[I") (me_s (me_l (me_l (me_l (me_l (me_l (me_l (me_l (List.mem_of_getElem? (i := 4) rfl)))))))))) (fun _ h => h) rfl dX11_pour_63 ?_
            refine lv_iload hx hb dX11_pour_66 (lv_at hl 0 rfl) ?_
            refine lv_aload_n hx hb dX11_pour_68 rfl (lv_at hl 1 rfl) ?_
            refine z_get (T := TX11) (N := 13) (ci := 11) (i := 0) (v := .ref (ad 21)) hx hb hts zj_X11_pour_X11 hown hK hW rfl rfl 4 (by decide) (hts (.fieldLink RX11 30 "PetrolBoard" "orderBook" "LPetrolBoard$OrderBook;") (me_s (me_l (me_l (me_l (me_l (me_l (me_l (me_l (List.mem_of_getElem? (i := 5) rfl)))))))))) (fun _ h => h) rfl dX11_pour_69 ?_
            refine lv_iconst (v := 0) hx hb dX11_pour_72 (by decide) ?_
            refine lv_aload_n hx hb dX11_pour_73 rfl (lv_at hl 1 rfl) ?_
            have r33 : 0 ≤ (I16 0 0).toInt ∧ (I16 0 0).toInt ≤ 719 := k21
            refine z_get (T := TX11) (N := 13) (ci := 11) (i := 0) (v := .int (I16 0 0)) hx hb hts zj_X11_pour_X11 hown hK hW rfl rfl 0 (by decide) (hts (.fieldLink RX11 85 "PetrolBoard" "today" "I") (me_s (me_l (me_l (me_l (me_l (me_l (me_l (me_l (List.mem_of_getElem? (i := 3) rfl)))))))))) (fun _ h => h) rfl dX11_pour_74 ?_
            refine lv_bipush (v := 30) hx hb dX11_pour_77 (by decide) ?_
            refine lv_idiv hx hb dX11_pour_79 (by decide) ?_
            refine lv_topi (fun x34 ex34 => ?_)
            have tx34 := z_tdiv ex34 rfl z_l30 (by decide)
            refine lv_aload_n hx hb dX11_pour_80 rfl (lv_at hl 1 rfl) ?_
            refine z_get (T := TX11) (N := 13) (ci := 11) (i := 0) (v := .int (I16 0 0)) hx hb hts zj_X11_pour_X11 hown hK hW rfl rfl 0 (by decide) (hts (.fieldLink RX11 85 "PetrolBoard" "today" "I") (me_s (me_l (me_l (me_l (me_l (me_l (me_l (me_l (List.mem_of_getElem? (i := 3) rfl)))))))))) (fun _ h => h) rfl dX11_pour_81 ?_
            refine z_ci hW hS hA (va_runV (As := [.int 0, .int x34, .int (I16 0 0)]) (rest := [.int x24, .ref (ad 35)]) ⟨hx, hb, hml, hown, hts⟩ (sx_X6_amount l G ad c I16 (by show 0 ≤ (I16 21 2).toInt ∧ (I16 21 2).toInt ≤ 12; exact k18) 0 x34 (I16 0 0) hc _) (cwV 3 hts gX11_pour_X6_amount rfl rfl rfl (by decide +kernel) ⟨Nat.le_of_ble_eq_true rfl, Nat.le_of_ble_eq_true rfl⟩) (z_preVS (i := 21) hK hW hS hA hSt rfl rfl) rfl rfl hl.1 rfl (lv_room (Nat.le_of_ble_eq_true rfl)) dX11_pour_84 ⟨Nat.le_of_ble_eq_true rfl, Nat.le_of_ble_eq_true rfl⟩) (fun r u1 H locs hp hW hS => ?_)
            rw [hp] at hW
            refine lv_topi (fun x35 ex35 => ?_)
            refine z_iast (i := 35) hx hb hK hW hS rfl (z_ix rfl (by omega) (by omega)) dX11_pour_87 (fun H locs hz1 hW hS => ?_)
            obtain ⟨I36, eI36⟩ : ∃ K : z_I, K = z_up I16 35 x24.toNatClampNeg x35 := ⟨_, rfl⟩
            rw [← eI36] at hW
            have f37 := z_fr_a f17 (show z_wa L_X11_pour_d 35 = true by decide) eI36
            refine lv_aload_n hx hb dX11_pour_88 rfl (lv_at hl 1 rfl) ?_
            refine z_get (T := TX11) (N := 13) (ci := 11) (i := 0) (v := .ref (ad 30)) hx hb hts zj_X11_pour_X11 hown hK hW rfl rfl 6 (by decide) (hts (.fieldLink RX11 44 "PetrolBoard" "pours" "LPetrolBoard$Pours;") (me_s (me_l (me_l (me_l (me_l (me_l (me_l (me_l (List.mem_of_getElem? (i := 2) rfl)))))))))) (fun _ h => h) rfl dX11_pour_89 ?_
            refine z_get (T := TX8) (N := 9) (ci := 8) (i := 30) (v := .ref (ad 37)) hx hb hts zj_X11_pour_X8 hown hK hW rfl rfl 6 (by decide) (hts (.fieldLink RX11 192 "PetrolBoard$Pours" "dyed" "[I") (me_s (me_l (me_l (me_l (me_l (me_l (me_l (me_l (List.mem_of_getElem? (i := 6) rfl)))))))))) (fun _ h => h) rfl dX11_pour_92 ?_
            refine lv_iload hx hb dX11_pour_95 (lv_at hl 0 rfl) ?_
            refine lv_aload_n hx hb dX11_pour_97 rfl (lv_at hl 1 rfl) ?_
            refine lv_iload_n hx hb dX11_pour_98 rfl (lv_at hl 3 rfl) ?_
            refine z_ci hW hS hA (va_runV (As := [.int a2]) (rest := [.int x24, .ref (ad 37)]) ⟨hx, hb, hml, hown, hts⟩ (sx_X11_isFarmerNow_d l G ad c I36 ⟨(by show 0 ≤ (I36 1 5).toInt ∧ (I36 1 5).toInt ≤ 30; rw [eI36, z_up_n (by decide)]; exact k19), (by show 0 ≤ (I36 1 11).toInt ∧ (I36 1 11).toInt ≤ 200; rw [eI36, z_up_n (by decide)]; exact k20)⟩ ⟨(by show 0 ≤ (I36 0 0).toInt ∧ (I36 0 0).toInt ≤ 719; rw [eI36, z_up_n (by decide)]; exact k21), (by show 0 ≤ (I36 0 8).toInt ∧ (I36 0 8).toInt ≤ 10; rw [eI36, z_up_n (by decide)]; exact k22)⟩ a2 hc h10 _) (cwV 1 hts gX11_pour_X11_isFarmerNow rfl rfl rfl (by decide +kernel) ⟨Nat.le_of_ble_eq_true rfl, Nat.le_of_ble_eq_true rfl⟩) (z_preV (i := 0) hK hW rfl rfl) rfl rfl hl.1 rfl (lv_room (Nat.le_of_ble_eq_true rfl)) dX11_pour_99 ⟨Nat.le_of_ble_eq_true rfl, Nat.le_of_ble_eq_true rfl⟩) (fun r u1 H locs hp hW hS => ?_)
            obtain ⟨e9, hp⟩ := hp
            rw [e9] at hW
            rcases hp with ⟨rfl, h38⟩ | ⟨rfl, h38⟩
            · refine lv_if_eq (tgt := 109) hx hb dX11_pour_102 (by decide) (fun c39 => absurd c39 (by decide)) (fun c39 => ?_)
              refine lv_iconst (v := 1) hx hb dX11_pour_105 (by decide) ?_
              refine lv_goto (tgt := 110) hx hb dX11_pour_106 (by decide) ?_
              refine z_iast (i := 37) hx hb hK hW hS rfl (z_ix rfl (by omega) (by omega)) dX11_pour_110 (fun H locs hz1 hW hS => ?_)
              obtain ⟨I40, eI40⟩ : ∃ K : z_I, K = z_up I36 37 x24.toNatClampNeg 1 := ⟨_, rfl⟩
              rw [← eI40] at hW
              have f41 := z_fr_a f37 (show z_wa L_X11_pour_d 37 = true by decide) eI40
              refine lv_aload_n hx hb dX11_pour_111 rfl (lv_at hl 1 rfl) ?_
              refine z_get (T := TX11) (N := 13) (ci := 11) (i := 0) (v := .ref (ad 30)) hx hb hts zj_X11_pour_X11 hown hK hW rfl rfl 6 (by decide) (hts (.fieldLink RX11 44 "PetrolBoard" "pours" "LPetrolBoard$Pours;") (me_s (me_l (me_l (me_l (me_l (me_l (me_l (me_l (List.mem_of_getElem? (i := 2) rfl)))))))))) (fun _ h => h) rfl dX11_pour_112 ?_
              refine z_get (T := TX8) (N := 9) (ci := 8) (i := 30) (v := .ref (ad 38)) hx hb hts zj_X11_pour_X8 hown hK hW rfl rfl 7 (by decide) (hts (.fieldLink RX11 198 "PetrolBoard$Pours" "ownerThen" "[I") (me_s (me_l (me_l (me_l (me_l (me_l (me_l (me_l (List.mem_of_getElem? (i := 7) rfl)))))))))) (fun _ h => h) rfl dX11_pour_115 ?_
              refine lv_iload hx hb dX11_pour_118 (lv_at hl 0 rfl) ?_
              refine lv_aload_n hx hb dX11_pour_120 rfl (lv_at hl 1 rfl) ?_
              refine z_get (T := TX11) (N := 13) (ci := 11) (i := 0) (v := .ref (ad 26)) hx hb hts zj_X11_pour_X11 hown hK hW rfl rfl 5 (by decide) (hts (.fieldLink RX11 37 "PetrolBoard" "coupons" "LPetrolBoard$Coupons;") (me_s (me_l (me_l (me_l (me_l (me_l (me_l (me_l (List.mem_of_getElem? (i := 8) rfl)))))))))) (fun _ h => h) rfl dX11_pour_121 ?_
              refine lv_iload_n hx hb dX11_pour_124 rfl (lv_at hl 4 rfl) ?_
              refine z_ci hW hS hA (va_runV (As := [.int a3]) (rest := [.int x24, .ref (ad 38)]) ⟨hx, hb, hml, hown, hts⟩ (sx_X0_ownerOf l G ad c I40 (by show 0 ≤ (I40 26 4).toInt ∧ (I40 26 4).toInt ≤ 512; rw [eI40, z_up_n (by decide), eI36, z_up_n (by decide)]; exact k23) a3 _) (cwV 1 hts gX11_pour_X0_ownerOf rfl rfl rfl (by decide +kernel) ⟨Nat.le_of_ble_eq_true rfl, Nat.le_of_ble_eq_true rfl⟩) (z_preV (i := 26) hK hW rfl rfl) rfl rfl hl.1 rfl (lv_room (Nat.le_of_ble_eq_true rfl)) dX11_pour_125 ⟨Nat.le_of_ble_eq_true rfl, Nat.le_of_ble_eq_true rfl⟩) (fun r u1 H locs hp hW hS => ?_)
              rw [hp] at hW
              refine lv_topi (fun x42 ex42 => ?_)
              refine z_iast (i := 38) hx hb hK hW hS rfl (z_ix rfl (by omega) (by omega)) dX11_pour_128 (fun H locs hz1 hW hS => ?_)
              obtain ⟨I43, eI43⟩ : ∃ K : z_I, K = z_up I40 38 x24.toNatClampNeg x42 := ⟨_, rfl⟩
              rw [← eI43] at hW
              have f44 := z_fr_a f41 (show z_wa L_X11_pour_d 38 = true by decide) eI43
              refine lv_iload hx hb dX11_pour_129 (lv_at hl 0 rfl) ?_
              exact z_iret hx hb hr hK hS (Nat.le_of_ble_eq_true rfl) (Nat.le_of_ble_eq_true rfl) hlocks dX11_pour_131 (shC c, ad, I43, JX, PC c ad) hW ⟨I43, rfl, (by show 0 ≤ (I43 30 8).toInt ∧ (I43 30 8).toInt ≤ 300; rw [eI43, z_up_n (by decide), eI40, z_up_n (by decide), eI36, z_up_n (by decide)]; exact hI16P), (by show 0 ≤ (I43 21 2).toInt ∧ (I43 21 2).toInt ≤ 12; rw [eI43, z_up_n (by decide), eI40, z_up_n (by decide), eI36, z_up_n (by decide)]; exact k18), ⟨(by show 0 ≤ (I43 1 5).toInt ∧ (I43 1 5).toInt ≤ 30; rw [eI43, z_up_n (by decide), eI40, z_up_n (by decide), eI36, z_up_n (by decide)]; exact k19), (by show 0 ≤ (I43 1 11).toInt ∧ (I43 1 11).toInt ≤ 200; rw [eI43, z_up_n (by decide), eI40, z_up_n (by decide), eI36, z_up_n (by decide)]; exact k20)⟩, ⟨(by show 0 ≤ (I43 0 0).toInt ∧ (I43 0 0).toInt ≤ 719; rw [eI43, z_up_n (by decide), eI40, z_up_n (by decide), eI36, z_up_n (by decide)]; exact k21), (by show 0 ≤ (I43 0 8).toInt ∧ (I43 0 8).toInt ≤ 10; rw [eI43, z_up_n (by decide), eI40, z_up_n (by decide), eI36, z_up_n (by decide)]; exact k22)⟩, (by show 0 ≤ (I43 26 4).toInt ∧ (I43 26 4).toInt ≤ 512; rw [eI43, z_up_n (by decide), eI40, z_up_n (by decide), eI36, z_up_n (by decide)]; exact k23), f44, (Or.inl ⟨by omega, by omega, (by have q9 : (I43 30 8) = (I16 30 8) := (by rw [eI43, z_up_n (by decide), eI40, z_up_n (by decide), eI36, z_up_n (by decide)]); show (I43 30 8).toInt = (I 30 8).toInt + 1; rw [q9]; first | done | omega), (fun j => by rw [eI43, z_up_n (by decide), eI40, z_up_n (by decide), eI36, z_up_n (by decide), h28 j]), 1, ⟨fun _ => (z_fx_c (a := a2) (fun j => ⟨f37 7 j (z_wr_c (by decide)), f37 8 j (z_wr_c (by decide)), f37 9 j (z_wr_c (by decide)), f37 10 j (z_wr_c (by decide)), f37 11 j (z_wr_c (by decide))⟩) (f37 0 0 (by decide)) (f37 1 11 (by decide))).symm.trans h38, fun _ => by decide⟩, (fun j => by rw [eI43, z_up_n (by decide), eI40, z_up_j, eI36, z_up_n (by decide), fI16 37 j (z_wr_c (by decide)), (show x24.toNatClampNeg = (I 30 8).toNatClampNeg from by show x24.toInt.toNat = (I 30 8).toInt.toNat; omega)])⟩)⟩
            · refine lv_if_eq (tgt := 109) hx hb dX11_pour_102 (by decide) (fun c45 => ?_) (fun c45 => absurd (by decide) c45)
              refine lv_iconst (v := 0) hx hb dX11_pour_109 (by decide) ?_
              refine z_iast (i := 37) hx hb hK hW hS rfl (z_ix rfl (by omega) (by omega)) dX11_pour_110 (fun H locs hz1 hW hS => ?_)
              obtain ⟨I46, eI46⟩ : ∃ K : z_I, K = z_up I36 37 x24.toNatClampNeg 0 := ⟨_, rfl⟩
              rw [← eI46] at hW
              have f47 := z_fr_a f37 (show z_wa L_X11_pour_d 37 = true by decide) eI46
              refine lv_aload_n hx hb dX11_pour_111 rfl (lv_at hl 1 rfl) ?_
              refine z_get (T := TX11) (N := 13) (ci := 11) (i := 0) (v := .ref (ad 30)) hx hb hts zj_X11_pour_X11 hown hK hW rfl rfl 6 (by decide) (hts (.fieldLink RX11 44 "PetrolBoard" "pours" "LPetrolBoard$Pours;") (me_s (me_l (me_l (me_l (me_l (me_l (me_l (me_l (List.mem_of_getElem? (i := 2) rfl)))))))))) (fun _ h => h) rfl dX11_pour_112 ?_
              refine z_get (T := TX8) (N := 9) (ci := 8) (i := 30) (v := .ref (ad 38)) hx hb hts zj_X11_pour_X8 hown hK hW rfl rfl 7 (by decide) (hts (.fieldLink RX11 198 "PetrolBoard$Pours" "ownerThen" "[I") (me_s (me_l (me_l (me_l (me_l (me_l (me_l (me_l (List.mem_of_getElem? (i := 7) rfl)))))))))) (fun _ h => h) rfl dX11_pour_115 ?_
              refine lv_iload hx hb dX11_pour_118 (lv_at hl 0 rfl) ?_
              refine lv_aload_n hx hb dX11_pour_120 rfl (lv_at hl 1 rfl) ?_
              refine z_get (T := TX11) (N := 13) (ci := 11) (i := 0) (v := .ref (ad 26)) hx hb hts zj_X11_pour_X11 hown hK hW rfl rfl 5 (by decide) (hts (.fieldLink RX11 37 "PetrolBoard" "coupons" "LPetrolBoard$Coupons;") (me_s (me_l (me_l (me_l (me_l (me_l (me_l (me_l (List.mem_of_getElem? (i := 8) rfl)))))))))) (fun _ h => h) rfl dX11_pour_121 ?_
              refine lv_iload_n hx hb dX11_pour_124 rfl (lv_at hl 4 rfl) ?_
              refine z_ci hW hS hA (va_runV (As := [.int a3]) (rest := [.int x24, .ref (ad 38)]) ⟨hx, hb, hml, hown, hts⟩ (sx_X0_ownerOf l G ad c I46 (by show 0 ≤ (I46 26 4).toInt ∧ (I46 26 4).toInt ≤ 512; rw [eI46, z_up_n (by decide), eI36, z_up_n (by decide)]; exact k23) a3 _) (cwV 1 hts gX11_pour_X0_ownerOf rfl rfl rfl (by decide +kernel) ⟨Nat.le_of_ble_eq_true rfl, Nat.le_of_ble_eq_true rfl⟩) (z_preV (i := 26) hK hW rfl rfl) rfl rfl hl.1 rfl (lv_room (Nat.le_of_ble_eq_true rfl)) dX11_pour_125 ⟨Nat.le_of_ble_eq_true rfl, Nat.le_of_ble_eq_true rfl⟩) (fun r u1 H locs hp hW hS => ?_)
              rw [hp] at hW
              refine lv_topi (fun x48 ex48 => ?_)
              refine z_iast (i := 38) hx hb hK hW hS rfl (z_ix rfl (by omega) (by omega)) dX11_pour_128 (fun H locs hz1 hW hS => ?_)
              obtain ⟨I49, eI49⟩ : ∃ K : z_I, K = z_up I46 38 x24.toNatClampNeg x48 := ⟨_, rfl⟩
              rw [← eI49] at hW
              have f50 := z_fr_a f47 (show z_wa L_X11_pour_d 38 = true by decide) eI49
              refine lv_iload hx hb dX11_pour_129 (lv_at hl 0 rfl) ?_
              exact z_iret hx hb hr hK hS (Nat.le_of_ble_eq_true rfl) (Nat.le_of_ble_eq_true rfl) hlocks dX11_pour_131 (shC c, ad, I49, JX, PC c ad) hW ⟨I49, rfl, (by show 0 ≤ (I49 30 8).toInt ∧ (I49 30 8).toInt ≤ 300; rw [eI49, z_up_n (by decide), eI46, z_up_n (by decide), eI36, z_up_n (by decide)]; exact hI16P), (by show 0 ≤ (I49 21 2).toInt ∧ (I49 21 2).toInt ≤ 12; rw [eI49, z_up_n (by decide), eI46, z_up_n (by decide), eI36, z_up_n (by decide)]; exact k18), ⟨(by show 0 ≤ (I49 1 5).toInt ∧ (I49 1 5).toInt ≤ 30; rw [eI49, z_up_n (by decide), eI46, z_up_n (by decide), eI36, z_up_n (by decide)]; exact k19), (by show 0 ≤ (I49 1 11).toInt ∧ (I49 1 11).toInt ≤ 200; rw [eI49, z_up_n (by decide), eI46, z_up_n (by decide), eI36, z_up_n (by decide)]; exact k20)⟩, ⟨(by show 0 ≤ (I49 0 0).toInt ∧ (I49 0 0).toInt ≤ 719; rw [eI49, z_up_n (by decide), eI46, z_up_n (by decide), eI36, z_up_n (by decide)]; exact k21), (by show 0 ≤ (I49 0 8).toInt ∧ (I49 0 8).toInt ≤ 10; rw [eI49, z_up_n (by decide), eI46, z_up_n (by decide), eI36, z_up_n (by decide)]; exact k22)⟩, (by show 0 ≤ (I49 26 4).toInt ∧ (I49 26 4).toInt ≤ 512; rw [eI49, z_up_n (by decide), eI46, z_up_n (by decide), eI36, z_up_n (by decide)]; exact k23), f50, (Or.inl ⟨by omega, by omega, (by have q9 : (I49 30 8) = (I16 30 8) := (by rw [eI49, z_up_n (by decide), eI46, z_up_n (by decide), eI36, z_up_n (by decide)]); show (I49 30 8).toInt = (I 30 8).toInt + 1; rw [q9]; first | done | omega), (fun j => by rw [eI49, z_up_n (by decide), eI46, z_up_n (by decide), eI36, z_up_n (by decide), h28 j]), 0, ⟨fun q => absurd q (by decide), fun q => absurd ((z_fx_c (a := a2) (fun j => ⟨f37 7 j (z_wr_c (by decide)), f37 8 j (z_wr_c (by decide)), f37 9 j (z_wr_c (by decide)), f37 10 j (z_wr_c (by decide)), f37 11 j (z_wr_c (by decide))⟩) (f37 0 0 (by decide)) (f37 1 11 (by decide))).trans q) h38⟩, (fun j => by rw [eI49, z_up_n (by decide), eI46, z_up_j, eI36, z_up_n (by decide), fI16 37 j (z_wr_c (by decide)), (show x24.toNatClampNeg = (I 30 8).toNatClampNeg from by show x24.toInt.toNat = (I 30 8).toInt.toNat; omega)])⟩)⟩
          · have h51 := h29
            have r52 : 0 ≤ (I16 30 8).toInt ∧ (I16 30 8).toInt ≤ 300 := hI16P
            refine lv_if_eq (tgt := 129) hx hb dX11_pour_56 (by decide) (fun c53 => ?_) (fun c53 => absurd (by decide) c53)
            refine lv_iload hx hb dX11_pour_129 (lv_at hl 0 rfl) ?_
            exact z_iret hx hb hr hK hS (Nat.le_of_ble_eq_true rfl) (Nat.le_of_ble_eq_true rfl) hlocks dX11_pour_131 (shC c, ad, I16, JX, PC c ad) hW ⟨I16, rfl, (by show 0 ≤ (I16 30 8).toInt ∧ (I16 30 8).toInt ≤ 300; exact hI16P), (by show 0 ≤ (I16 21 2).toInt ∧ (I16 21 2).toInt ≤ 12; exact k18), ⟨(by show 0 ≤ (I16 1 5).toInt ∧ (I16 1 5).toInt ≤ 30; exact k19), (by show 0 ≤ (I16 1 11).toInt ∧ (I16 1 11).toInt ≤ 200; exact k20)⟩, ⟨(by show 0 ≤ (I16 0 0).toInt ∧ (I16 0 0).toInt ≤ 719; exact k21), (by show 0 ≤ (I16 0 8).toInt ∧ (I16 0 8).toInt ≤ 10; exact k22)⟩, (by show 0 ≤ (I16 26 4).toInt ∧ (I16 26 4).toInt ≤ 512; exact k23), f17, (by exfalso; have q9 : 0 ≤ (I 30 8).toInt := hP.1; omega)⟩
        · refine lv_istore (lv' := [(4, .int x24), (0, .ref (ad 0)), (1, .int a1), (2, .int a2), (3, .int a3)]) hx hb dX11_pour_45 hl (by decide) rfl (fun ls hl => ?_)
          refine lv_aload_n hx hb dX11_pour_47 rfl (lv_at hl 1 rfl) ?_
          refine z_get (T := TX11) (N := 13) (ci := 11) (i := 0) (v := .ref (ad 30)) hx hb hts zj_X11_pour_X11 hown hK hW rfl rfl 6 (by decide) (hts (.fieldLink RX11 44 "PetrolBoard" "pours" "LPetrolBoard$Pours;") (me_s (me_l (me_l (me_l (me_l (me_l (me_l (me_l (List.mem_of_getElem? (i := 2) rfl)))))))))) (fun _ h => h) rfl dX11_pour_48 ?_
          refine lv_iload hx hb dX11_pour_51 (lv_at hl 0 rfl) ?_
          refine z_ci hW hS hA (va_runV (As := [.int x24]) (rest := []) ⟨hx, hb, hml, hown, hts⟩ (sx_X8_has_d l G ad c I16 (by show 0 ≤ (I16 30 8).toInt ∧ (I16 30 8).toInt ≤ 300; exact hI16P) x24 _) (cwV 1 hts gX11_pour_X8_has rfl rfl rfl (by decide +kernel) ⟨Nat.le_of_ble_eq_true rfl, Nat.le_of_ble_eq_true rfl⟩) (z_preV (i := 30) hK hW rfl rfl) rfl rfl hl.1 rfl (lv_room (Nat.le_of_ble_eq_true rfl)) dX11_pour_53 ⟨Nat.le_of_ble_eq_true rfl, Nat.le_of_ble_eq_true rfl⟩) (fun r u1 H locs hp hW hS => ?_)
          obtain ⟨e9, hp⟩ := hp
          rw [e9] at hW
          rcases hp with ⟨rfl, h54⟩ | ⟨rfl, h54⟩
          · have h55 := h54
            have r56 : 0 ≤ (I16 30 8).toInt ∧ (I16 30 8).toInt ≤ 300 := hI16P
            refine lv_if_eq (tgt := 129) hx hb dX11_pour_56 (by decide) (fun c57 => absurd c57 (by decide)) (fun c57 => ?_)
            refine lv_aload_n hx hb dX11_pour_59 rfl (lv_at hl 1 rfl) ?_
            refine z_get (T := TX11) (N := 13) (ci := 11) (i := 0) (v := .ref (ad 30)) hx hb hts zj_X11_pour_X11 hown hK hW rfl rfl 6 (by decide) (hts (.fieldLink RX11 44 "PetrolBoard" "pours" "LPetrolBoard$Pours;") (me_s (me_l (me_l (me_l (me_l (me_l (me_l (me_l (List.mem_of_getElem? (i := 2) rfl)))))))))) (fun _ h => h) rfl dX11_pour_60 ?_
            refine z_get (T := TX8) (N := 9) (ci := 8) (i := 30) (v := .ref (ad 35)) hx hb hts zj_X11_pour_X8 hown hK hW rfl rfl 4 (by decide) (hts (.fieldLink RX11 189 "PetrolBoard$Pours" "tenths" "[I") (me_s (me_l (me_l (me_l (me_l (me_l (me_l (me_l (List.mem_of_getElem? (i := 4) rfl)))))))))) (fun _ h => h) rfl dX11_pour_63 ?_
            refine lv_iload hx hb dX11_pour_66 (lv_at hl 0 rfl) ?_
            refine lv_aload_n hx hb dX11_pour_68 rfl (lv_at hl 1 rfl) ?_
            refine z_get (T := TX11) (N := 13) (ci := 11) (i := 0) (v := .ref (ad 21)) hx hb hts zj_X11_pour_X11 hown hK hW rfl rfl 4 (by decide) (hts (.fieldLink RX11 30 "PetrolBoard" "orderBook" "LPetrolBoard$OrderBook;") (me_s (me_l (me_l (me_l (me_l (me_l (me_l (me_l (List.mem_of_getElem? (i := 5) rfl)))))))))) (fun _ h => h) rfl dX11_pour_69 ?_
            refine lv_iconst (v := 0) hx hb dX11_pour_72 (by decide) ?_
            refine lv_aload_n hx hb dX11_pour_73 rfl (lv_at hl 1 rfl) ?_
            have r58 : 0 ≤ (I16 0 0).toInt ∧ (I16 0 0).toInt ≤ 719 := k21
            refine z_get (T := TX11) (N := 13) (ci := 11) (i := 0) (v := .int (I16 0 0)) hx hb hts zj_X11_pour_X11 hown hK hW rfl rfl 0 (by decide) (hts (.fieldLink RX11 85 "PetrolBoard" "today" "I") (me_s (me_l (me_l (me_l (me_l (me_l (me_l (me_l (List.mem_of_getElem? (i := 3) rfl)))))))))) (fun _ h => h) rfl dX11_pour_74 ?_
            refine lv_bipush (v := 30) hx hb dX11_pour_77 (by decide) ?_
            refine lv_idiv hx hb dX11_pour_79 (by decide) ?_
            refine lv_topi (fun x59 ex59 => ?_)
            have tx59 := z_tdiv ex59 rfl z_l30 (by decide)
            refine lv_aload_n hx hb dX11_pour_80 rfl (lv_at hl 1 rfl) ?_
            refine z_get (T := TX11) (N := 13) (ci := 11) (i := 0) (v := .int (I16 0 0)) hx hb hts zj_X11_pour_X11 hown hK hW rfl rfl 0 (by decide) (hts (.fieldLink RX11 85 "PetrolBoard" "today" "I") (me_s (me_l (me_l (me_l (me_l (me_l (me_l (me_l (List.mem_of_getElem? (i := 3) rfl)))))))))) (fun _ h => h) rfl dX11_pour_81 ?_
            refine z_ci hW hS hA (va_runV (As := [.int 0, .int x59, .int (I16 0 0)]) (rest := [.int x24, .ref (ad 35)]) ⟨hx, hb, hml, hown, hts⟩ (sx_X6_amount l G ad c I16 (by show 0 ≤ (I16 21 2).toInt ∧ (I16 21 2).toInt ≤ 12; exact k18) 0 x59 (I16 0 0) hc _) (cwV 3 hts gX11_pour_X6_amount rfl rfl rfl (by decide +kernel) ⟨Nat.le_of_ble_eq_true rfl, Nat.le_of_ble_eq_true rfl⟩) (z_preVS (i := 21) hK hW hS hA hSt rfl rfl) rfl rfl hl.1 rfl (lv_room (Nat.le_of_ble_eq_true rfl)) dX11_pour_84 ⟨Nat.le_of_ble_eq_true rfl, Nat.le_of_ble_eq_true rfl⟩) (fun r u1 H locs hp hW hS => ?_)
            rw [hp] at hW
            refine lv_topi (fun x60 ex60 => ?_)
            refine z_iast (i := 35) hx hb hK hW hS rfl (z_ix rfl (by omega) (by omega)) dX11_pour_87 (fun H locs hz1 hW hS => ?_)
            obtain ⟨I61, eI61⟩ : ∃ K : z_I, K = z_up I16 35 x24.toNatClampNeg x60 := ⟨_, rfl⟩
            rw [← eI61] at hW
            have f62 := z_fr_a f17 (show z_wa L_X11_pour_d 35 = true by decide) eI61
            refine lv_aload_n hx hb dX11_pour_88 rfl (lv_at hl 1 rfl) ?_
            refine z_get (T := TX11) (N := 13) (ci := 11) (i := 0) (v := .ref (ad 30)) hx hb hts zj_X11_pour_X11 hown hK hW rfl rfl 6 (by decide) (hts (.fieldLink RX11 44 "PetrolBoard" "pours" "LPetrolBoard$Pours;") (me_s (me_l (me_l (me_l (me_l (me_l (me_l (me_l (List.mem_of_getElem? (i := 2) rfl)))))))))) (fun _ h => h) rfl dX11_pour_89 ?_
            refine z_get (T := TX8) (N := 9) (ci := 8) (i := 30) (v := .ref (ad 37)) hx hb hts zj_X11_pour_X8 hown hK hW rfl rfl 6 (by decide) (hts (.fieldLink RX11 192 "PetrolBoard$Pours" "dyed" "[I") (me_s (me_l (me_l (me_l (me_l (me_l (me_l (me_l (List.mem_of_getElem? (i := 6) rfl)))))))))) (fun _ h => h) rfl dX11_pour_92 ?_
            refine lv_iload hx hb dX11_pour_95 (lv_at hl 0 rfl) ?_
            refine lv_aload_n hx hb dX11_pour_97 rfl (lv_at hl 1 rfl) ?_
            refine lv_iload_n hx hb dX11_pour_98 rfl (lv_at hl 3 rfl) ?_
            refine z_ci hW hS hA (va_runV (As := [.int a2]) (rest := [.int x24, .ref (ad 37)]) ⟨hx, hb, hml, hown, hts⟩ (sx_X11_isFarmerNow_d l G ad c I61 ⟨(by show 0 ≤ (I61 1 5).toInt ∧ (I61 1 5).toInt ≤ 30; rw [eI61, z_up_n (by decide)]; exact k19), (by show 0 ≤ (I61 1 11).toInt ∧ (I61 1 11).toInt ≤ 200; rw [eI61, z_up_n (by decide)]; exact k20)⟩ ⟨(by show 0 ≤ (I61 0 0).toInt ∧ (I61 0 0).toInt ≤ 719; rw [eI61, z_up_n (by decide)]; exact k21), (by show 0 ≤ (I61 0 8).toInt ∧ (I61 0 8).toInt ≤ 10; rw [eI61, z_up_n (by decide)]; exact k22)⟩ a2 hc h10 _) (cwV 1 hts gX11_pour_X11_isFarmerNow rfl rfl rfl (by decide +kernel) ⟨Nat.le_of_ble_eq_true rfl, Nat.le_of_ble_eq_true rfl⟩) (z_preV (i := 0) hK hW rfl rfl) rfl rfl hl.1 rfl (lv_room (Nat.le_of_ble_eq_true rfl)) dX11_pour_99 ⟨Nat.le_of_ble_eq_true rfl, Nat.le_of_ble_eq_true rfl⟩) (fun r u1 H locs hp hW hS => ?_)
            obtain ⟨e9, hp⟩ := hp
            rw [e9] at hW
            rcases hp with ⟨rfl, h63⟩ | ⟨rfl, h63⟩
            · refine lv_if_eq (tgt := 109) hx hb dX11_pour_102 (by decide) (fun c64 => absurd c64 (by decide)) (fun c64 => ?_)
              refine lv_iconst (v := 1) hx hb dX11_pour_105 (by decide) ?_
              refine lv_goto (tgt := 110) hx hb dX11_pour_106 (by decide) ?_
              refine z_iast (i := 37) hx hb hK hW hS rfl (z_ix rfl (by omega) (by omega)) dX11_pour_110 (fun H locs hz1 hW hS => ?_)
              obtain ⟨I65, eI65⟩ : ∃ K : z_I, K = z_up I61 37 x24.toNatClampNeg 1 := ⟨_, rfl⟩
              rw [← eI65] at hW
              have f66 := z_fr_a f62 (show z_wa L_X11_pour_d 37 = true by decide) eI65
              refine lv_aload_n hx hb dX11_pour_111 rfl (lv_at hl 1 rfl) ?_
              refine z_get (T := TX11) (N := 13) (ci := 11) (i := 0) (v := .ref (ad 30)) hx hb hts zj_X11_pour_X11 hown hK hW rfl rfl 6 (by decide) (hts (.fieldLink RX11 44 "PetrolBoard" "pours" "LPetrolBoard$Pours;") (me_s (me_l (me_l (me_l (me_l (me_l (me_l (me_l (List.mem_of_getElem? (i := 2) rfl)))))))))) (fun _ h => h) rfl dX11_pour_112 ?_
              refine z_get (T := TX8) (N := 9) (ci := 8) (i := 30) (v := .ref (ad 38)) hx hb hts zj_X11_pour_X8 hown hK hW rfl rfl 7 (by decide) (hts (.fieldLink RX11 198 "PetrolBoard$Pours" "ownerThen" "[I") (me_s (me_l (me_l (me_l (me_l (me_l (me_l (me_l (List.mem_of_getElem? (i := 7) rfl)))))))))) (fun _ h => h) rfl dX11_pour_115 ?_
              refine lv_iload hx hb dX11_pour_118 (lv_at hl 0 rfl) ?_
              refine lv_aload_n hx hb dX11_pour_120 rfl (lv_at hl 1 rfl) ?_
              refine z_get (T := TX11) (N := 13) (ci := 11) (i := 0) (v := .ref (ad 26)) hx hb hts zj_X11_pour_X11 hown hK hW rfl rfl 5 (by decide) (hts (.fieldLink RX11 37 "PetrolBoard" "coupons" "LPetrolBoard$Coupons;") (me_s (me_l (me_l (me_l (me_l (me_l (me_l (me_l (List.mem_of_getElem? (i := 8) rfl)))))))))) (fun _ h => h) rfl dX11_pour_121 ?_
              refine lv_iload_n hx hb dX11_pour_124 rfl (lv_at hl 4 rfl) ?_
              refine z_ci hW hS hA (va_runV (As := [.int a3]) (rest := [.int x24, .ref (ad 38)]) ⟨hx, hb, hml, hown, hts⟩ (sx_X0_ownerOf l G ad c I65 (by show 0 ≤ (I65 26 4).toInt ∧ (I65 26 4).toInt ≤ 512; rw [eI65, z_up_n (by decide), eI61, z_up_n (by decide)]; exact k23) a3 _) (cwV 1 hts gX11_pour_X0_ownerOf rfl rfl rfl (by decide +kernel) ⟨Nat.le_of_ble_eq_true rfl, Nat.le_of_ble_eq_true rfl⟩) (z_preV (i := 26) hK hW rfl rfl) rfl rfl hl.1 rfl (lv_room (Nat.le_of_ble_eq_true rfl)) dX11_pour_125 ⟨Nat.le_of_ble_eq_true rfl, Nat.le_of_ble_eq_true rfl⟩) (fun r u1 H locs hp hW hS => ?_)
              rw [hp] at hW
              refine lv_topi (fun x67 ex67 => ?_)
              refine z_iast (i := 38) hx hb hK hW hS rfl (z_ix rfl (by omega) (by omega)) dX11_pour_128 (fun H locs hz1 hW hS => ?_)
              obtain ⟨I68, eI68⟩ : ∃ K : z_I, K = z_up I65 38 x24.toNatClampNeg x67 := ⟨_, rfl⟩
              rw [← eI68] at hW
              have f69 := z_fr_a f66 (show z_wa L_X11_pour_d 38 = true by decide) eI68
              refine lv_iload hx hb dX11_pour_129 (lv_at hl 0 rfl) ?_
              exact z_iret hx hb hr hK hS (Nat.le_of_ble_eq_true rfl) (Nat.le_of_ble_eq_true rfl) hlocks dX11_pour_131 (shC c, ad, I68, JX, PC c ad) hW ⟨I68, rfl, (by show 0 ≤ (I68 30 8).toInt ∧ (I68 30 8).toInt ≤ 300; rw [eI68, z_up_n (by decide), eI65, z_up_n (by decide), eI61, z_up_n (by decide)]; exact hI16P), (by show 0 ≤ (I68 21 2).toInt ∧ (I68 21 2).toInt ≤ 12; rw [eI68, z_up_n (by decide), eI65, z_up_n (by decide), eI61, z_up_n (by decide)]; exact k18), ⟨(by show 0 ≤ (I68 1 5).toInt ∧ (I68 1 5).toInt ≤ 30; rw [eI68, z_up_n (by decide), eI65, z_up_n (by decide), eI61, z_up_n (by decide)]; exact k19), (by show 0 ≤ (I68 1 11).toInt ∧ (I68 1 11).toInt ≤ 200; rw [eI68, z_up_n (by decide), eI65, z_up_n (by decide), eI61, z_up_n (by decide)]; exact k20)⟩, ⟨(by show 0 ≤ (I68 0 0).toInt ∧ (I68 0 0).toInt ≤ 719; rw [eI68, z_up_n (by decide), eI65, z_up_n (by decide), eI61, z_up_n (by decide)]; exact k21), (by show 0 ≤ (I68 0 8).toInt ∧ (I68 0 8).toInt ≤ 10; rw [eI68, z_up_n (by decide), eI65, z_up_n (by decide), eI61, z_up_n (by decide)]; exact k22)⟩, (by show 0 ≤ (I68 26 4).toInt ∧ (I68 26 4).toInt ≤ 512; rw [eI68, z_up_n (by decide), eI65, z_up_n (by decide), eI61, z_up_n (by decide)]; exact k23), f69, (by exfalso; have q9 : 0 ≤ (I 30 8).toInt := hP.1; omega)⟩
            · refine lv_if_eq (tgt := 109) hx hb dX11_pour_102 (by decide) (fun c70 => ?_) (fun c70 => absurd (by decide) c70)
              refine lv_iconst (v := 0) hx hb dX11_pour_109 (by decide) ?_
              refine z_iast (i := 37) hx hb hK hW hS rfl (z_ix rfl (by omega) (by omega)) dX11_pour_110 (fun H locs hz1 hW hS => ?_)
              obtain ⟨I71, eI71⟩ : ∃ K : z_I, K = z_up I61 37 x24.toNatClampNeg 0 := ⟨_, rfl⟩
              rw [← eI71] at hW
              have f72 := z_fr_a f62 (show z_wa L_X11_pour_d 37 = true by decide) eI71
              refine lv_aload_n hx hb dX11_pour_111 rfl (lv_at hl 1 rfl) ?_
              refine z_get (T := TX11) (N := 13) (ci := 11) (i := 0) (v := .ref (ad 30)) hx hb hts zj_X11_pour_X11 hown hK hW rfl rfl 6 (by decide) (hts (.fieldLink RX11 44 "PetrolBoard" "pours" "LPetrolBoard$Pours;") (me_s (me_l (me_l (me_l (me_l (me_l (me_l (me_l (List.mem_of_getElem? (i := 2) rfl)))))))))) (fun _ h => h) rfl dX11_pour_112 ?_
              refine z_get (T := TX8) (N := 9) (ci := 8) (i := 30) (v := .ref (ad 38)) hx hb hts zj_X11_pour_X8 hown hK hW rfl rfl 7 (by decide) (hts (.fieldLink RX11 198 "PetrolBoard$Pours" "ownerThen" "[I") (me_s (me_l (me_l (me_l (me_l (me_l (me_l (me_l (List.mem_of_getElem? (i := 7) rfl)))))))))) (fun _ h => h) rfl dX11_pour_115 ?_
              refine lv_iload hx hb dX11_pour_118 (lv_at hl 0 rfl) ?_
              refine lv_aload_n hx hb dX11_pour_120 rfl (lv_at hl 1 rfl) ?_
              refine z_get (T := TX11) (N := 13) (ci := 11) (i := 0) (v := .ref (ad 26)) hx hb hts zj_X11_pour_X11 hown hK hW rfl rfl 5 (by decide) (hts (.fieldLink RX11 37 "PetrolBoard" "coupons" "LPetrolBoard$Coupons;") (me_s (me_l (me_l (me_l (me_l (me_l (me_l (me_l (List.mem_of_getElem? (i := 8) rfl)))))))))) (fun _ h => h) rfl dX11_pour_121 ?_
              refine lv_iload_n hx hb dX11_pour_124 rfl (lv_at hl 4 rfl) ?_
              refine z_ci hW hS hA (va_runV (As := [.int a3]) (rest := [.int x24, .ref (ad 38)]) ⟨hx, hb, hml, hown, hts⟩ (sx_X0_ownerOf l G ad c I71 (by show 0 ≤ (I71 26 4).toInt ∧ (I71 26 4).toInt ≤ 512; rw [eI71, z_up_n (by decide), eI61, z_up_n (by decide)]; exact k23) a3 _) (cwV 1 hts gX11_pour_X0_ownerOf rfl rfl rfl (by decide +kernel) ⟨Nat.le_of_ble_eq_true rfl, Nat.le_of_ble_eq_true rfl⟩) (z_preV (i := 26) hK hW rfl rfl) rfl rfl hl.1 rfl (lv_room (Nat.le_of_ble_eq_true rfl)) dX11_pour_125 ⟨Nat.le_of_ble_eq_true rfl, Nat.le_of_ble_eq_true rfl⟩) (fun r u1 H locs hp hW hS => ?_)
              rw [hp] at hW
              refine lv_topi (fun x73 ex73 => ?_)
              refine z_iast (i := 38) hx hb hK hW hS rfl (z_ix rfl (by omega) (by omega)) dX11_pour_128 (fun H locs hz1 hW hS => ?_)
              obtain ⟨I74, eI74⟩ : ∃ K : z_I, K = z_up I71 38 x24.toNatClampNeg x73 := ⟨_, rfl⟩
              rw [← eI74] at hW
              have f75 := z_fr_a f72 (show z_wa L_X11_pour_d 38 = true by decide) eI74
              refine lv_iload hx hb dX11_pour_129 (lv_at hl 0 rfl) ?_
              exact z_iret hx hb hr hK hS (Nat.le_of_ble_eq_true rfl) (Nat.le_of_ble_eq_true rfl) hlocks dX11_pour_131 (shC c, ad, I74, JX, PC c ad) hW ⟨I74, rfl, (by show 0 ≤ (I74 30 8).toInt ∧ (I74 30 8).toInt ≤ 300; rw [eI74, z_up_n (by decide), eI71, z_up_n (by decide), eI61, z_up_n (by decide)]; exact hI16P), (by show 0 ≤ (I74 21 2).toInt ∧ (I74 21 2).toInt ≤ 12; rw [eI74, z_up_n (by decide), eI71, z_up_n (by decide), eI61, z_up_n (by decide)]; exact k18), ⟨(by show 0 ≤ (I74 1 5).toInt ∧ (I74 1 5).toInt ≤ 30; rw [eI74, z_up_n (by decide), eI71, z_up_n (by decide), eI61, z_up_n (by decide)]; exact k19), (by show 0 ≤ (I74 1 11).toInt ∧ (I74 1 11).toInt ≤ 200; rw [eI74, z_up_n (by decide), eI71, z_up_n (by decide), eI61, z_up_n (by decide)]; exact k20)⟩, ⟨(by show 0 ≤ (I74 0 0).toInt ∧ (I74 0 0).toInt ≤ 719; rw [eI74, z_up_n (by decide), eI71, z_up_n (by decide), eI61, z_up_n (by decide)]; exact k21), (by show 0 ≤ (I74 0 8).toInt ∧ (I74 0 8).toInt ≤ 10; rw [eI74, z_up_n (by decide), eI71, z_up_n (by decide), eI61, z_up_n (by decide)]; exact k22)⟩, (by show 0 ≤ (I74 26 4).toInt ∧ (I74 26 4).toInt ≤ 512; rw [eI74, z_up_n (by decide), eI71, z_up_n (by decide), eI61, z_up_n (by decide)]; exact k23), f75, (by exfalso; have q9 : 0 ≤ (I 30 8).toInt := hP.1; omega)⟩
          · have h76 := h54
            have r77 : 0 ≤ (I16 30 8).toInt ∧ (I16 30 8).toInt ≤ 300 := hI16P
            refine lv_if_eq (tgt := 129) hx hb dX11_pour_56 (by decide) (fun c78 => ?_) (fun c78 => absurd (by decide) c78)
            refine lv_iload hx hb dX11_pour_129 (lv_at hl 0 rfl) ?_
            exact z_iret hx hb hr hK hS (Nat.le_of_ble_eq_true rfl) (Nat.le_of_ble_eq_true rfl) hlocks dX11_pour_131 (shC c, ad, I16, JX, PC c ad) hW ⟨I16, rfl, (by show 0 ≤ (I16 30 8).toInt ∧ (I16 30 8).toInt ≤ 300; exact hI16P), (by show 0 ≤ (I16 21 2).toInt ∧ (I16 21 2).toInt ≤ 12; exact k18), ⟨(by show 0 ≤ (I16 1 5).toInt ∧ (I16 1 5).toInt ≤ 30; exact k19), (by show 0 ≤ (I16 1 11).toInt ∧ (I16 1 11).toInt ≤ 200; exact k20)⟩, ⟨(by show 0 ≤ (I16 0 0).toInt ∧ (I16 0 0).toInt ≤ 719; exact k21), (by show 0 ≤ (I16 0 8).toInt ∧ (I16 0 8).toInt ≤ 10; exact k22)⟩, (by show 0 ≤ (I16 26 4).toInt ∧ (I16 26 4).toInt ≤ 512; exact k23), f17, (Or.inr ⟨by omega, by omega, (by show (I16 30 8).toInt = (I 30 8).toInt; omega), (fun j => ⟨by rw [h28 j], by rw [fI16 37 j (z_wr_c (by decide))]⟩)⟩)⟩
      · have h79 := h9
        have z80 := z_l0
        have z81 := z_l99999
        refine lv_if_ne (tgt := 31) hx hb dX11_pour_26 (by decide) (fun c82 => absurd (by decide) c82) (fun c82 => ?_)
        refine lv_iconst (v := (-1)) hx hb dX11_pour_29 (by decide) ?_
        exact z_iret hx hb hr hK hS (Nat.le_of_ble_eq_true rfl) (Nat.le_of_ble_eq_true rfl) hlocks dX11_pour_30 (shC c, ad, I, JX, PC c ad) hW ⟨I, rfl, (by show 0 ≤ (I 30 8).toInt ∧ (I 30 8).toInt ≤ 300; exact hP), (by show 0 ≤ (I 21 2).toInt ∧ (I 21 2).toInt ≤ 12; exact hO), ⟨(by show 0 ≤ (I 1 5).toInt ∧ (I 1 5).toInt ≤ 30; exact hH.1), (by show 0 ≤ (I 1 11).toInt ∧ (I 1 11).toInt ≤ 200; exact hH.2)⟩, ⟨(by show 0 ≤ (I 0 0).toInt ∧ (I 0 0).toInt ≤ 719; exact hB.1), (by show 0 ≤ (I 0 8).toInt ∧ (I 0 8).toInt ≤ 10; exact hB.2)⟩, (by show 0 ≤ (I 26 4).toInt ∧ (I 26 4).toInt ≤ 512; exact hC), z_fr_0, (Or.inr ⟨by omega, by decide, (by show (I 30 8).toInt = (I 30 8).toInt; omega), (fun j => ⟨rfl, rfl⟩)⟩)⟩
    · have h83 := h5
      have r84 : 0 ≤ (I 1 5).toInt ∧ (I 1 5).toInt ≤ 30 := hH.1
      refine lv_if_eq (tgt := 29) hx hb dX11_pour_16 (by decide) (fun c85 => ?_) (fun c85 => absurd (by decide) c85)
      refine lv_iconst (v := (-1)) hx hb dX11_pour_29 (by decide) ?_
      exact z_iret hx hb hr hK hS (Nat.le_of_ble_eq_true rfl) (Nat.le_of_ble_eq_true rfl) hlocks dX11_pour_30 (shC c, ad, I, JX, PC c ad) hW ⟨I, rfl, (by show 0 ≤ (I 30 8).toInt ∧ (I 30 8).toInt ≤ 300; exact hP), (by show 0 ≤ (I 21 2).toInt ∧ (I 21 2).toInt ≤ 12; exact hO), ⟨(by show 0 ≤ (I 1 5).toInt ∧ (I 1 5).toInt ≤ 30; exact hH.1), (by show 0 ≤ (I 1 11).toInt ∧ (I 1 11).toInt ≤ 200; exact hH.2)⟩, ⟨(by show 0 ≤ (I 0 0).toInt ∧ (I 0 0).toInt ≤ 719; exact hB.1), (by show 0 ≤ (I 0 8).toInt ∧ (I 0 8).toInt ≤ 10; exact hB.2)⟩, (by show 0 ≤ (I 26 4).toInt ∧ (I 26 4).toInt ≤ 512; exact hC), z_fr_0, (Or.inr ⟨by omega, by decide, (by show (I 30 8).toInt = (I 30 8).toInt; omega), (fun j => ⟨rfl, rfl⟩)⟩)⟩
  · have h86 := h1
    have r87 : 0 ≤ (I 0 8).toInt ∧ (I 0 8).toInt ≤ 10 := hB.2
    refine lv_if_eq (tgt := 29) hx hb dX11_pour_5 (by decide) (fun c88 => ?_) (fun c88 => absurd (by decide) c88)
    refine lv_iconst (v := (-1)) hx hb dX11_pour_29 (by decide) ?_
    exact z_iret hx hb hr hK hS (Nat.le_of_ble_eq_true rfl) (Nat.le_of_ble_eq_true rfl) hlocks dX11_pour_30 (shC c, ad, I, JX, PC c ad) hW ⟨I, rfl, (by show 0 ≤ (I 30 8).toInt ∧ (I 30 8).toInt ≤ 300; exact hP), (by show 0 ≤ (I 21 2).toInt ∧ (I 21 2).toInt ≤ 12; exact hO), ⟨(by show 0 ≤ (I 1 5).toInt ∧ (I 1 5).toInt ≤ 30; exact hH.1), (by show 0 ≤ (I 1 11).toInt ∧ (I 1 11).toInt ≤ 200; exact hH.2)⟩, ⟨(by show 0 ≤ (I 0 0).toInt ∧ (I 0 0).toInt ≤ 719; exact hB.1), (by show 0 ≤ (I 0 8).toInt ∧ (I 0 8).toInt ≤ 10; exact hB.2)⟩, (by show 0 ≤ (I 26 4).toInt ∧ (I 26 4).toInt ≤ 512; exact hC), z_fr_0, (Or.inr ⟨by omega, by decide, (by show (I 30 8).toInt = (I 30 8).toInt; omega), (fun j => ⟨rfl, rfl⟩)⟩)⟩
set_option maxHeartbeats 8000000 in
set_option maxRecDepth 100000 in
theorem sx_X12_found_d_q (l : Launch) (G : z_G) (ad : Nat → Nat) (I : z_I) (J : z_J) (hma : z_ima I) (hms : z_ims I) (a1 : Int32) : z_M l yX12_found wsX12_found { frames := 2, cells := 0, slots := 0, locals := 37 } [.ref (ad 0), .int a1] G (shM, ad, I, J, PM ad) (fun r u1 => u1 = (shM, ad, I, J, PM ad) ∧ ((¬ (0 ≤ a1.toInt ∧ a1.toInt < (I 0 1).toInt) ∧ r.toInt = -1) ∨ ((0 ≤ a1.toInt ∧ a1.toInt < (I 0 1).toInt) ∧ ((r.toInt = 1 ∧ z_lm I a1.toInt (I 0 55).toNatClampNeg = true ∧ ¬ z_fm I a1 = 2) ∨ (r.toInt = 0 ∧ ¬ (z_lm I a1.toInt (I 0 55).toNatClampNeg = true ∧ ¬ z_fm I a1 = 2)))))) 0 0 := by
  intro sz
  refine z_headQ (cc := cX12_found) (maxL := 4) (ret := (some .int)) (by decide) rfl (Nat.le_of_ble_eq_true rfl) ?_
  intro p e s m below meth c0 ls hIn hK hsz hW hl
  obtain ⟨hx, hb, hr, hml, hown, hts, hlocks, hname⟩ := hIn
  subst hsz
  have hown : s.vm.findClass RX12 = some m.cls := hown
  have hA : ∀ q : Nat, s.heap.size ≤ q → z_A (shM, ad, I, J, PM ad) s.heap.size q := fun q h => Or.inr h
  generalize hAe : z_A (shM, ad, I, J, PM ad) s.heap.size = A at *
  have hS : va_S A s.heap s.heap [] := va_S.rf
  have hl : lv_has ls 4 [(0, .ref (ad 0)), (1, .int a1)] := hl
  refine lv_aload_n hx hb dX12_found_0 rfl (lv_at hl 0 rfl) ?_
  refine lv_iload_n hx hb dX12_found_1 rfl (lv_at hl 1 rfl) ?_
  refine z_ci hW hS hA (va_runV (As := [.int a1]) (rest := []) ⟨hx, hb, hml, hown, hts⟩ (sx_X12_isHolder_e l G ad I J ⟨(by show 0 ≤ (I 0 0).toInt ∧ (I 0 0).toInt ≤ 719; exact hma.1), (by show 0 ≤ (I 0 1).toInt ∧ (I 0 1).toInt ≤ 30; exact hma.2.1), (by show 0 ≤ (I 0 2).toInt ∧ (I 0 2).toInt ≤ 200; exact hma.2.2)⟩ a1 _) (cwV 1 hts gX12_found_X12_isHolder rfl rfl rfl (by decide +kernel) ⟨Nat.le_of_ble_eq_true rfl, Nat.le_of_ble_eq_true rfl⟩) (z_preV (i := 0) hK hW rfl rfl) rfl rfl hl.1 rfl (lv_room (Nat.le_of_ble_eq_true rfl)) dX12_found_2 ⟨Nat.le_of_ble_eq_true rfl, Nat.le_of_ble_eq_true rfl⟩) (fun r u1 H locs hp hW hS => ?_)
  obtain ⟨e9, hp⟩ := hp
  rw [e9] at hW
  rcases hp with ⟨rfl, h1⟩ | ⟨rfl, h1⟩
  · have h2 := h1
    have r3 : 0 ≤ (I 0 1).toInt ∧ (I 0 1).toInt ≤ 30 := hma.2.1
    refine lv_if_ne (tgt := 10) hx hb dX12_found_5 (by decide) (fun c4 => ?_) (fun c4 => absurd c4 (by decide))
    refine lv_iconst (v := 0) hx hb dX12_found_10 (by decide) ?_
    refine lv_istore_n (lv' := [(2, .int 0), (0, .ref (ad 0)), (1, .int a1)]) hx hb dX12_found_11 rfl hl (by decide) rfl (fun ls hl => ?_)
    refine lv_iconst (v := 0) hx hb dX12_found_12 (by decide) ?_
    refine lv_istore_n (lv' := [(3, .int 0), (2, .int 0), (0, .ref (ad 0)), (1, .int a1)]) hx hb dX12_found_13 rfl hl (by decide) rfl (fun ls hl => ?_)
    have lp5 : ∀ (f : Nat) (y6 : Int32) (y7 : Int32) (H : Heap) (locs : List Loc) (ls : Array Slot), (2147483647 < y6.toInt + (f : Int)) → (0 ≤ y6.toInt) → (∃ i : Nat, (i : Int) = y6.toInt ∧ (i : Int) ≤ (I 0 55).toInt ∧ (y7.toInt ≠ 0 ↔ z_lm I a1.toInt i = true)) → z_W G A (shM, ad, I, J, PM ad) H → va_S A s.heap H locs → lv_has ls 4 [(3, .int y6), (2, .int y7), (0, .ref (ad 0)), (1, .int a1)] → W p l e (headSpec wsX12_found { frames := 2, cells := 0, slots := 0, locals := 37 }).room s m ([.ref (ad 0), .int a1] : List Value).toArray below meth c0 H locs 0 0 (MQ below (va_Qi (fun (r : Int32) (u1 : z_U) => u1 = (shM, ad, I, J, PM ad) ∧ ((¬ (0 ≤ a1.toInt ∧ a1.toInt < (I 0 1).toInt) ∧ r.toInt = -1) ∨ ((0 ≤ a1.toInt ∧ a1.toInt < (I 0 1).toInt) ∧ ((r.toInt = 1 ∧ z_lm I a1.toInt (I 0 55).toNatClampNeg = true ∧ ¬ z_fm I a1 = 2) ∨ (r.toInt = 0 ∧ ¬ (z_lm I a1.toInt (I 0 55).toNatClampNeg = true ∧ ¬ z_fm I a1 = 2)))))) (z_B G A) A) ([.ref (ad 0), .int a1] : List Value).toArray s 0 0 A) (F0 m 14 ls []) := by
      intro f
      induction f with
      | zero => intro y6 y7 H locs ls lp5m lp5l3 lp5B hW hS hl; exact absurd lp5m (by have := Int32.toInt_lt y6; have := Int32.le_toInt y6; omega)
      | succ f lp5ih =>
        intro y6 y7 H locs ls lp5m lp5l3 lp5B hW hS hl
        refine lv_iload_n hx hb dX12_found_14 rfl (lv_at hl 0 rfl) ?_
        refine lv_aload_n hx hb dX12_found_15 rfl (lv_at hl 2 rfl) ?_
        have r8 : 0 ≤ (I 0 55).toInt ∧ (I 0 55).toInt ≤ 300 := hms.2
        refine z_get (T := TX12) (N := 96) (ci := 12) (i := 0) (v := .int (I 0 55)) hx hb hts zj_X12_found_X12 hown hK hW rfl rfl 55 (by decide) (hts (.fieldLink RX12 468 "PetrolBoardModel" "pours" "I") (me_s (me_l (List.mem_of_getElem? (i := 0) rfl)))) (fun _ h => h) rfl dX12_found_16 ?_
        refine lv_icmp_ge (tgt := 45) hx hb dX12_found_19 (by decide) (fun c9 => ?_) (fun c9 => ?_)
        · have g10 := z_f_ge rfl rfl c9
          have b11 := Int32.toInt_lt y6
          refine lv_iload_n hx hb dX12_found_45 rfl (lv_at hl 1 rfl) ?_
          refine lv_if_eq (tgt := 70) hx hb dX12_found_46 (by decide) (fun c12 => ?_) (fun c12 => ?_)
          · have g13 := z_f_eq rfl z_l0 c12
            have b14 := Int32.toInt_lt y7
            refine lv_iconst (v := 0) hx hb dX12_found_70 (by decide) ?_
            exact z_iret hx hb hr hK hS (Nat.le_of_ble_eq_true rfl) (Nat.le_of_ble_eq_true rfl) hlocks dX12_found_71 (shM, ad, I, J, PM ad) hW ⟨rfl, (by obtain ⟨i9, hi9, hn9, hB9⟩ := lp5B; have c9 := z_clt (x := I 0 55) rfl (by omega); have e9 : i9 = (I 0 55).toNatClampNeg := (by omega); rw [e9] at hB9; exact Or.inr ⟨by omega, Or.inr ⟨by decide, fun q => absurd (hB9.mpr q.1) (by omega)⟩⟩)⟩
          · have g15 := z_f_ne rfl z_l0 c12
            have b16 := Int32.toInt_lt y7
            refine lv_aload_n hx hb dX12_found_49 rfl (lv_at hl 2 rfl) ?_
            refine lv_iload_n hx hb dX12_found_50 rfl (lv_at hl 3 rfl) ?_
            refine lv_aload_n hx hb dX12_found_51 rfl (lv_at hl 2 rfl) ?_
            have r17 : 0 ≤ (I 0 0).toInt ∧ (I 0 0).toInt ≤ 719 := hma.1
            refine z_get (T := TX12) (N := 96) (ci := 12) (i := 0) (v := .int (I 0 0)) hx hb hts zj_X12_found_X12 hown hK hW rfl rfl 0 (by decide) (hts (.fieldLink RX12 232 "PetrolBoardModel" "today" "I") (me_s (me_l (List.mem_of_getElem? (i := 3) rfl)))) (fun _ h => h) rfl dX12_found_52 ?_
            refine lv_aload_n hx hb dX12_found_55 rfl (lv_at hl 2 rfl) ?_
            refine z_get (T := TX12) (N := 96) (ci := 12) (i := 0) (v := .int (I 0 0)) hx hb hts zj_X12_found_X12 hown hK hW rfl rfl 0 (by decide) (hts (.fieldLink RX12 232 "PetrolBoardModel" "today" "I") (me_s (me_l (List.mem_of_getElem? (i := 3) rfl)))) (fun _ h => h) rfl dX12_found_56 ?_
            refine z_ci hW hS hA (va_runV (As := [.int a1, .int (I 0 0), .int (I 0 0)]) (rest := []) ⟨hx, hb, hml, hown, hts⟩ (sx_X12_kindOn_r l G ad I J ⟨(by show 0 ≤ (I 0 0).toInt ∧ (I 0 0).toInt ≤ 719; exact hma.1), (by show 0 ≤ (I 0 1).toInt ∧ (I 0 1).toInt ≤ 30; exact hma.2.1), (by show 0 ≤ (I 0 2).toInt ∧ (I 0 2).toInt ≤ 200; exact hma.2.2)⟩ a1 (I 0 0) (I 0 0) _) (cwV 3 hts gX12_found_X12_kindOn rfl rfl rfl (by decide +kernel) ⟨Nat.le_of_ble_eq_true rfl, Nat.le_of_ble_eq_true rfl⟩) (z_preV (i := 0) hK hW rfl rfl) rfl rfl hl.1 rfl (lv_room (Nat.le_of_ble_eq_true rfl)) dX12_found_59 ⟨Nat.le_of_ble_eq_true rfl, Nat.le_of_ble_eq_true rfl⟩) (fun r u1 H locs hp hW hS => ?_)
            obtain ⟨e9, hp⟩ := hp
            rw [e9] at hW
            refine lv_topi (fun x18 ex18 => ?_)
            have h19 := hp
            rw [← ex18] at h19
            refine lv_iconst (v := 2) hx hb dX12_found_62 (by decide) ?_
            refine lv_icmp_eq (tgt := 70) hx hb dX12_found_63 (by decide) (fun c20 => ?_) (fun c20 => ?_)
            · have g21 := z_f_eq rfl z_l2 c20
              have b22 := Int32.toInt_lt x18
              refine lv_iconst (v := 0) hx hb dX12_found_70 (by decide) ?_
              exact z_iret hx hb hr hK hS (Nat.le_of_ble_eq_true rfl) (Nat.le_of_ble_eq_true rfl) hlocks dX12_found_71 (shM, ad, I, J, PM ad) hW ⟨rfl, (by obtain ⟨i9, hi9, hn9, hB9⟩ := lp5B; have c9 := z_clt (x := I 0 55) rfl (by omega); have e9 : i9 = (I 0 55).toNatClampNeg := (by omega); rw [e9] at hB9; exact Or.inr ⟨by omega, Or.inr ⟨by decide, fun q => q.2 (by rw [← (show x18.toInt = z_fm I a1 from h19)]; omega)⟩⟩)⟩
            · have g23 := z_f_ne rfl z_l2 c20
              have b24 := Int32.toInt_lt x18
              refine lv_iconst (v := 1) hx hb dX12_found_66 (by decide) ?_
              refine lv_goto (tgt := 71) hx hb dX12_found_67 (by decide) ?_
              exact z_iret hx hb hr hK hS (Nat.le_of_ble_eq_true rfl) (Nat.le_of_ble_eq_true rfl) hlocks dX12_found_71 (shM, ad, I, J, PM ad) hW ⟨rfl, (by obtain ⟨i9, hi9, hn9, hB9⟩ := lp5B; have c9 := z_clt (x := I 0 55) rfl (by omega); have e9 : i9 = (I 0 55).toNatClampNeg := (by omega); rw [e9] at hB9; exact Or.inr ⟨by omega, Or.inl ⟨by decide, hB9.mp (by omega), by rw [← (show x18.toInt = z_fm I a1 from h19)]; omega⟩⟩)⟩
        · have g25 := z_f_nge rfl rfl c9
          have b26 := Int32.toInt_lt y6
          refine lv_aload_n hx hb dX12_found_22 rfl (lv_at hl 2 rfl) ?_
          refine z_get (T := TX12) (N := 96) (ci := 12) (i := 0) (v := .ref (ad 35)) hx hb hts zj_X12_found_X12 hown hK hW rfl rfl 58 (by decide) (hts (.fieldLink RX12 121 "PetrolBoardModel" "pourWho" "[I") (me_s (me_l (List.mem_of_getElem? (i := 1) rfl)))) (fun _ h => h) rfl dX12_found_23 ?_
          refine lv_iload_n hx hb dX12_found_26 rfl (lv_at hl 0 rfl) ?_
          refine z_iald (i := 35) hx hb hK hW rfl (z_ix rfl (by omega) (by omega)) dX12_found_27 ?_
          refine lv_topi (fun x27 ex27 => ?_)
          have h28 : z_mw I y6.toNatClampNeg = x27.toInt := by unfold z_mw; rw [ex27]
          have h29 := z_clt (x := y6) rfl (by omega)
          refine lv_iload_n hx hb dX12_found_28 rfl (lv_at hl 3 rfl) ?_
          refine lv_icmp_ne (tgt := 39) hx hb dX12_found_29 (by decide) (fun c30 => ?_) (fun c30 => ?_)
          · have g31 := z_f_ne rfl rfl c30
            have b32 := Int32.toInt_lt x27
            obtain ⟨x33, ex33⟩ : ∃ y : Int32, y = y6 + 1 := ⟨_, rfl⟩
            have tx33 : x33.toInt = y6.toInt + 1 := z_tadd ex33 rfl z_l1 (by omega) (by omega)
            refine lv_iinc (v := x33) (lv' := [(3, .int x33), (2, .int y7), (0, .ref (ad 0)), (1, .int a1)]) hx hb dX12_found_39 hl (k := 0) rfl (by rw [ex33]; rfl) (by decide) rfl (fun ls hl => ?_)
            refine lv_goto (tgt := 14) hx hb dX12_found_42 (by decide) ?_
            exact lp5ih x33 y7 _ _ _ (by omega) (by omega) (by obtain ⟨i9, hi9, hn9, hB9⟩ := lp5B; have c9 := z_clt (x := y6) rfl (by omega); have e9 : i9 = y6.toNatClampNeg := (by omega); subst e9; exact ⟨_, by omega, by omega, z_lm_n (by omega) hB9⟩) hW hS (lv_sub hl [0, 1, 2, 3] rfl)
          · have g34 := z_f_eq rfl rfl c30
            have b35 := Int32.toInt_lt x27
            refine lv_aload_n hx hb dX12_found_32 rfl (lv_at hl 2 rfl) ?_
            refine z_get (T := TX12) (N := 96) (ci := 12) (i := 0) (v := .ref (ad 42)) hx hb hts zj_X12_found_X12 hown hK hW rfl rfl 65 (by decide) (hts (.fieldLink RX12 142 "PetrolBoardModel" "pourDyed" "[Z") (me_s (me_l (List.mem_of_getElem? (i := 2) rfl)))) (fun _ h => h) rfl dX12_found_33 ?_
            refine lv_iload_n hx hb dX12_found_36 rfl (lv_at hl 0 rfl) ?_
            refine z_zald (i := 42) hx hb hK hW rfl (z_ix rfl (by omega) (by omega)) dX12_found_37 ?_
            refine lv_topi (fun x36 ex36 => ?_)
            have h37 : z_md I y6.toNatClampNeg = x36.toInt := by unfold z_md; rw [ex36]
            have h38 := z_clt (x := y6) rfl (by omega)
            refine lv_istore_n (lv' := [(2, .int x36), (3, .int y6), (0, .ref (ad 0)), (1, .int a1)]) hx hb dX12_found_38 rfl hl (by decide) rfl (fun ls hl => ?_)
            obtain ⟨x39, ex39⟩ : ∃ y : Int32, y = y6 + 1 := ⟨_, rfl⟩
            have tx39 : x39.toInt = y6.toInt + 1 := z_tadd ex39 rfl z_l1 (by omega) (by omega)
            refine lv_iinc (v := x39) (lv' := [(3, .int x39), (2, .int x36), (0, .ref (ad 0)), (1, .int a1)]) hx hb dX12_found_39 hl (k := 1) rfl (by rw [ex39]; rfl) (by decide) rfl (fun ls hl => ?_)
            refine lv_goto (tgt := 14) hx hb dX12_found_42 (by decide) ?_
            exact lp5ih x39 x36 _ _ _ (by omega) (by omega) (by obtain ⟨i9, hi9, hn9, hB9⟩ := lp5B; have c9 := z_clt (x := y6) rfl (by omega); have e9 : i9 = y6.toNatClampNeg := (by omega); subst e9; exact ⟨_, by omega, by omega, z_lm_y (n := y6.toNatClampNeg) (by omega) (by omega)⟩) hW hS (lv_sub hl [0, 1, 2, 3] rfl)
    exact lp5 4294967296 (0) (0) _ _ _ (z_m0u _) (by rw [z_l0]; omega) ⟨0, by decide, by have q9 := hms.2.1; omega, ⟨fun q => absurd (show (0 : Int32).toInt = 0 by decide) q, fun q => absurd q (show ¬ false = true from Bool.false_ne_true)⟩⟩ hW hS (lv_sub hl [0, 1, 2, 3] rfl)
  · have h40 := h1
    have r41 : 0 ≤ (I 0 1).toInt ∧ (I 0 1).toInt ≤ 30 := hma.2.1
    refine lv_if_ne (tgt := 10) hx hb dX12_found_5 (by decide) (fun c42 => absurd (by decide) c42) (fun c42 => ?_)
    refine lv_iconst (v := (-1)) hx hb dX12_found_8 (by decide) ?_
    exact z_iret hx hb hr hK hS (Nat.le_of_ble_eq_true rfl) (Nat.le_of_ble_eq_true rfl) hlocks dX12_found_9 (shM, ad, I, J, PM ad) hW ⟨rfl, (Or.inl ⟨by omega, by decide⟩)⟩

section ZJ
variable {c a b : Int}
end ZJ
section ZS
variable {I K K1 : z_I} {A : Int → Int} {cd : Nat → Int} {k len p0 i j : Nat} {st rest r1 : List Int} {v x y c V0 at_ top : Int} {w : Int32}
end ZS
set_option maxHeartbeats 8000000 in
set_option maxRecDepth 100000 in
theorem sx_X5_joined_x_q (l : Launch) (G : z_G) (ad : Nat → Nat) (c : z_C) (I : z_I) (a1 : Int32) (a2 : Int32) (a3 : Int32) (q2 : (-1100000000 ≤ a2.toInt ∧ a2.toInt ≤ 1100000000)) (q3 : (-1100000000 ≤ a3.toInt ∧ a3.toInt ≤ 1100000000)) : z_M l yX5_joined wsX5_joined { frames := 1, cells := 0, slots := 0, locals := 40 } [.int a1, .int a2, .int a3] G (shC c, ad, I, JX, PC c ad) (fun r u1 => u1 = (shC c, ad, I, JX, PC c ad) ∧ (r.toInt = zp_jn a1.toInt a2.toInt a3.toInt)) 0 0 := by
  intro sz
  refine z_headQ (cc := cX5_joined) (maxL := 5) (ret := (some .int)) (by decide) rfl (Nat.le_of_ble_eq_true rfl) ?_
  intro p e s m below meth c0 ls hIn hK hsz hW hl
  obtain ⟨hx, hb, hr, hml, hown, hts, hlocks, hname⟩ := hIn
  subst hsz
  have hown : s.vm.findClass RX5 = some m.cls := hown
  have hA : ∀ q : Nat, s.heap.size ≤ q → z_A (shC c, ad, I, JX, PC c ad) s.heap.size q := fun q h => Or.inr h
  generalize hAe : z_A (shC c, ad, I, JX, PC c ad) s.heap.size = A at *
  have hS : va_S A s.heap s.heap [] := va_S.rf
  have hl : lv_has ls 5 [(0, .int a1), (1, .int a2), (2, .int a3)] := hl
  refine lv_iload_n hx hb dX5_joined_0 rfl (lv_at hl 0 rfl) ?_
  by_cases q1 : a1 = (-10)
  · refine lv_tableIn (tgt := 173) hx hb dX5_joined_1 (by rw [q1]; decide) (by rw [q1]; decide) (by rw [q1]; rfl) (by decide) ?_
    refine lv_iload_n hx hb dX5_joined_173 rfl (lv_at hl 1 rfl) ?_
    refine lv_iload_n hx hb dX5_joined_174 rfl (lv_at hl 2 rfl) ?_
    refine lv_iand hx hb dX5_joined_175 ?_
    refine lv_topi (fun x2 ex2 => ?_)
    refine lv_i2l (v := x2.toInt64) hx hb dX5_joined_176 rfl ?_
    refine lv_topl (fun w3 ew3 => ?_)
    have tw3 : w3.toInt = x2.toInt := z_ti2l ew3 rfl
    refine lv_lstore_n (lv' := [(3, .long w3), (0, .int a1), (1, .int a2), (2, .int a3)]) hx hb dX5_joined_177 rfl hl (by decide) rfl (fun ls hl => ?_)
    refine lv_goto (tgt := 186) hx hb dX5_joined_178 (by decide) ?_
    refine lv_ldc2 (v := (-1000000000)) hx hb hown (hts (.constantLong RX5 32 (-1000000000)) (me_s (List.mem_of_getElem? (i := 0) rfl))) dX5_joined_186 ?_
    refine lv_ldc2 (v := 1000000000) hx hb hown (hts (.constantLong RX5 34 (1000000000)) (me_s (List.mem_of_getElem? (i := 1) rfl))) dX5_joined_189 ?_
    refine lv_lload_n hx hb dX5_joined_192 rfl (lv_at hl 0 rfl) ?_
    refine va_mmin_long (x := 1000000000) (y := w3) hx hb (hml.trans hl.1.symm) hown (hts (.methodLink RX5 36 Lib.MathLoose.min_long.x) (me_s (List.mem_of_getElem? (i := 2) rfl))) (hts (.static Lib.MathLoose.min_long.x) (me_s (List.mem_of_getElem? (i := 3) rfl))) (hts (.initialized "java/lang/Math") (me_s (List.mem_of_getElem? (i := 4) rfl))) (hts (.code Lib.MathLoose.min_long.x Lib.MathLoose.min_long.code 4 (some .long)) (me_s (List.mem_of_getElem? (i := 5) rfl))) (Nat.le_of_ble_eq_true rfl) (Nat.le_of_ble_eq_true rfl) (Nat.le_of_ble_eq_true rfl) (Nat.le_of_ble_eq_true rfl) dX5_joined_193 ?_
    refine lv_topl (fun w4 ew4 => ?_)
    have tw4 := z_tlmin ew4 (show (1000000000 : Int64).toInt = 1000000000 by decide) tw3
    refine va_mmax_long (x := (-1000000000)) (y := w4) hx hb (hml.trans hl.1.symm) hown (hts (.methodLink RX5 40 Lib.MathLoose.max_long.x) (me_s (List.mem_of_getElem? (i := 6) rfl))) (hts (.static Lib.MathLoose.max_long.x) (me_s (List.mem_of_getElem? (i := 7) rfl))) (hts (.initialized "java/lang/Math") (me_s (List.mem_of_getElem? (i := 4) rfl))) (hts (.code Lib.MathLoose.max_long.x Lib.MathLoose.max_long.code 4 (some .long)) (me_s (List.mem_of_getElem? (i := 8) rfl))) (Nat.le_of_ble_eq_true rfl) (Nat.le_of_ble_eq_true rfl) (Nat.le_of_ble_eq_true rfl) (Nat.le_of_ble_eq_true rfl) dX5_joined_196 ?_
    refine lv_topl (fun w5 ew5 => ?_)
    have tw5 := z_tlmax ew5 (show ((-1000000000) : Int64).toInt = (-1000000000) by decide) rfl
    refine lv_l2i (v := w5.toInt32) hx hb dX5_joined_199 rfl ?_
    refine lv_topi (fun x6 ex6 => ?_)
    have tx6 : x6.toInt = w5.toInt := z_tl2i ex6 rfl (by omega)
    exact z_iret hx hb hr hK hS (Nat.le_of_ble_eq_true rfl) (Nat.le_of_ble_eq_true rfl) hlocks dX5_joined_200 (shC c, ad, I, JX, PC c ad) hW ⟨rfl, (by rw [zv_jn10 (show a1.toInt = (-10) by rw [‹a1 = (-10)›]; decide) ex2]; exact ((tx6).trans (zv_h tw4 tw5)))⟩
  by_cases q7 : a1 = (-9)
  · refine lv_tableIn (tgt := 159) hx hb dX5_joined_1 (by rw [q7]; decide) (by rw [q7]; decide) (by rw [q7]; rfl) (by decide) ?_
    refine lv_iload_n hx hb dX5_joined_159 rfl (lv_at hl 1 rfl) ?_
    refine lv_iload_n hx hb dX5_joined_160 rfl (lv_at hl 2 rfl) ?_
    refine lv_icmp_ne (tgt := 168) hx hb dX5_joined_161 (by decide) (fun c8 => ?_) (fun c8 => ?_)
    · have g9 := z_f_ne rfl rfl c8
      refine lv_lconst (v := 0) hx hb dX5_joined_168 (by decide) ?_
      refine lv_lstore_n (lv' := [(3, .long 0), (0, .int a1), (1, .int a2), (2, .int a3)]) hx hb dX5_joined_169 rfl hl (by decide) rfl (fun ls hl => ?_)
      refine lv_goto (tgt := 186) hx hb dX5_joined_170 (by decide) ?_
      refine lv_ldc2 (v := (-1000000000)) hx hb hown (hts (.constantLong RX5 32 (-1000000000)) (me_s (List.mem_of_getElem? (i := 0) rfl))) dX5_joined_186 ?_
      refine lv_ldc2 (v := 1000000000) hx hb hown (hts (.constantLong RX5 34 (1000000000)) (me_s (List.mem_of_getElem? (i := 1) rfl))) dX5_joined_189 ?_
      refine lv_lload_n hx hb dX5_joined_192 rfl (lv_at hl 0 rfl) ?_
      refine va_mmin_long (x := 1000000000) (y := 0) hx hb (hml.trans hl.1.symm) hown (hts (.methodLink RX5 36 Lib.MathLoose.min_long.x) (me_s (List.mem_of_getElem? (i := 2) rfl))) (hts (.static Lib.MathLoose.min_long.x) (me_s (List.mem_of_getElem? (i := 3) rfl))) (hts (.initialized "java/lang/Math") (me_s (List.mem_of_getElem? (i := 4) rfl))) (hts (.code Lib.MathLoose.min_long.x Lib.MathLoose.min_long.code 4 (some .long)) (me_s (List.mem_of_getElem? (i := 5) rfl))) (Nat.le_of_ble_eq_true rfl) (Nat.le_of_ble_eq_true rfl) (Nat.le_of_ble_eq_true rfl) (Nat.le_of_ble_eq_true rfl) dX5_joined_193 ?_
      refine lv_topl (fun w10 ew10 => ?_)
      have tw10 := z_tlmin ew10 (show (1000000000 : Int64).toInt = 1000000000 by decide) (show (0 : Int64).toInt = 0 by decide)
      refine va_mmax_long (x := (-1000000000)) (y := w10) hx hb (hml.trans hl.1.symm) hown (hts (.methodLink RX5 40 Lib.MathLoose.max_long.x) (me_s (List.mem_of_getElem? (i := 6) rfl))) (hts (.static Lib.MathLoose.max_long.x) (me_s (List.mem_of_getElem? (i := 7) rfl))) (hts (.initialized "java/lang/Math") (me_s (List.mem_of_getElem? (i := 4) rfl))) (hts (.code Lib.MathLoose.max_long.x Lib.MathLoose.max_long.code 4 (some .long)) (me_s (List.mem_of_getElem? (i := 8) rfl))) (Nat.le_of_ble_eq_true rfl) (Nat.le_of_ble_eq_true rfl) (Nat.le_of_ble_eq_true rfl) (Nat.le_of_ble_eq_true rfl) dX5_joined_196 ?_
      refine lv_topl (fun w11 ew11 => ?_)
      have tw11 := z_tlmax ew11 (show ((-1000000000) : Int64).toInt = (-1000000000) by decide) rfl
      refine lv_l2i (v := w11.toInt32) hx hb dX5_joined_199 rfl ?_
      refine lv_topi (fun x12 ex12 => ?_)
      have tx12 : x12.toInt = w11.toInt := z_tl2i ex12 rfl (by omega)
      exact z_iret hx hb hr hK hS (Nat.le_of_ble_eq_true rfl) (Nat.le_of_ble_eq_true rfl) hlocks dX5_joined_200 (shC c, ad, I, JX, PC c ad) hW ⟨rfl, (by first | (rw [zv_jn9 (show a1.toInt = (-9) by rw [‹a1 = (-9)›]; decide) (by omega)]; exact ((tx12).trans (zv_h tw10 tw11))) | (rw [zv_jn9n (show a1.toInt = (-9) by rw [‹a1 = (-9)›]; decide) (by omega)]; exact ((tx12).trans (zv_h tw10 tw11))))⟩
    · have g13 := z_f_eq rfl rfl c8
      refine lv_lconst (v := 1) hx hb dX5_joined_164 (by decide) ?_
      refine lv_goto (tgt := 169) hx hb dX5_joined_165 (by decide) ?_
      refine lv_lstore_n (lv' := [(3, .long 1), (0, .int a1), (1, .int a2), (2, .int a3)]) hx hb dX5_joined_169 rfl hl (by decide) rfl (fun ls hl => ?_)
      refine lv_goto (tgt := 186) hx hb dX5_joined_170 (by decide) ?_
      refine lv_ldc2 (v := (-1000000000)) hx hb hown (hts (.constantLong RX5 32 (-1000000000)) (me_s (List.mem_of_getElem? (i := 0) rfl))) dX5_joined_186 ?_
      refine lv_ldc2 (v := 1000000000) hx hb hown (hts (.constantLong RX5 34 (1000000000)) (me_s (List.mem_of_getElem? (i := 1) rfl))) dX5_joined_189 ?_
      refine lv_lload_n hx hb dX5_joined_192 rfl (lv_at hl 0 rfl) ?_
      refine va_mmin_long (x := 1000000000) (y := 1) hx hb (hml.trans hl.1.symm) hown (hts (.methodLink RX5 36 Lib.MathLoose.min_long.x) (me_s (List.mem_of_getElem? (i := 2) rfl))) (hts (.static Lib.MathLoose.min_long.x) (me_s (List.mem_of_getElem? (i := 3) rfl))) (hts (.initialized "java/lang/Math") (me_s (List.mem_of_getElem? (i := 4) rfl))) (hts (.code Lib.MathLoose.min_long.x Lib.MathLoose.min_long.code 4 (some .long)) (me_s (List.mem_of_getElem? (i := 5) rfl))) (Nat.le_of_ble_eq_true rfl) (Nat.le_of_ble_eq_true rfl) (Nat.le_of_ble_eq_true rfl) (Nat.le_of_ble_eq_true rfl) dX5_joined_193 ?_
      refine lv_topl (fun w14 ew14 => ?_)
      have tw14 := z_tlmin ew14 (show (1000000000 : Int64).toInt = 1000000000 by decide) (show (1 : Int64).toInt = 1 by decide)
      refine va_mmax_long (x := (-1000000000)) (y := w14) hx hb (hml.trans hl.1.symm) hown (hts (.methodLink RX5 40 Lib.MathLoose.max_long.x) (me_s (List.mem_of_getElem? (i := 6) rfl))) (hts (.static Lib.MathLoose.max_long.x) (me_s (List.mem_of_getElem? (i := 7) rfl))) (hts (.initialized "java/lang/Math") (me_s (List.mem_of_getElem? (i := 4) rfl))) (hts (.code Lib.MathLoose.max_long.x Lib.MathLoose.max_long.code 4 (some .long)) (me_s (List.mem_of_getElem? (i := 8) rfl))) (Nat.le_of_ble_eq_true rfl) (Nat.le_of_ble_eq_true rfl) (Nat.le_of_ble_eq_true rfl) (Nat.le_of_ble_eq_true rfl) dX5_joined_196 ?_
      refine lv_topl (fun w15 ew15 => ?_)
      have tw15 := z_tlmax ew15 (show ((-1000000000) : Int64).toInt = (-1000000000) by decide) rfl
      refine lv_l2i (v := w15.toInt32) hx hb dX5_joined_199 rfl ?_
      refine lv_topi (fun x16 ex16 => ?_)
      have tx16 : x16.toInt = w15.toInt := z_tl2i ex16 rfl (by omega)
      exact z_iret hx hb hr hK hS (Nat.le_of_ble_eq_true rfl) (Nat.le_of_ble_eq_true rfl) hlocks dX5_joined_200 (shC c, ad, I, JX, PC c ad) hW ⟨rfl, (by first | (rw [zv_jn9 (show a1.toInt = (-9) by rw [‹a1 = (-9)›]; decide) (by omega)]; exact ((tx16).trans (zv_h tw14 tw15))) | (rw [zv_jn9n (show a1.toInt = (-9) by rw [‹a1 = (-9)›]; decide) (by omega)]; exact ((tx16).trans (zv_h tw14 tw15))))⟩
  by_cases q17 : a1 = (-8)
  · refine lv_tableIn (tgt := 145) hx hb dX5_joined_1 (by rw [q17]; decide) (by rw [q17]; decide) (by rw [q17]; rfl) (by decide) ?_
    refine lv_iload_n hx hb dX5_joined_145 rfl (lv_at hl 1 rfl) ?_
    refine lv_iload_n hx hb dX5_joined_146 rfl (lv_at hl 2 rfl) ?_
    refine lv_icmp_le (tgt := 154) hx hb dX5_joined_147 (by decide) (fun c18 => ?_) (fun c18 => ?_)
    · have g19 := z_f_le rfl rfl c18
      refine lv_lconst (v := 0) hx hb dX5_joined_154 (by decide) ?_
      refine lv_lstore_n (lv' := [(3, .long 0), (0, .int a1), (1, .int a2), (2, .int a3)]) hx hb dX5_joined_155 rfl hl (by decide) rfl (fun ls hl => ?_)
      refine lv_goto (tgt := 186) hx hb dX5_joined_156 (by decide) ?_
      refine lv_ldc2 (v := (-1000000000)) hx hb hown (hts (.constantLong RX5 32 (-1000000000)) (me_s (List.mem_of_getElem? (i := 0) rfl))) dX5_joined_186 ?_
      refine lv_ldc2 (v := 1000000000) hx hb hown (hts (.constantLong RX5 34 (1000000000)) (me_s (List.mem_of_getElem? (i := 1) rfl))) dX5_joined_189 ?_
      refine lv_lload_n hx hb dX5_joined_192 rfl (lv_at hl 0 rfl) ?_
      refine va_mmin_long (x := 1000000000) (y := 0) hx hb (hml.trans hl.1.symm) hown (hts (.methodLink RX5 36 Lib.MathLoose.min_long.x) (me_s (List.mem_of_getElem? (i := 2) rfl))) (hts (.static Lib.MathLoose.min_long.x) (me_s (List.mem_of_getElem? (i := 3) rfl))) (hts (.initialized "java/lang/Math") (me_s (List.mem_of_getElem? (i := 4) rfl))) (hts (.code Lib.MathLoose.min_long.x Lib.MathLoose.min_long.code 4 (some .long)) (me_s (List.mem_of_getElem? (i := 5) rfl))) (Nat.le_of_ble_eq_true rfl) (Nat.le_of_ble_eq_true rfl) (Nat.le_of_ble_eq_true rfl) (Nat.le_of_ble_eq_true rfl) dX5_joined_193 ?_
      refine lv_topl (fun w20 ew20 => ?_)
      have tw20 := z_tlmin ew20 (show (1000000000 : Int64).toInt = 1000000000 by decide) (show (0 : Int64).toInt = 0 by decide)
      refine va_mmax_long (x := (-1000000000)) (y := w20) hx hb (hml.trans hl.1.symm) hown (hts (.methodLink RX5 40 Lib.MathLoose.max_long.x) (me_s (List.mem_of_getElem? (i := 6) rfl))) (hts (.static Lib.MathLoose.max_long.x) (me_s (List.mem_of_getElem? (i := 7) rfl))) (hts (.initialized "java/lang/Math") (me_s (List.mem_of_getElem? (i := 4) rfl))) (hts (.code Lib.MathLoose.max_long.x Lib.MathLoose.max_long.code 4 (some .long)) (me_s (List.mem_of_getElem? (i := 8) rfl))) (Nat.le_of_ble_eq_true rfl) (Nat.le_of_ble_eq_true rfl) (Nat.le_of_ble_eq_true rfl) (Nat.le_of_ble_eq_true rfl) dX5_joined_196 ?_
      refine lv_topl (fun w21 ew21 => ?_)
      have tw21 := z_tlmax ew21 (show ((-1000000000) : Int64).toInt = (-1000000000) by decide) rfl
      refine lv_l2i (v := w21.toInt32) hx hb dX5_joined_199 rfl ?_
      refine lv_topi (fun x22 ex22 => ?_)
      have tx22 : x22.toInt = w21.toInt := z_tl2i ex22 rfl (by omega)
      exact z_iret hx hb hr hK hS (Nat.le_of_ble_eq_true rfl) (Nat.le_of_ble_eq_true rfl) hlocks dX5_joined_200 (shC c, ad, I, JX, PC c ad) hW ⟨rfl, (by first | (rw [zv_jn8 (show a1.toInt = (-8) by rw [‹a1 = (-8)›]; decide) (by omega)]; exact ((tx22).trans (zv_h tw20 tw21))) | (rw [zv_jn8n (show a1.toInt = (-8) by rw [‹a1 = (-8)›]; decide) (by omega)]; exact ((tx22).trans (zv_h tw20 tw21))))⟩
    · have g23 := z_f_nle rfl rfl c18
      refine lv_lconst (v := 1) hx hb dX5_joined_150 (by decide) ?_
      refine lv_goto (tgt := 155) hx hb dX5_joined_151 (by decide) ?_
      refine lv_lstore_n (lv' := [(3, .long 1), (0, .int a1), (1, .int a2), (2, .int a3)]) hx hb dX5_joined_155 rfl hl (by decide) rfl (fun ls hl => ?_)
      refine lv_goto (tgt := 186) hx hb dX5_joined_156 (by decide) ?_
      refine lv_ldc2 (v := (-1000000000)) hx hb hown (hts (.constantLong RX5 32 (-1000000000)) (me_s (List.mem_of_getElem? (i := 0) rfl))) dX5_joined_186 ?_
      refine lv_ldc2 (v := 1000000000) hx hb hown (hts (.constantLong RX5 34 (1000000000)) (me_s (List.mem_of_getElem? (i := 1) rfl))) dX5_joined_189 ?_
      refine lv_lload_n hx hb dX5_joined_192 rfl (lv_at hl 0 rfl) ?_
      refine va_mmin_long (x := 1000000000) (y := 1) hx hb (hml.trans hl.1.symm) hown (hts (.methodLink RX5 36 Lib.MathLoose.min_long.x) (me_s (List.mem_of_getElem? (i := 2) rfl))) (hts (.static Lib.MathLoose.min_long.x) (me_s (List.mem_of_getElem? (i := 3) rfl))) (hts (.initialized "java/lang/Math") (me_s (List.mem_of_getElem? (i := 4) rfl))) (hts (.code Lib.MathLoose.min_long.x Lib.MathLoose.min_long.code 4 (some .long)) (me_s (List.mem_of_getElem? (i := 5) rfl))) (Nat.le_of_ble_eq_true rfl) (Nat.le_of_ble_eq_true rfl) (Nat.le_of_ble_eq_true rfl) (Nat.le_of_ble_eq_true rfl) dX5_joined_193 ?_
      refine lv_topl (fun w24 ew24 => ?_)
      have tw24 := z_tlmin ew24 (show (1000000000 : Int64).toInt = 1000000000 by decide) (show (1 : Int64).toInt = 1 by decide)
      refine va_mmax_long (x := (-1000000000)) (y := w24) hx hb (hml.trans hl.1.symm) hown (hts (.methodLink RX5 40 Lib.MathLoose.max_long.x) (me_s (List.mem_of_getElem? (i := 6) rfl))) (hts (.static Lib.MathLoose.max_long.x) (me_s (List.mem_of_getElem? (i := 7) rfl))) (hts (.initialized "java/lang/Math") (me_s (List.mem_of_getElem? (i := 4) rfl))) (hts (.code Lib.MathLoose.max_long.x Lib.MathLoose.max_long.code 4 (some .long)) (me_s (List.mem_of_getElem? (i := 8) rfl))) (Nat.le_of_ble_eq_true rfl) (Nat.le_of_ble_eq_true rfl) (Nat.le_of_ble_eq_true rfl) (Nat.le_of_ble_eq_true rfl) dX5_joined_196 ?_
      refine lv_topl (fun w25 ew25 => ?_)
      have tw25 := z_tlmax ew25 (show ((-1000000000) : Int64).toInt = (-1000000000) by decide) rfl
      refine lv_l2i (v := w25.toInt32) hx hb dX5_joined_199 rfl ?_
      refine lv_topi (fun x26 ex26 => ?_)
      have tx26 : x26.toInt = w25.toInt := z_tl2i ex26 rfl (by omega)
      exact z_iret hx hb hr hK hS (Nat.le_of_ble_eq_true rfl) (Nat.le_of_ble_eq_true rfl) hlocks dX5_joined_200 (shC c, ad, I, JX, PC c ad) hW ⟨rfl, (by first | (rw [zv_jn8 (show a1.toInt = (-8) by rw [‹a1 = (-8)›]; decide) (by omega)]; exact ((tx26).trans (zv_h tw24 tw25))) | (rw [zv_jn8n (show a1.toInt = (-8) by rw [‹a1 = (-8)›]; decide) (by omega)]; exact ((tx26).trans (zv_h tw24 tw25))))⟩
  by_cases q27 : a1 = (-7)
  · refine lv_tableIn (tgt := 131) hx hb dX5_joined_1 (by rw [q27]; decide) (by rw [q27]; decide) (by rw [q27]; rfl) (by decide) ?_
    refine lv_iload_n hx hb dX5_joined_131 rfl (lv_at hl 1 rfl) ?_
    refine lv_iload_n hx hb dX5_joined_132 rfl (lv_at hl 2 rfl) ?_
    refine lv_icmp_ge (tgt := 140) hx hb dX5_joined_133 (by decide) (fun c28 => ?_) (fun c28 => ?_)
    · have g29 := z_f_ge rfl rfl c28
      refine lv_lconst (v := 0) hx hb dX5_joined_140 (by decide) ?_
      refine lv_lstore_n (lv' := [(3, .long 0), (0, .int a1), (1, .int a2), (2, .int a3)]) hx hb dX5_joined_141 rfl hl (by decide) rfl (fun ls hl => ?_)
      refine lv_goto (tgt := 186) hx hb dX5_joined_142 (by decide) ?_
      refine lv_ldc2 (v := (-1000000000)) hx hb hown (hts (.constantLong RX5 32 (-1000000000)) (me_s (List.mem_of_getElem? (i := 0) rfl))) dX5_joined_186 ?_
      refine lv_ldc2 (v := 1000000000) hx hb hown (hts (.constantLong RX5 34 (1000000000)) (me_s (List.mem_of_getElem? (i := 1) rfl))) dX5_joined_189 ?_
      refine lv_lload_n hx hb dX5_joined_192 rfl (lv_at hl 0 rfl) ?_
      refine va_mmin_long (x := 1000000000) (y := 0) hx hb (hml.trans hl.1.symm) hown (hts (.methodLink RX5 36 Lib.MathLoose.min_long.x) (me_s (List.mem_of_getElem? (i := 2) rfl))) (hts (.static Lib.MathLoose.min_long.x) (me_s (List.mem_of_getElem? (i := 3) rfl))) (hts (.initialized "java/lang/Math") (me_s (List.mem_of_getElem? (i := 4) rfl))) (hts (.code Lib.MathLoose.min_long.x Lib.MathLoose.min_long.code 4 (some .long)) (me_s (List.mem_of_getElem? (i := 5) rfl))) (Nat.le_of_ble_eq_true rfl) (Nat.le_of_ble_eq_true rfl) (Nat.le_of_ble_eq_true rfl) (Nat.le_of_ble_eq_true rfl) dX5_joined_193 ?_
      refine lv_topl (fun w30 ew30 => ?_)
      have tw30 := z_tlmin ew30 (show (1000000000 : Int64).toInt = 1000000000 by decide) (show (0 : Int64).toInt = 0 by decide)
      refine va_mmax_long (x := (-1000000000)) (y := w30) hx hb (hml.trans hl.1.symm) hown (hts (.methodLink RX5 40 Lib.MathLoose.max_long.x) (me_s (List.mem_of_getElem? (i := 6) rfl))) (hts (.static Lib.MathLoose.max_long.x) (me_s (List.mem_of_getElem? (i := 7) rfl))) (hts (.initialized "java/lang/Math") (me_s (List.mem_of_getElem? (i := 4) rfl))) (hts (.code Lib.MathLoose.max_long.x Lib.MathLoose.max_long.code 4 (some .long)) (me_s (List.mem_of_getElem? (i := 8) rfl))) (Nat.le_of_ble_eq_true rfl) (Nat.le_of_ble_eq_true rfl) (Nat.le_of_ble_eq_true rfl) (Nat.le_of_ble_eq_true rfl) dX5_joined_196 ?_
      refine lv_topl (fun w31 ew31 => ?_)
      have tw31 := z_tlmax ew31 (show ((-1000000000) : Int64).toInt = (-1000000000) by decide) rfl
      refine lv_l2i (v := w31.toInt32) hx hb dX5_joined_199 rfl ?_
      refine lv_topi (fun x32 ex32 => ?_)
      have tx32 : x32.toInt = w31.toInt := z_tl2i ex32 rfl (by omega)
      exact z_iret hx hb hr hK hS (Nat.le_of_ble_eq_true rfl) (Nat.le_of_ble_eq_true rfl) hlocks dX5_joined_200 (shC c, ad, I, JX, PC c ad) hW ⟨rfl, (by first | (rw [zv_jn7 (show a1.toInt = (-7) by rw [‹a1 = (-7)›]; decide) (by omega)]; exact ((tx32).trans (zv_h tw30 tw31))) | (rw [zv_jn7n (show a1.toInt = (-7) by rw [‹a1 = (-7)›]; decide) (by omega)]; exact ((tx32).trans (zv_h tw30 tw31))))⟩
    · have g33 := z_f_nge rfl rfl c28
      refine lv_lconst (v := 1) hx hb dX5_joined_136 (by decide) ?_
      refine lv_goto (tgt := 141) hx hb dX5_joined_137 (by decide) ?_
      refine lv_lstore_n (lv' := [(3, .long 1), (0, .int a1), (1, .int a2), (2, .int a3)]) hx hb dX5_joined_141 rfl hl (by decide) rfl (fun ls hl => ?_)
      refine lv_goto (tgt := 186) hx hb dX5_joined_142 (by decide) ?_
      refine lv_ldc2 (v := (-1000000000)) hx hb hown (hts (.constantLong RX5 32 (-1000000000)) (me_s (List.mem_of_getElem? (i := 0) rfl))) dX5_joined_186 ?_
      refine lv_ldc2 (v := 1000000000) hx hb hown (hts (.constantLong RX5 34 (1000000000)) (me_s (List.mem_of_getElem? (i := 1) rfl))) dX5_joined_189 ?_
      refine lv_lload_n hx hb dX5_joined_192 rfl (lv_at hl 0 rfl) ?_
      refine va_mmin_long (x := 1000000000) (y := 1) hx hb (hml.trans hl.1.symm) hown (hts (.methodLink RX5 36 Lib.MathLoose.min_long.x) (me_s (List.mem_of_getElem? (i := 2) rfl))) (hts (.static Lib.MathLoose.min_long.x) (me_s (List.mem_of_getElem? (i := 3) rfl))) (hts (.initialized "java/lang/Math") (me_s (List.mem_of_getElem? (i := 4) rfl))) (hts (.code Lib.MathLoose.min_long.x Lib.MathLoose.min_long.code 4 (some .long)) (me_s (List.mem_of_getElem? (i := 5) rfl))) (Nat.le_of_ble_eq_true rfl) (Nat.le_of_ble_eq_true rfl) (Nat.le_of_ble_eq_true rfl) (Nat.le_of_ble_eq_true rfl) dX5_joined_193 ?_
      refine lv_topl (fun w34 ew34 => ?_)
      have tw34 := z_tlmin ew34 (show (1000000000 : Int64).toInt = 1000000000 by decide) (show (1 : Int64).toInt = 1 by decide)
      refine va_mmax_long (x := (-1000000000)) (y := w34) hx hb (hml.trans hl.1.symm) hown (hts (.methodLink RX5 40 Lib.MathLoose.max_long.x) (me_s (List.mem_of_getElem? (i := 6) rfl))) (hts (.static Lib.MathLoose.max_long.x) (me_s (List.mem_of_getElem? (i := 7) rfl))) (hts (.initialized "java/lang/Math") (me_s (List.mem_of_getElem? (i := 4) rfl))) (hts (.code Lib.MathLoose.max_long.x Lib.MathLoose.max_long.code 4 (some .long)) (me_s (List.mem_of_getElem? (i := 8) rfl))) (Nat.le_of_ble_eq_true rfl) (Nat.le_of_ble_eq_true rfl) (Nat.le_of_ble_eq_true rfl) (Nat.le_of_ble_eq_true rfl) dX5_joined_196 ?_
      refine lv_topl (fun w35 ew35 => ?_)
      have tw35 := z_tlmax ew35 (show ((-1000000000) : Int64).toInt = (-1000000000) by decide) rfl
      refine lv_l2i (v := w35.toInt32) hx hb dX5_joined_199 rfl ?_
      refine lv_topi (fun x36 ex36 => ?_)
      have tx36 : x36.toInt = w35.toInt := z_tl2i ex36 rfl (by omega)
      exact z_iret hx hb hr hK hS (Nat.le_of_ble_eq_true rfl) (Nat.le_of_ble_eq_true rfl) hlocks dX5_joined_200 (shC c, ad, I, JX, PC c ad) hW ⟨rfl, (by first | (rw [zv_jn7 (show a1.toInt = (-7) by rw [‹a1 = (-7)›]; decide) (by omega)]; exact ((tx36).trans (zv_h tw34 tw35))) | (rw [zv_jn7n (show a1.toInt = (-7) by rw [‹a1 = (-7)›]; decide) (by omega)]; exact ((tx36).trans (zv_h tw34 tw35))))⟩
  by_cases q37 : a1 = (-6)
  · refine lv_tableIn (tgt := 115) hx hb dX5_joined_1 (by rw [q37]; decide) (by rw [q37]; decide) (by rw [q37]; rfl) (by decide) ?_
    refine lv_iload_n hx hb dX5_joined_115 rfl (lv_at hl 1 rfl) ?_
    refine lv_iload_n hx hb dX5_joined_116 rfl (lv_at hl 2 rfl) ?_
    refine lv_icmp_le (tgt := 125) hx hb dX5_joined_117 (by decide) (fun c38 => ?_) (fun c38 => ?_)
    · have g39 := z_f_le rfl rfl c38
      refine lv_iload_n hx hb dX5_joined_125 rfl (lv_at hl 2 rfl) ?_
      refine lv_i2l (v := a3.toInt64) hx hb dX5_joined_126 rfl ?_
      refine lv_topl (fun w40 ew40 => ?_)
      have tw40 : w40.toInt = a3.toInt := z_ti2l ew40 rfl
      refine lv_lstore_n (lv' := [(3, .long w40), (0, .int a1), (1, .int a2), (2, .int a3)]) hx hb dX5_joined_127 rfl hl (by decide) rfl (fun ls hl => ?_)
      refine lv_goto (tgt := 186) hx hb dX5_joined_128 (by decide) ?_
      refine lv_ldc2 (v := (-1000000000)) hx hb hown (hts (.constantLong RX5 32 (-1000000000)) (me_s (List.mem_of_getElem? (i := 0) rfl))) dX5_joined_186 ?_
      refine lv_ldc2 (v := 1000000000) hx hb hown (hts (.constantLong RX5 34 (1000000000)) (me_s (List.mem_of_getElem? (i := 1) rfl))) dX5_joined_189 ?_
      refine lv_lload_n hx hb dX5_joined_192 rfl (lv_at hl 0 rfl) ?_
      refine va_mmin_long (x := 1000000000) (y := w40) hx hb (hml.trans hl.1.symm) hown (hts (.methodLink RX5 36 Lib.MathLoose.min_long.x) (me_s (List.mem_of_getElem? (i := 2) rfl))) (hts (.static Lib.MathLoose.min_long.x) (me_s (List.mem_of_getElem? (i := 3) rfl))) (hts (.initialized "java/lang/Math") (me_s (List.mem_of_getElem? (i := 4) rfl))) (hts (.code Lib.MathLoose.min_long.x Lib.MathLoose.min_long.code 4 (some .long)) (me_s (List.mem_of_getElem? (i := 5) rfl))) (Nat.le_of_ble_eq_true rfl) (Nat.le_of_ble_eq_true rfl) (Nat.le_of_ble_eq_true rfl) (Nat.le_of_ble_eq_true rfl) dX5_joined_193 ?_
      refine lv_topl (fun w41 ew41 => ?_)
      have tw41 := z_tlmin ew41 (show (1000000000 : Int64).toInt = 1000000000 by decide) tw40
      refine va_mmax_long (x := (-1000000000)) (y := w41) hx hb (hml.trans hl.1.symm) hown (hts (.methodLink RX5 40 Lib.MathLoose.max_long.x) (me_s (List.mem_of_getElem? (i := 6) rfl))) (hts (.static Lib.MathLoose.max_long.x) (me_s (List.mem_of_getElem? (i := 7) rfl))) (hts (.initialized "java/lang/Math") (me_s (List.mem_of_getElem? (i := 4) rfl))) (hts (.code Lib.MathLoose.max_long.x Lib.MathLoose.max_long.code 4 (some .long)) (me_s (List.mem_of_getElem? (i := 8) rfl))) (Nat.le_of_ble_eq_true rfl) (Nat.le_of_ble_eq_true rfl) (Nat.le_of_ble_eq_true rfl) (Nat.le_of_ble_eq_true rfl) dX5_joined_196 ?_
      refine lv_topl (fun w42 ew42 => ?_)
      have tw42 := z_tlmax ew42 (show ((-1000000000) : Int64).toInt = (-1000000000) by decide) rfl
      refine lv_l2i (v := w42.toInt32) hx hb dX5_joined_199 rfl ?_
      refine lv_topi (fun x43 ex43 => ?_)
      have tx43 : x43.toInt = w42.toInt := z_tl2i ex43 rfl (by omega)
      exact z_iret hx hb hr hK hS (Nat.le_of_ble_eq_true rfl) (Nat.le_of_ble_eq_true rfl) hlocks dX5_joined_200 (shC c, ad, I, JX, PC c ad) hW ⟨rfl, (by first | (rw [zv_jn6 (show a1.toInt = (-6) by rw [‹a1 = (-6)›]; decide) (by omega)]; exact ((tx43).trans (zv_h tw41 tw42))) | (rw [zv_jn6n (show a1.toInt = (-6) by rw [‹a1 = (-6)›]; decide) (by omega)]; exact ((tx43).trans (zv_h tw41 tw42))))⟩
    · have g44 := z_f_nle rfl rfl c38
      refine lv_iload_n hx hb dX5_joined_120 rfl (lv_at hl 1 rfl) ?_
      refine lv_i2l (v := a2.toInt64) hx hb dX5_joined_121 rfl ?_
      refine lv_topl (fun w45 ew45 => ?_)
      have tw45 : w45.toInt = a2.toInt := z_ti2l ew45 rfl
      refine lv_goto (tgt := 127) hx hb dX5_joined_122 (by decide) ?_
      refine lv_lstore_n (lv' := [(3, .long w45), (0, .int a1), (1, .int a2), (2, .int a3)]) hx hb dX5_joined_127 rfl hl (by decide) rfl (fun ls hl => ?_)
      refine lv_goto (tgt := 186) hx hb dX5_joined_128 (by decide) ?_
      refine lv_ldc2 (v := (-1000000000)) hx hb hown (hts (.constantLong RX5 32 (-1000000000)) (me_s (List.mem_of_getElem? (i := 0) rfl))) dX5_joined_186 ?_
      refine lv_ldc2 (v := 1000000000) hx hb hown (hts (.constantLong RX5 34 (1000000000)) (me_s (List.mem_of_getElem? (i := 1) rfl))) dX5_joined_189 ?_
      refine lv_lload_n hx hb dX5_joined_192 rfl (lv_at hl 0 rfl) ?_
      refine va_mmin_long (x := 1000000000) (y := w45) hx hb (hml.trans hl.1.symm) hown (hts (.methodLink RX5 36 Lib.MathLoose.min_long.x) (me_s (List.mem_of_getElem? (i := 2) rfl))) (hts (.static Lib.MathLoose.min_long.x) (me_s (List.mem_of_getElem? (i := 3) rfl))) (hts (.initialized "java/lang/Math") (me_s (List.mem_of_getElem? (i := 4) rfl))) (hts (.code Lib.MathLoose.min_long.x Lib.MathLoose.min_long.code 4 (some .long)) (me_s (List.mem_of_getElem? (i := 5) rfl))) (Nat.le_of_ble_eq_true rfl) (Nat.le_of_ble_eq_true rfl) (Nat.le_of_ble_eq_true rfl) (Nat.le_of_ble_eq_true rfl) dX5_joined_193 ?_
      refine lv_topl (fun w46 ew46 => ?_)
      have tw46 := z_tlmin ew46 (show (1000000000 : Int64).toInt = 1000000000 by decide) tw45
      refine va_mmax_long (x := (-1000000000)) (y := w46) hx hb (hml.trans hl.1.symm) hown (hts (.methodLink RX5 40 Lib.MathLoose.max_long.x) (me_s (List.mem_of_getElem? (i := 6) rfl))) (hts (.static Lib.MathLoose.max_long.x) (me_s (List.mem_of_getElem? (i := 7) rfl))) (hts (.initialized "java/lang/Math") (me_s (List.mem_of_getElem? (i := 4) rfl))) (hts (.code Lib.MathLoose.max_long.x Lib.MathLoose.max_long.code 4 (some .long)) (me_s (List.mem_of_getElem? (i := 8) rfl))) (Nat.le_of_ble_eq_true rfl) (Nat.le_of_ble_eq_true rfl) (Nat.le_of_ble_eq_true rfl) (Nat.le_of_ble_eq_true rfl) dX5_joined_196 ?_
      refine lv_topl (fun w47 ew47 => ?_)
      have tw47 := z_tlmax ew47 (show ((-1000000000) : Int64).toInt = (-1000000000) by decide) rfl
      refine lv_l2i (v := w47.toInt32) hx hb dX5_joined_199 rfl ?_
      refine lv_topi (fun x48 ex48 => ?_)
      have tx48 : x48.toInt = w47.toInt := z_tl2i ex48 rfl (by omega)
      exact z_iret hx hb hr hK hS (Nat.le_of_ble_eq_true rfl) (Nat.le_of_ble_eq_true rfl) hlocks dX5_joined_200 (shC c, ad, I, JX, PC c ad) hW ⟨rfl, (by first | (rw [zv_jn6 (show a1.toInt = (-6) by rw [‹a1 = (-6)›]; decide) (by omega)]; exact ((tx48).trans (zv_h tw46 tw47))) | (rw [zv_jn6n (show a1.toInt = (-6) by rw [‹a1 = (-6)›]; decide) (by omega)]; exact ((tx48).trans (zv_h tw46 tw47))))⟩
  by_cases q49 : a1 = (-5)
  · refine lv_tableIn (tgt := 99) hx hb dX5_joined_1 (by rw [q49]; decide) (by rw [q49]; decide) (by rw [q49]; rfl) (by decide) ?_
    refine lv_iload_n hx hb dX5_joined_99 rfl (lv_at hl 1 rfl) ?_
    refine lv_iload_n hx hb dX5_joined_100 rfl (lv_at hl 2 rfl) ?_
    refine lv_icmp_ge (tgt := 109) hx hb dX5_joined_101 (by decide) (fun c50 => ?_) (fun c50 => ?_)
    · have g51 := z_f_ge rfl rfl c50
      refine lv_iload_n hx hb dX5_joined_109 rfl (lv_at hl 2 rfl) ?_
      refine lv_i2l (v := a3.toInt64) hx hb dX5_joined_110 rfl ?_
      refine lv_topl (fun w52 ew52 => ?_)
      have tw52 : w52.toInt = a3.toInt := z_ti2l ew52 rfl
      refine lv_lstore_n (lv' := [(3, .long w52), (0, .int a1), (1, .int a2), (2, .int a3)]) hx hb dX5_joined_111 rfl hl (by decide) rfl (fun ls hl => ?_)
      refine lv_goto (tgt := 186) hx hb dX5_joined_112 (by decide) ?_
      refine lv_ldc2 (v := (-1000000000)) hx hb hown (hts (.constantLong RX5 32 (-1000000000)) (me_s (List.mem_of_getElem? (i := 0) rfl))) dX5_joined_186 ?_
      refine lv_ldc2 (v := 1000000000) hx hb hown (hts (.constantLong RX5 34 (1000000000)) (me_s (List.mem_of_getElem? (i := 1) rfl))) dX5_joined_189 ?_
      refine lv_lload_n hx hb dX5_joined_192 rfl (lv_at hl 0 rfl) ?_
      refine va_mmin_long (x := 1000000000) (y := w52) hx hb (hml.trans hl.1.symm) hown (hts (.methodLink RX5 36 Lib.MathLoose.min_long.x) (me_s (List.mem_of_getElem? (i := 2) rfl))) (hts (.static Lib.MathLoose.min_long.x) (me_s (List.mem_of_getElem? (i := 3) rfl))) (hts (.initialized "java/lang/Math") (me_s (List.mem_of_getElem? (i := 4) rfl))) (hts (.code Lib.MathLoose.min_long.x Lib.MathLoose.min_long.code 4 (some .long)) (me_s (List.mem_of_getElem? (i := 5) rfl))) (Nat.le_of_ble_eq_true rfl) (Nat.le_of_ble_eq_true rfl) (Nat.le_of_ble_eq_true rfl) (Nat.le_of_ble_eq_true rfl) dX5_joined_193 ?_
      refine lv_topl (fun w53 ew53 => ?_)
      have tw53 := z_tlmin ew53 (show (1000000000 : Int64).toInt = 1000000000 by decide) tw52
      refine va_mmax_long (x := (-1000000000)) (y := w53) hx hb (hml.trans hl.1.symm) hown (hts (.methodLink RX5 40 Lib.MathLoose.max_long.x) (me_s (List.mem_of_getElem? (i := 6) rfl))) (hts (.static Lib.MathLoose.max_long.x) (me_s (List.mem_of_getElem? (i := 7) rfl))) (hts (.initialized "java/lang/Math") (me_s (List.mem_of_getElem? (i := 4) rfl))) (hts (.code Lib.MathLoose.max_long.x Lib.MathLoose.max_long.code 4 (some .long)) (me_s (List.mem_of_getElem? (i := 8) rfl))) (Nat.le_of_ble_eq_true rfl) (Nat.le_of_ble_eq_true rfl) (Nat.le_of_ble_eq_true rfl) (Nat.le_of_ble_eq_true rfl) dX5_joined_196 ?_
      refine lv_topl (fun w54 ew54 => ?_)
      have tw54 := z_tlmax ew54 (show ((-1000000000) : Int64).toInt = (-1000000000) by decide) rfl
      refine lv_l2i (v := w54.toInt32) hx hb dX5_joined_199 rfl ?_
      refine lv_topi (fun x55 ex55 => ?_)
      have tx55 : x55.toInt = w54.toInt := z_tl2i ex55 rfl (by omega)
      exact z_iret hx hb hr hK hS (Nat.le_of_ble_eq_true rfl) (Nat.le_of_ble_eq_true rfl) hlocks dX5_joined_200 (shC c, ad, I, JX, PC c ad) hW ⟨rfl, (by first | (rw [zv_jn5 (show a1.toInt = (-5) by rw [‹a1 = (-5)›]; decide) (by omega)]; exact ((tx55).trans (zv_h tw53 tw54))) | (rw [zv_jn5n (show a1.toInt = (-5) by rw [‹a1 = (-5)›]; decide) (by omega)]; exact ((tx55).trans (zv_h tw53 tw54))))⟩
    · have g56 := z_f_nge rfl rfl c50
      refine lv_iload_n hx hb dX5_joined_104 rfl (lv_at hl 1 rfl) ?_
      refine lv_i2l (v := a2.toInt64) hx hb dX5_joined_105 rfl ?_
      refine lv_topl (fun w57 ew57 => ?_)
      have tw57 : w57.toInt = a2.toInt := z_ti2l ew57 rfl
      refine lv_goto (tgt := 111) hx hb dX5_joined_106 (by decide) ?_
      refine lv_lstore_n (lv' := [(3, .long w57), (0, .int a1), (1, .int a2), (2, .int a3)]) hx hb dX5_joined_111 rfl hl (by decide) rfl (fun ls hl => ?_)
      refine lv_goto (tgt := 186) hx hb dX5_joined_112 (by decide) ?_
      refine lv_ldc2 (v := (-1000000000)) hx hb hown (hts (.constantLong RX5 32 (-1000000000)) (me_s (List.mem_of_getElem? (i := 0) rfl))) dX5_joined_186 ?_
      refine lv_ldc2 (v := 1000000000) hx hb hown (hts (.constantLong RX5 34 (1000000000)) (me_s (List.mem_of_getElem? (i := 1) rfl))) dX5_joined_189 ?_
      refine lv_lload_n hx hb dX5_joined_192 rfl (lv_at hl 0 rfl) ?_
      refine va_mmin_long (x := 1000000000) (y := w57) hx hb (hml.trans hl.1.symm) hown (hts (.methodLink RX5 36 Lib.MathLoose.min_long.x) (me_s (List.mem_of_getElem? (i := 2) rfl))) (hts (.static Lib.MathLoose.min_long.x) (me_s (List.mem_of_getElem? (i := 3) rfl))) (hts (.initialized "java/lang/Math") (me_s (List.mem_of_getElem? (i := 4) rfl))) (hts (.code Lib.MathLoose.min_long.x Lib.MathLoose.min_long.code 4 (some .long)) (me_s (List.mem_of_getElem? (i := 5) rfl))) (Nat.le_of_ble_eq_true rfl) (Nat.le_of_ble_eq_true rfl) (Nat.le_of_ble_eq_true rfl) (Nat.le_of_ble_eq_true rfl) dX5_joined_193 ?_
      refine lv_topl (fun w58 ew58 => ?_)
      have tw58 := z_tlmin ew58 (show (1000000000 : Int64).toInt = 1000000000 by decide) tw57
      refine va_mmax_long (x := (-1000000000)) (y := w58) hx hb (hml.trans hl.1.symm) hown (hts (.methodLink RX5 40 Lib.MathLoose.max_long.x) (me_s (List.mem_of_getElem? (i := 6) rfl))) (hts (.static Lib.MathLoose.max_long.x) (me_s (List.mem_of_getElem? (i := 7) rfl))) (hts (.initialized "java/lang/Math") (me_s (List.mem_of_getElem? (i := 4) rfl))) (hts (.code Lib.MathLoose.max_long.x Lib.MathLoose.max_long.code 4 (some .long)) (me_s (List.mem_of_getElem? (i := 8) rfl))) (Nat.le_of_ble_eq_true rfl) (Nat.le_of_ble_eq_true rfl) (Nat.le_of_ble_eq_true rfl) (Nat.le_of_ble_eq_true rfl) dX5_joined_196 ?_
      refine lv_topl (fun w59 ew59 => ?_)
      have tw59 := z_tlmax ew59 (show ((-1000000000) : Int64).toInt = (-1000000000) by decide) rfl
      refine lv_l2i (v := w59.toInt32) hx hb dX5_joined_199 rfl ?_
      refine lv_topi (fun x60 ex60 => ?_)
      have tx60 : x60.toInt = w59.toInt := z_tl2i ex60 rfl (by omega)
      exact z_iret hx hb hr hK hS (Nat.le_of_ble_eq_true rfl) (Nat.le_of_ble_eq_true rfl) hlocks dX5_joined_200 (shC c, ad, I, JX, PC c ad) hW ⟨rfl, (by first | (rw [zv_jn5 (show a1.toInt = (-5) by rw [‹a1 = (-5)›]; decide) (by omega)]; exact ((tx60).trans (zv_h tw58 tw59))) | (rw [zv_jn5n (show a1.toInt = (-5) by rw [‹a1 = (-5)›]; decide) (by omega)]; exact ((tx60).trans (zv_h tw58 tw59))))⟩
  by_cases q61 : a1 = (-4)
  · refine lv_tableIn (tgt := 83) hx hb dX5_joined_1 (by rw [q61]; decide) (by rw [q61]; decide) (by rw [q61]; rfl) (by decide) ?_
    refine lv_iload_n hx hb dX5_joined_83 rfl (lv_at hl 2 rfl) ?_
    refine lv_if_ne (tgt := 91) hx hb dX5_joined_84 (by decide) (fun c62 => ?_) (fun c62 => ?_)
    · have g63 := z_f_ne rfl z_l0 c62
      refine lv_iload_n hx hb dX5_joined_91 rfl (lv_at hl 1 rfl) ?_
      refine lv_iload_n hx hb dX5_joined_92 rfl (lv_at hl 2 rfl) ?_
      refine lv_idiv hx hb dX5_joined_93 (z_nz rfl (by omega)) ?_
      refine lv_topi (fun x64 ex64 => ?_)
      have tx64 : x64.toInt = (a2.toInt : Int).tdiv a3.toInt := z_tdivg ex64 rfl rfl (by omega)
      have b65 := z_tdivb (n := a2.toInt) (m := a3.toInt) (by omega)
      refine lv_i2l (v := x64.toInt64) hx hb dX5_joined_94 rfl ?_
      refine lv_topl (fun w66 ew66 => ?_)
      have tw66 : w66.toInt = ((a2.toInt : Int).tdiv a3.toInt) := z_ti2l ew66 tx64
      refine lv_lstore_n (lv' := [(3, .long w66), (0, .int a1), (1, .int a2), (2, .int a3)]) hx hb dX5_joined_95 rfl hl (by decide) rfl (fun ls hl => ?_)
      refine lv_goto (tgt := 186) hx hb dX5_joined_96 (by decide) ?_
      refine lv_ldc2 (v := (-1000000000)) hx hb hown (hts (.constantLong RX5 32 (-1000000000)) (me_s (List.mem_of_getElem? (i := 0) rfl))) dX5_joined_186 ?_
      refine lv_ldc2 (v := 1000000000) hx hb hown (hts (.constantLong RX5 34 (1000000000)) (me_s (List.mem_of_getElem? (i := 1) rfl))) dX5_joined_189 ?_
      refine lv_lload_n hx hb dX5_joined_192 rfl (lv_at hl 0 rfl) ?_
      refine va_mmin_long (x := 1000000000) (y := w66) hx hb (hml.trans hl.1.symm) hown (hts (.methodLink RX5 36 Lib.MathLoose.min_long.x) (me_s (List.mem_of_getElem? (i := 2) rfl))) (hts (.static Lib.MathLoose.min_long.x) (me_s (List.mem_of_getElem? (i := 3) rfl))) (hts (.initialized "java/lang/Math") (me_s (List.mem_of_getElem? (i := 4) rfl))) (hts (.code Lib.MathLoose.min_long.x Lib.MathLoose.min_long.code 4 (some .long)) (me_s (List.mem_of_getElem? (i := 5) rfl))) (Nat.le_of_ble_eq_true rfl) (Nat.le_of_ble_eq_true rfl) (Nat.le_of_ble_eq_true rfl) (Nat.le_of_ble_eq_true rfl) dX5_joined_193 ?_
      refine lv_topl (fun w67 ew67 => ?_)
      have tw67 := z_tlmin ew67 (show (1000000000 : Int64).toInt = 1000000000 by decide) tw66
      refine va_mmax_long (x := (-1000000000)) (y := w67) hx hb (hml.trans hl.1.symm) hown (hts (.methodLink RX5 40 Lib.MathLoose.max_long.x) (me_s (List.mem_of_getElem? (i := 6) rfl))) (hts (.static Lib.MathLoose.max_long.x) (me_s (List.mem_of_getElem? (i := 7) rfl))) (hts (.initialized "java/lang/Math") (me_s (List.mem_of_getElem? (i := 4) rfl))) (hts (.code Lib.MathLoose.max_long.x Lib.MathLoose.max_long.code 4 (some .long)) (me_s (List.mem_of_getElem? (i := 8) rfl))) (Nat.le_of_ble_eq_true rfl) (Nat.le_of_ble_eq_true rfl) (Nat.le_of_ble_eq_true rfl) (Nat.le_of_ble_eq_true rfl) dX5_joined_196 ?_
      refine lv_topl (fun w68 ew68 => ?_)
      have tw68 := z_tlmax ew68 (show ((-1000000000) : Int64).toInt = (-1000000000) by decide) rfl
      refine lv_l2i (v := w68.toInt32) hx hb dX5_joined_199 rfl ?_
      refine lv_topi (fun x69 ex69 => ?_)
      have tx69 : x69.toInt = w68.toInt := z_tl2i ex69 rfl (by omega)
      exact z_iret hx hb hr hK hS (Nat.le_of_ble_eq_true rfl) (Nat.le_of_ble_eq_true rfl) hlocks dX5_joined_200 (shC c, ad, I, JX, PC c ad) hW ⟨rfl, (by first | (rw [zv_jn4 (show a1.toInt = (-4) by rw [‹a1 = (-4)›]; decide) (by omega)]; exact ((tx69).trans (zv_h tw67 tw68))) | (rw [zv_jn4n (show a1.toInt = (-4) by rw [‹a1 = (-4)›]; decide) (by omega)]; exact ((tx69).trans (zv_h tw67 tw68))))⟩
    · have g70 := z_f_eq rfl z_l0 c62
      refine lv_lconst (v := 0) hx hb dX5_joined_87 (by decide) ?_
      refine lv_goto (tgt := 95) hx hb dX5_joined_88 (by decide) ?_
      refine lv_lstore_n (lv' := [(3, .long 0), (0, .int a1), (1, .int a2), (2, .int a3)]) hx hb dX5_joined_95 rfl hl (by decide) rfl (fun ls hl => ?_)
      refine lv_goto (tgt := 186) hx hb dX5_joined_96 (by decide) ?_
      refine lv_ldc2 (v := (-1000000000)) hx hb hown (hts (.constantLong RX5 32 (-1000000000)) (me_s (List.mem_of_getElem? (i := 0) rfl))) dX5_joined_186 ?_
      refine lv_ldc2 (v := 1000000000) hx hb hown (hts (.constantLong RX5 34 (1000000000)) (me_s (List.mem_of_getElem? (i := 1) rfl))) dX5_joined_189 ?_
      refine lv_lload_n hx hb dX5_joined_192 rfl (lv_at hl 0 rfl) ?_
      refine va_mmin_long (x := 1000000000) (y := 0) hx hb (hml.trans hl.1.symm) hown (hts (.methodLink RX5 36 Lib.MathLoose.min_long.x) (me_s (List.mem_of_getElem? (i := 2) rfl))) (hts (.static Lib.MathLoose.min_long.x) (me_s (List.mem_of_getElem? (i := 3) rfl))) (hts (.initialized "java/lang/Math") (me_s (List.mem_of_getElem? (i := 4) rfl))) (hts (.code Lib.MathLoose.min_long.x Lib.MathLoose.min_long.code 4 (some .long)) (me_s (List.mem_of_getElem? (i := 5) rfl))) (Nat.le_of_ble_eq_true rfl) (Nat.le_of_ble_eq_true rfl) (Nat.le_of_ble_eq_true rfl) (Nat.le_of_ble_eq_true rfl) dX5_joined_193 ?_
      refine lv_topl (fun w71 ew71 => ?_)
      have tw71 := z_tlmin ew71 (show (1000000000 : Int64).toInt = 1000000000 by decide) (show (0 : Int64).toInt = 0 by decide)
      refine va_mmax_long (x := (-1000000000)) (y := w71) hx hb (hml.trans hl.1.symm) hown (hts (.methodLink RX5 40 Lib.MathLoose.max_long.x) (me_s (List.mem_of_getElem? (i := 6) rfl))) (hts (.static Lib.MathLoose.max_long.x) (me_s (List.mem_of_getElem? (i := 7) rfl))) (hts (.initialized "java/lang/Math") (me_s (List.mem_of_getElem? (i := 4) rfl))) (hts (.code Lib.MathLoose.max_long.x Lib.MathLoose.max_long.code 4 (some .long)) (me_s (List.mem_of_getElem? (i := 8) rfl))) (Nat.le_of_ble_eq_true rfl) (Nat.le_of_ble_eq_true rfl) (Nat.le_of_ble_eq_true rfl) (Nat.le_of_ble_eq_true rfl) dX5_joined_196 ?_
      refine lv_topl (fun w72 ew72 => ?_)
      have tw72 := z_tlmax ew72 (show ((-1000000000) : Int64).toInt = (-1000000000) by decide) rfl
      refine lv_l2i (v := w72.toInt32) hx hb dX5_joined_199 rfl ?_
      refine lv_topi (fun x73 ex73 => ?_)
      have tx73 : x73.toInt = w72.toInt := z_tl2i ex73 rfl (by omega)
      exact z_iret hx hb hr hK hS (Nat.le_of_ble_eq_true rfl) (Nat.le_of_ble_eq_true rfl) hlocks dX5_joined_200 (shC c, ad, I, JX, PC c ad) hW ⟨rfl, (by first | (rw [zv_jn4 (show a1.toInt = (-4) by rw [‹a1 = (-4)›]; decide) (by omega)]; exact ((tx73).trans (zv_h tw71 tw72))) | (rw [zv_jn4n (show a1.toInt = (-4) by rw [‹a1 = (-4)›]; decide) (by omega)]; exact ((tx73).trans (zv_h tw71 tw72))))⟩
  by_cases q74 : a1 = (-3)
  · refine lv_tableIn (tgt := 74) hx hb dX5_joined_1 (by rw [q74]; decide) (by rw [q74]; decide) (by rw [q74]; rfl) (by decide) ?_
    refine lv_iload_n hx hb dX5_joined_74 rfl (lv_at hl 1 rfl) ?_
    refine lv_i2l (v := a2.toInt64) hx hb dX5_joined_75 rfl ?_
    refine lv_topl (fun w75 ew75 => ?_)
    have tw75 : w75.toInt = a2.toInt := z_ti2l ew75 rfl
    refine lv_iload_n hx hb dX5_joined_76 rfl (lv_at hl 2 rfl) ?_
    refine lv_i2l (v := a3.toInt64) hx hb dX5_joined_77 rfl ?_
    refine lv_topl (fun w76 ew76 => ?_)
    have tw76 : w76.toInt = a3.toInt := z_ti2l ew76 rfl
    refine lv_lmul hx hb dX5_joined_78 ?_
    refine lv_topl (fun w77 ew77 => ?_)
    have tw77 : w77.toInt = a2.toInt * a3.toInt := z_tlmul ew77 tw75 tw76 (by omega) (by omega)
    have b78 := z_mulb (n := a2.toInt) (m := a3.toInt) (by omega) (by omega)
    refine lv_lstore_n (lv' := [(3, .long w77), (0, .int a1), (1, .int a2), (2, .int a3)]) hx hb dX5_joined_79 rfl hl (by decide) rfl (fun ls hl => ?_)
    refine lv_goto (tgt := 186) hx hb dX5_joined_80 (by decide) ?_
    refine lv_ldc2 (v := (-1000000000)) hx hb hown (hts (.constantLong RX5 32 (-1000000000)) (me_s (List.mem_of_getElem? (i := 0) rfl))) dX5_joined_186 ?_
    refine lv_ldc2 (v := 1000000000) hx hb hown (hts (.constantLong RX5 34 (1000000000)) (me_s (List.mem_of_getElem? (i := 1) rfl))) dX5_joined_189 ?_
    refine lv_lload_n hx hb dX5_joined_192 rfl (lv_at hl 0 rfl) ?_
    refine va_mmin_long (x := 1000000000) (y := w77) hx hb (hml.trans hl.1.symm) hown (hts (.methodLink RX5 36 Lib.MathLoose.min_long.x) (me_s (List.mem_of_getElem? (i := 2) rfl))) (hts (.static Lib.MathLoose.min_long.x) (me_s (List.mem_of_getElem? (i := 3) rfl))) (hts (.initialized "java/lang/Math") (me_s (List.mem_of_getElem? (i := 4) rfl))) (hts (.code Lib.MathLoose.min_long.x Lib.MathLoose.min_long.code 4 (some .long)) (me_s (List.mem_of_getElem? (i := 5) rfl))) (Nat.le_of_ble_eq_true rfl) (Nat.le_of_ble_eq_true rfl) (Nat.le_of_ble_eq_true rfl) (Nat.le_of_ble_eq_true rfl) dX5_joined_193 ?_
    refine lv_topl (fun w79 ew79 => ?_)
    have tw79 := z_tlmin ew79 (show (1000000000 : Int64).toInt = 1000000000 by decide) tw77
    refine va_mmax_long (x := (-1000000000)) (y := w79) hx hb (hml.trans hl.1.symm) hown (hts (.methodLink RX5 40 Lib.MathLoose.max_long.x) (me_s (List.mem_of_getElem? (i := 6) rfl))) (hts (.static Lib.MathLoose.max_long.x) (me_s (List.mem_of_getElem? (i := 7) rfl))) (hts (.initialized "java/lang/Math") (me_s (List.mem_of_getElem? (i := 4) rfl))) (hts (.code Lib.MathLoose.max_long.x Lib.MathLoose.max_long.code 4 (some .long)) (me_s (List.mem_of_getElem? (i := 8) rfl))) (Nat.le_of_ble_eq_true rfl) (Nat.le_of_ble_eq_true rfl) (Nat.le_of_ble_eq_true rfl) (Nat.le_of_ble_eq_true rfl) dX5_joined_196 ?_
    refine lv_topl (fun w80 ew80 => ?_)
    have tw80 := z_tlmax ew80 (show ((-1000000000) : Int64).toInt = (-1000000000) by decide) rfl
    refine lv_l2i (v := w80.toInt32) hx hb dX5_joined_199 rfl ?_
    refine lv_topi (fun x81 ex81 => ?_)
    have tx81 : x81.toInt = w80.toInt := z_tl2i ex81 rfl (by omega)
    exact z_iret hx hb hr hK hS (Nat.le_of_ble_eq_true rfl) (Nat.le_of_ble_eq_true rfl) hlocks dX5_joined_200 (shC c, ad, I, JX, PC c ad) hW ⟨rfl, (by rw [zv_jn3 (show a1.toInt = (-3) by rw [‹a1 = (-3)›]; decide)]; exact ((tx81).trans (zv_h tw79 tw80)))⟩
  by_cases q82 : a1 = (-2)
  · refine lv_tableIn (tgt := 65) hx hb dX5_joined_1 (by rw [q82]; decide) (by rw [q82]; decide) (by rw [q82]; rfl) (by decide) ?_
    refine lv_iload_n hx hb dX5_joined_65 rfl (lv_at hl 1 rfl) ?_
    refine lv_i2l (v := a2.toInt64) hx hb dX5_joined_66 rfl ?_
    refine lv_topl (fun w83 ew83 => ?_)
    have tw83 : w83.toInt = a2.toInt := z_ti2l ew83 rfl
    refine lv_iload_n hx hb dX5_joined_67 rfl (lv_at hl 2 rfl) ?_
    refine lv_i2l (v := a3.toInt64) hx hb dX5_joined_68 rfl ?_
    refine lv_topl (fun w84 ew84 => ?_)
    have tw84 : w84.toInt = a3.toInt := z_ti2l ew84 rfl
    refine lv_lsub hx hb dX5_joined_69 ?_
    refine lv_topl (fun w85 ew85 => ?_)
    have tw85 : w85.toInt = a2.toInt - a3.toInt := z_tlsub ew85 tw83 tw84 (by omega) (by omega)
    refine lv_lstore_n (lv' := [(3, .long w85), (0, .int a1), (1, .int a2), (2, .int a3)]) hx hb dX5_joined_70 rfl hl (by decide) rfl (fun ls hl => ?_)
    refine lv_goto (tgt := 186) hx hb dX5_joined_71 (by decide) ?_
    refine lv_ldc2 (v := (-1000000000)) hx hb hown (hts (.constantLong RX5 32 (-1000000000)) (me_s (List.mem_of_getElem? (i := 0) rfl))) dX5_joined_186 ?_
    refine lv_ldc2 (v := 1000000000) hx hb hown (hts (.constantLong RX5 34 (1000000000)) (me_s (List.mem_of_getElem? (i := 1) rfl))) dX5_joined_189 ?_
    refine lv_lload_n hx hb dX5_joined_192 rfl (lv_at hl 0 rfl) ?_
    refine va_mmin_long (x := 1000000000) (y := w85) hx hb (hml.trans hl.1.symm) hown (hts (.methodLink RX5 36 Lib.MathLoose.min_long.x) (me_s (List.mem_of_getElem? (i := 2) rfl))) (hts (.static Lib.MathLoose.min_long.x) (me_s (List.mem_of_getElem? (i := 3) rfl))) (hts (.initialized "java/lang/Math") (me_s (List.mem_of_getElem? (i := 4) rfl))) (hts (.code Lib.MathLoose.min_long.x Lib.MathLoose.min_long.code 4 (some .long)) (me_s (List.mem_of_getElem? (i := 5) rfl))) (Nat.le_of_ble_eq_true rfl) (Nat.le_of_ble_eq_true rfl) (Nat.le_of_ble_eq_true rfl) (Nat.le_of_ble_eq_true rfl) dX5_joined_193 ?_
    refine lv_topl (fun w86 ew86 => ?_)
    have tw86 := z_tlmin ew86 (show (1000000000 : Int64).toInt = 1000000000 by decide) tw85
    refine va_mmax_long (x := (-1000000000)) (y := w86) hx hb (hml.trans hl.1.symm) hown (hts (.methodLink RX5 40 Lib.MathLoose.max_long.x) (me_s (List.mem_of_getElem? (i := 6) rfl))) (hts (.static Lib.MathLoose.max_long.x) (me_s (List.mem_of_getElem? (i := 7) rfl))) (hts (.initialized "java/lang/Math") (me_s (List.mem_of_getElem? (i := 4) rfl))) (hts (.code Lib.MathLoose.max_long.x Lib.MathLoose.max_long.code 4 (some .long)) (me_s (List.mem_of_getElem? (i := 8) rfl))) (Nat.le_of_ble_eq_true rfl) (Nat.le_of_ble_eq_true rfl) (Nat.le_of_ble_eq_true rfl) (Nat.le_of_ble_eq_true rfl) dX5_joined_196 ?_
    refine lv_topl (fun w87 ew87 => ?_)
    have tw87 := z_tlmax ew87 (show ((-1000000000) : Int64).toInt = (-1000000000) by decide) rfl
    refine lv_l2i (v := w87.toInt32) hx hb dX5_joined_199 rfl ?_
    refine lv_topi (fun x88 ex88 => ?_)
    have tx88 : x88.toInt = w87.toInt := z_tl2i ex88 rfl (by omega)
    exact z_iret hx hb hr hK hS (Nat.le_of_ble_eq_true rfl) (Nat.le_of_ble_eq_true rfl) hlocks dX5_joined_200 (shC c, ad, I, JX, PC c ad) hW ⟨rfl, (by rw [zv_jn2 (show a1.toInt = (-2) by rw [‹a1 = (-2)›]; decide)]; exact ((tx88).trans (zv_h tw86 tw87)))⟩
  by_cases q89 : a1 = (-1)
  · refine lv_tableIn (tgt := 56) hx hb dX5_joined_1 (by rw [q89]; decide) (by rw [q89]; decide) (by rw [q89]; rfl) (by decide) ?_
    refine lv_iload_n hx hb dX5_joined_56 rfl (lv_at hl 1 rfl) ?_
    refine lv_i2l (v := a2.toInt64) hx hb dX5_joined_57 rfl ?_
    refine lv_topl (fun w90 ew90 => ?_)
    have tw90 : w90.toInt = a2.toInt := z_ti2l ew90 rfl
    refine lv_iload_n hx hb dX5_joined_58 rfl (lv_at hl 2 rfl) ?_
    refine lv_i2l (v := a3.toInt64) hx hb dX5_joined_59 rfl ?_
    refine lv_topl (fun w91 ew91 => ?_)
    have tw91 : w91.toInt = a3.toInt := z_ti2l ew91 rfl
    refine lv_ladd hx hb dX5_joined_60 ?_
    refine lv_topl (fun w92 ew92 => ?_)
    have tw92 : w92.toInt = a2.toInt + a3.toInt := z_tladd ew92 tw90 tw91 (by omega) (by omega)
    refine lv_lstore_n (lv' := [(3, .long w92), (0, .int a1), (1, .int a2), (2, .int a3)]) hx hb dX5_joined_61 rfl hl (by decide) rfl (fun ls hl => ?_)
    refine lv_goto (tgt := 186) hx hb dX5_joined_62 (by decide) ?_
    refine lv_ldc2 (v := (-1000000000)) hx hb hown (hts (.constantLong RX5 32 (-1000000000)) (me_s (List.mem_of_getElem? (i := 0) rfl))) dX5_joined_186 ?_
    refine lv_ldc2 (v := 1000000000) hx hb hown (hts (.constantLong RX5 34 (1000000000)) (me_s (List.mem_of_getElem? (i := 1) rfl))) dX5_joined_189 ?_
    refine lv_lload_n hx hb dX5_joined_192 rfl (lv_at hl 0 rfl) ?_
    refine va_mmin_long (x := 1000000000) (y := w92) hx hb (hml.trans hl.1.symm) hown (hts (.methodLink RX5 36 Lib.MathLoose.min_long.x) (me_s (List.mem_of_getElem? (i := 2) rfl))) (hts (.static Lib.MathLoose.min_long.x) (me_s (List.mem_of_getElem? (i := 3) rfl))) (hts (.initialized "java/lang/Math") (me_s (List.mem_of_getElem? (i := 4) rfl))) (hts (.code Lib.MathLoose.min_long.x Lib.MathLoose.min_long.code 4 (some .long)) (me_s (List.mem_of_getElem? (i := 5) rfl))) (Nat.le_of_ble_eq_true rfl) (Nat.le_of_ble_eq_true rfl) (Nat.le_of_ble_eq_true rfl) (Nat.le_of_ble_eq_true rfl) dX5_joined_193 ?_
    refine lv_topl (fun w93 ew93 => ?_)
    have tw93 := z_tlmin ew93 (show (1000000000 : Int64).toInt = 1000000000 by decide) tw92
    refine va_mmax_long (x := (-1000000000)) (y := w93) hx hb (hml.trans hl.1.symm) hown (hts (.methodLink RX5 40 Lib.MathLoose.max_long.x) (me_s (List.mem_of_getElem? (i := 6) rfl))) (hts (.static Lib.MathLoose.max_long.x) (me_s (List.mem_of_getElem? (i := 7) rfl))) (hts (.initialized "java/lang/Math") (me_s (List.mem_of_getElem? (i := 4) rfl))) (hts (.code Lib.MathLoose.max_long.x Lib.MathLoose.max_long.code 4 (some .long)) (me_s (List.mem_of_getElem? (i := 8) rfl))) (Nat.le_of_ble_eq_true rfl) (Nat.le_of_ble_eq_true rfl) (Nat.le_of_ble_eq_true rfl) (Nat.le_of_ble_eq_true rfl) dX5_joined_196 ?_
    refine lv_topl (fun w94 ew94 => ?_)
    have tw94 := z_tlmax ew94 (show ((-1000000000) : Int64).toInt = (-1000000000) by decide) rfl
    refine lv_l2i (v := w94.toInt32) hx hb dX5_joined_199 rfl ?_
    refine lv_topi (fun x95 ex95 => ?_)
    have tx95 : x95.toInt = w94.toInt := z_tl2i ex95 rfl (by omega)
    exact z_iret hx hb hr hK hS (Nat.le_of_ble_eq_true rfl) (Nat.le_of_ble_eq_true rfl) hlocks dX5_joined_200 (shC c, ad, I, JX, PC c ad) hW ⟨rfl, (by rw [zv_jn1 (show a1.toInt = (-1) by rw [‹a1 = (-1)›]; decide)]; exact ((tx95).trans (zv_h tw93 tw94)))⟩
  have q1 := z_f_ne rfl z_lm10 q1
  have q7 := z_f_ne rfl z_lm9 q7
  have q17 := z_f_ne rfl z_lm8 q17
  have q27 := z_f_ne rfl z_lm7 q27
  have q37 := z_f_ne rfl z_lm6 q37
  have q49 := z_f_ne rfl z_lm5 q49
  have q61 := z_f_ne rfl z_lm4 q61
  have q74 := z_f_ne rfl z_lm3 q74
  have q82 := z_f_ne rfl z_lm2 q82
  have q89 := z_f_ne rfl z_lm1 q89
  refine lv_tableOut (tgt := 181) hx hb dX5_joined_1 (by omega) (by decide) ?_
  refine lv_iload_n hx hb dX5_joined_181 rfl (lv_at hl 1 rfl) ?_
  refine lv_iload_n hx hb dX5_joined_182 rfl (lv_at hl 2 rfl) ?_
  refine lv_ior hx hb dX5_joined_183 ?_
  refine lv_topi (fun x96 ex96 => ?_)
  refine lv_i2l (v := x96.toInt64) hx hb dX5_joined_184 rfl ?_
  refine lv_topl (fun w97 ew97 => ?_)
  have tw97 : w97.toInt = x96.toInt := z_ti2l ew97 rfl
  refine lv_lstore_n (lv' := [(3, .long w97), (0, .int a1), (1, .int a2), (2, .int a3)]) hx hb dX5_joined_185 rfl hl (by decide) rfl (fun ls hl => ?_)
  refine lv_ldc2 (v := (-1000000000)) hx hb hown (hts (.constantLong RX5 32 (-1000000000)) (me_s (List.mem_of_getElem? (i := 0) rfl))) dX5_joined_186 ?_
  refine lv_ldc2 (v := 1000000000) hx hb hown (hts (.constantLong RX5 34 (1000000000)) (me_s (List.mem_of_getElem? (i := 1) rfl))) dX5_joined_189 ?_
  refine lv_lload_n hx hb dX5_joined_192 rfl (lv_at hl 0 rfl) ?_
  refine va_mmin_long (x := 1000000000) (y := w97) hx hb (hml.trans hl.1.symm) hown (hts (.methodLink RX5 36 Lib.MathLoose.min_long.x) (me_s (List.mem_of_getElem? (i := 2) rfl))) (hts (.static Lib.MathLoose.min_long.x) (me_s (List.mem_of_getElem? (i := 3) rfl))) (hts (.initialized "java/lang/Math") (me_s (List.mem_of_getElem? (i := 4) rfl))) (hts (.code Lib.MathLoose.min_long.x Lib.MathLoose.min_long.code 4 (some .long)) (me_s (List.mem_of_getElem? (i := 5) rfl))) (Nat.le_of_ble_eq_true rfl) (Nat.le_of_ble_eq_true rfl) (Nat.le_of_ble_eq_true rfl) (Nat.le_of_ble_eq_true rfl) dX5_joined_193 ?_
  refine lv_topl (fun w98 ew98 => ?_)
  have tw98 := z_tlmin ew98 (show (1000000000 : Int64).toInt = 1000000000 by decide) tw97
  refine va_mmax_long (x := (-1000000000)) (y := w98) hx hb (hml.trans hl.1.symm) hown (hts (.methodLink RX5 40 Lib.MathLoose.max_long.x) (me_s (List.mem_of_getElem? (i := 6) rfl))) (hts (.static Lib.MathLoose.max_long.x) (me_s (List.mem_of_getElem? (i := 7) rfl))) (hts (.initialized "java/lang/Math") (me_s (List.mem_of_getElem? (i := 4) rfl))) (hts (.code Lib.MathLoose.max_long.x Lib.MathLoose.max_long.code 4 (some .long)) (me_s (List.mem_of_getElem? (i := 8) rfl))) (Nat.le_of_ble_eq_true rfl) (Nat.le_of_ble_eq_true rfl) (Nat.le_of_ble_eq_true rfl) (Nat.le_of_ble_eq_true rfl) dX5_joined_196 ?_
  refine lv_topl (fun w99 ew99 => ?_)
  have tw99 := z_tlmax ew99 (show ((-1000000000) : Int64).toInt = (-1000000000) by decide) rfl
  refine lv_l2i (v := w99.toInt32) hx hb dX5_joined_199 rfl ?_
  refine lv_topi (fun x100 ex100 => ?_)
  have tx100 : x100.toInt = w99.toInt := z_tl2i ex100 rfl (by omega)
  exact z_iret hx hb hr hK hS (Nat.le_of_ble_eq_true rfl) (Nat.le_of_ble_eq_true rfl) hlocks dX5_joined_200 (shC c, ad, I, JX, PC c ad) hW ⟨rfl, (by rw [zv_jn11 (by omega) ex96]; exact ((tx100).trans (zv_h tw98 tw99)))⟩
set_option maxHeartbeats 8000000 in
set_option maxRecDepth 100000 in
theorem sx_X7_holds_x_q (l : Launch) (G : z_G) (ad : Nat → Nat) (c : z_C) (I : z_I) (k : Nat) (sT : zp_T) (a1 : Int32) (hk : k < c.2.1) (hc : z_okc c) (hbA : zv_bA (zv_ax I)) (hrow : zo_row I (200 + 5 * k) (c.2.2.2 k : Int) a1.toNatClampNeg sT) (hcb : zv_cb sT.2.2.2) (q1 : 0 ≤ a1.toInt ∧ a1.toInt < (c.2.2.1 k : Int)) : z_M l yX7_holds wsX7_holds { frames := 3, cells := 0, slots := 0, locals := 89 } [.ref (ad (200 + 5 * k)), .int a1, .ref (ad 23)] G (shC c, ad, I, JX, PC c ad) (fun r u1 => ∃ I1 : z_I, u1 = (shC c, ad, I1, JX, PC c ad) ∧ z_fr L_X7_holds_x I1 I ∧ ((r = 1 ∧ zv_c (zv_ax I) sT.2.2.2 = true) ∨ (r = 0 ∧ zv_c (zv_ax I) sT.2.2.2 = false))) 0 0 := by
  intro sz
  refine z_headQ (cc := cX7_holds) (maxL := 3) (ret := (some .boolean)) (by decide) rfl (Nat.le_of_ble_eq_true rfl) ?_
  intro p e s m below meth c0 ls hIn hK hsz hW hl
  obtain ⟨hx, hb, hr, hml, hown, hts, hlocks, hname⟩ := hIn
  subst hsz
  have hown : s.vm.findClass RX7 = some m.cls := hown
  have hA : ∀ q : Nat, s.heap.size ≤ q → z_A (shC c, ad, I, JX, PC c ad) s.heap.size q := fun q h => Or.inr h
  generalize hAe : z_A (shC c, ad, I, JX, PC c ad) s.heap.size = A at *
  have hS : va_S A s.heap s.heap [] := va_S.rf
  have hl : lv_has ls 3 [(0, .ref (ad (200 + 5 * k))), (1, .int a1), (2, .ref (ad 23))] := hl
  refine lv_iload_n hx hb dX7_holds_0 rfl (lv_at hl 1 rfl) ?_
  refine lv_if_lt (tgt := 23) hx hb dX7_holds_1 (by decide) (fun c1 => ?_) (fun c1 => ?_)
  · have g2 := z_f_lt rfl z_l0 c1
    have b3 := Int32.toInt_lt a1
    refine lv_iconst (v := 1) hx hb dX7_holds_23 (by decide) ?_
    exact z_zret hx hb hr (by decide) hK hS (Nat.le_of_ble_eq_true rfl) (Nat.le_of_ble_eq_true rfl) hlocks dX7_holds_24 (shC c, ad, I, JX, PC c ad) hW ⟨I, rfl, z_fr_0, (by exfalso; omega)⟩
  · have g4 := z_f_nlt rfl z_l0 c1
    have b5 := Int32.toInt_lt a1
    refine lv_iload_n hx hb dX7_holds_4 rfl (lv_at hl 1 rfl) ?_
    refine lv_aload_n hx hb dX7_holds_5 rfl (lv_at hl 0 rfl) ?_
    refine z_get (T := TX7) (N := 6) (ci := 7) (i := (200 + 5 * k)) (v := .ref (ad (200 + 5 * k + 3))) hx hb hts zj_X7_holds_X7 hown hK hW (z_so0 hk) rfl 4 (by decide) (hts (.fieldLink RX7 48 "PetrolBoard$Orders" "second" "[I") (me_s (me_l (me_l (me_l (List.mem_of_getElem? (i := 0) rfl)))))) (fun _ h => h) (z_pO rfl rfl) dX7_holds_6 ?_
    have r6 := (hc k hk).1
    refine z_alen (i := (200 + 5 * k + 3)) (v := (c.2.2.1 k).toInt32) hx hb hK hW (z_so123 hk (by decide)) (by simp [z_tys]) (by rfl) dX7_holds_9 ?_
    refine lv_icmp_ge (tgt := 23) hx hb dX7_holds_10 (by decide) (fun c7 => ?_) (fun c7 => ?_)
    · have g8 := z_f_ge rfl (z_len (Nat.le_trans (hc k hk).1 (by decide))) c7
      refine lv_iconst (v := 1) hx hb dX7_holds_23 (by decide) ?_
      exact z_zret hx hb hr (by decide) hK hS (Nat.le_of_ble_eq_true rfl) (Nat.le_of_ble_eq_true rfl) hlocks dX7_holds_24 (shC c, ad, I, JX, PC c ad) hW ⟨I, rfl, z_fr_0, (by exfalso; omega)⟩
    · have g9 := z_f_nge rfl (z_len (Nat.le_trans (hc k hk).1 (by decide))) c7
      refine lv_aload_n hx hb dX7_holds_13 rfl (lv_at hl 0 rfl) ?_
      refine z_get (T := TX7) (N := 6) (ci := 7) (i := (200 + 5 * k)) (v := .ref (ad (200 + 5 * k + 3))) hx hb hts zj_X7_holds_X7 hown hK hW (z_so0 hk) rfl 4 (by decide) (hts (.fieldLink RX7 48 "PetrolBoard$Orders" "second" "[I") (me_s (me_l (me_l (me_l (List.mem_of_getElem? (i := 0) rfl)))))) (fun _ h => h) (z_pO rfl rfl) dX7_holds_14 ?_
      refine lv_iload_n hx hb dX7_holds_17 rfl (lv_at hl 1 rfl) ?_
      refine z_iald (i := (200 + 5 * k + 3)) hx hb hK hW (z_so123 hk (by decide)) (z_ix rfl (by omega) (by omega)) dX7_holds_18 ?_
      refine lv_topi (fun x10 ex10 => ?_)
      refine lv_iconst (v := (-1)) hx hb dX7_holds_19 (by decide) ?_
      refine lv_icmp_ne (tgt := 25) hx hb dX7_holds_20 (by decide) (fun c11 => ?_) (fun c11 => ?_)
      · have g12 := z_f_ne rfl z_lm1 c11
        have b13 := Int32.toInt_lt x10
        obtain ⟨hne9, p9, hp9, hcs9, hcl9⟩ := zv_row2 hrow ex10 (by omega)
        have cq9 := z_clt (x := x10) rfl (by omega)
        have ep9 : p9 = x10.toNatClampNeg := by omega
        subst ep9
        refine lv_aload_n hx hb dX7_holds_25 rfl (lv_at hl 2 rfl) ?_
        refine lv_aload_n hx hb dX7_holds_26 rfl (lv_at hl 0 rfl) ?_
        refine z_get (T := TX7) (N := 6) (ci := 7) (i := (200 + 5 * k)) (v := .ref (ad (200 + 5 * k + 4))) hx hb hts zj_X7_holds_X7 hown hK hW (z_so0 hk) rfl 5 (by decide) (hts (.fieldLink RX7 52 "PetrolBoard$Orders" "code" "[I") (me_s (me_l (me_l (me_l (List.mem_of_getElem? (i := 1) rfl)))))) (fun _ h => h) (z_pO rfl rfl) dX7_holds_27 ?_
        refine lv_aload_n hx hb dX7_holds_30 rfl (lv_at hl 0 rfl) ?_
        refine z_get (T := TX7) (N := 6) (ci := 7) (i := (200 + 5 * k)) (v := .ref (ad (200 + 5 * k + 3))) hx hb hts zj_X7_holds_X7 hown hK hW (z_so0 hk) rfl 4 (by decide) (hts (.fieldLink RX7 48 "PetrolBoard$Orders" "second" "[I") (me_s (me_l (me_l (me_l (List.mem_of_getElem? (i := 0) rfl)))))) (fun _ h => h) (z_pO rfl rfl) dX7_holds_31 ?_
        refine lv_iload_n hx hb dX7_holds_34 rfl (lv_at hl 1 rfl) ?_
        refine z_iald (i := (200 + 5 * k + 3)) hx hb hK hW (z_so123 hk (by decide)) (z_ix rfl (by omega) (by omega)) dX7_holds_35 ?_
        refine z_topi (v := x10) ex10.symm ?_
        refine z_ci hW hS hA (va_runV (As := [.ref (ad (200 + 5 * k + 4)), .int x10]) (rest := []) ⟨hx, hb, hml, hown, hts⟩ (sx_X5_result_x l G ad c I k sT.2.2.2 x10 hk hc (by omega) (zv_bA_c hbA (fun _ => rfl)) hcs9 hcb (by omega) _) (cwV 2 hts gX7_holds_X5_result rfl rfl rfl (by decide +kernel) ⟨Nat.le_of_ble_eq_true rfl, Nat.le_of_ble_eq_true rfl⟩) (z_preV (i := 23) hK hW rfl rfl) rfl rfl hl.1 rfl (lv_room (Nat.le_of_ble_eq_true rfl)) dX7_holds_36 ⟨Nat.le_of_ble_eq_true rfl, Nat.le_of_ble_eq_true rfl⟩) (fun r u1 H locs hp hW hS => ?_)
        obtain ⟨I14, e9, fI14, hp⟩ := hp
        rw [e9] at hW
        have f15 := z_fr_sub (L := L_X7_holds_x) z_fr_0 fI14 (by decide)
        refine lv_topi (fun x16 ex16 => ?_)
        rw [← ex16] at hp
        have hv17 := hp
        refine lv_if_eq (tgt := 46) hx hb dX7_holds_39 (by decide) (fun c18 => ?_) (fun c18 => ?_)
        · have g19 := z_f_eq rfl z_l0 c18
          have b20 := Int32.toInt_lt x16
          refine lv_iconst (v := 0) hx hb dX7_holds_46 (by decide) ?_
          exact z_zret hx hb hr (by decide) hK hS (Nat.le_of_ble_eq_true rfl) (Nat.le_of_ble_eq_true rfl) hlocks dX7_holds_47 (shC c, ad, I14, JX, PC c ad) hW ⟨I14, rfl, f15, (Or.inr ⟨rfl, zv_c_n hne9 (by rw [← hv17]; omega)⟩)⟩
        · have g21 := z_f_ne rfl z_l0 c18
          have b22 := Int32.toInt_lt x16
          refine lv_iconst (v := 1) hx hb dX7_holds_42 (by decide) ?_
          refine lv_goto (tgt := 47) hx hb dX7_holds_43 (by decide) ?_
          exact z_zret hx hb hr (by decide) hK hS (Nat.le_of_ble_eq_true rfl) (Nat.le_of_ble_eq_true rfl) hlocks dX7_holds_47 (shC c, ad, I14, JX, PC c ad) hW ⟨I14, rfl, f15, (Or.inl ⟨rfl, zv_c_y (by rw [← hv17]; omega)⟩)⟩
      · have g23 := z_f_eq rfl z_lm1 c11
        have b24 := Int32.toInt_lt x10
        refine lv_iconst (v := 1) hx hb dX7_holds_23 (by decide) ?_
        exact z_zret hx hb hr (by decide) hK hS (Nat.le_of_ble_eq_true rfl) (Nat.le_of_ble_eq_true rfl) hlocks dX7_holds_24 (shC c, ad, I, JX, PC c ad) hW ⟨I, rfl, z_fr_0, (Or.inl ⟨rfl, zv_c_e (zv_row2n hrow ex10 (by omega))⟩)⟩
set_option maxHeartbeats 8000000 in
set_option maxRecDepth 100000 in
theorem sx_X7_dealt_x_q (l : Launch) (G : z_G) (ad : Nat → Nat) (c : z_C) (I : z_I) (k : Nat) (ss : List zp_T) (a1 : Int32) (hk : k < c.2.1) (hc : z_okc c) (hbA : zv_bA (zv_ax I)) (hss : zv_ss c I k ss) (q1 : a1.toInt = 300 ∨ a1.toInt = 301) : z_M l yX7_dealt wsX7_dealt { frames := 4, cells := 0, slots := 0, locals := 111 } [.ref (ad (200 + 5 * k)), .int a1, .ref (ad 23)] G (shC c, ad, I, JX, PC c ad) (fun r u1 => ∃ I1 : z_I, u1 = (shC c, ad, I1, JX, PC c ad) ∧ z_fr L_X7_dealt_x I1 I ∧ r.toInt = zv_fi (zv_ax I) a1.toInt ss) 0 0 := by
  intro sz
  refine z_headQ (cc := cX7_dealt) (maxL := 5) (ret := (some .int)) (by decide) rfl (Nat.le_of_ble_eq_true rfl) ?_
  intro p e s m below meth c0 ls hIn hK hsz hW hl
  obtain ⟨hx, hb, hr, hml, hown, hts, hlocks, hname⟩ := hIn
  subst hsz
  have hown : s.vm.findClass RX7 = some m.cls := hown
  have hA : ∀ q : Nat, s.heap.size ≤ q → z_A (shC c, ad, I, JX, PC c ad) s.heap.size q := fun q h => Or.inr h
  generalize hAe : z_A (shC c, ad, I, JX, PC c ad) s.heap.size = A at *
  have hS : va_S A s.heap s.heap [] := va_S.rf
  have hl : lv_has ls 5 [(0, .ref (ad (200 + 5 * k))), (1, .int a1), (2, .ref (ad 23))] := hl
  refine lv_iconst (v := 0) hx hb dX7_dealt_0 (by decide) ?_
  refine lv_istore_n (lv' := [(3, .int 0), (0, .ref (ad (200 + 5 * k))), (1, .int a1), (2, .ref (ad 23))]) hx hb dX7_dealt_1 rfl hl (by decide) rfl (fun ls hl => ?_)
  have lp1 : ∀ (f : Nat) (y2 : Int32) (I3 : z_I) (H : Heap) (locs : List Loc) (ls : Array Slot), (2147483647 < y2.toInt + (f : Int)) → (0 ≤ y2.toInt) → (∃ i : Nat, (i : Int) = y2.toInt ∧ i ≤ ss.length ∧ zv_fi (zv_ax I) a1.toInt (ss.drop i) = zv_fi (zv_ax I) a1.toInt ss) → (z_fr L_X7_dealt_x I3 I) → z_W G A (shC c, ad, I3, JX, PC c ad) H → va_S A s.heap H locs → lv_has ls 5 [(3, .int y2), (0, .ref (ad (200 + 5 * k))), (1, .int a1), (2, .ref (ad 23))] → W p l e (headSpec wsX7_dealt { frames := 4, cells := 0, slots := 0, locals := 111 }).room s m ([.ref (ad (200 + 5 * k)), .int a1, .ref (ad 23)] : List Value).toArray below meth c0 H locs 0 0 (MQ below (va_Qi (fun (r : Int32) (u1 : z_U) => ∃ I1 : z_I, u1 = (shC c, ad, I1, JX, PC c ad) ∧ z_fr L_X7_dealt_x I1 I ∧ r.toInt = zv_fi (zv_ax I) a1.toInt ss) (z_B G A) A) ([.ref (ad (200 + 5 * k)), .int a1, .ref (ad 23)] : List Value).toArray s 0 0 A) (F0 m 2 ls []) := by
    intro f
    induction f with
    | zero => intro y2 I3  H locs ls lp1m lp1l3 lp1B lp1fr hW hS hl; exact absurd lp1m (by have := Int32.toInt_lt y2; have := Int32.le_toInt y2; omega)
    | succ f lp1ih =>
      intro y2 I3  H locs ls lp1m lp1l3 lp1B lp1fr hW hS hl
      obtain ⟨i9, hi9, hn9, hB9⟩ := lp1B
      have cq4 := z_clt (x := y2) rfl (by omega)
      have e9 : i9 = y2.toNatClampNeg := by omega
      subst e9
      have hle9 := hss.1
      refine lv_iload_n hx hb dX7_dealt_2 rfl (lv_at hl 0 rfl) ?_
      refine lv_aload_n hx hb dX7_dealt_3 rfl (lv_at hl 1 rfl) ?_
      refine z_get (T := TX7) (N := 6) (ci := 7) (i := (200 + 5 * k)) (v := .ref (ad (200 + 5 * k + 1))) hx hb hts zj_X7_dealt_X7 hown hK hW (z_so0 hk) rfl 2 (by decide) (hts (.fieldLink RX7 40 "PetrolBoard$Orders" "head" "[I") (me_s (me_l (me_l (me_l (List.mem_of_getElem? (i := 0) rfl)))))) (fun _ h => h) (z_pO rfl rfl) dX7_dealt_4 ?_
      have r4 := (hc k hk).1
      refine z_alen (i := (200 + 5 * k + 1)) (v := (c.2.2.1 k).toInt32) hx hb hK hW (z_so123 hk (by decide)) (by simp [z_tys]) (by rfl) dX7_dealt_7 ?_
      refine lv_icmp_ge (tgt := 73) hx hb dX7_dealt_8 (by decide) (fun c5 => ?_) (fun c5 => ?_)
      · have g6 := z_f_ge rfl (z_len (Nat.le_trans (hc k hk).1 (by decide))) c5
        have b7 := Int32.toInt_lt y2
        refine lv_iconst (v := 0) hx hb dX7_dealt_73 (by decide) ?_
        exact z_iret hx hb hr hK hS (Nat.le_of_ble_eq_true rfl) (Nat.le_of_ble_eq_true rfl) hlocks dX7_dealt_74 (shC c, ad, I3, JX, PC c ad) hW ⟨I3, rfl, lp1fr, (by rw [← hB9, zv_fi_0 (by omega)]; first | done | decide)⟩
      · have g8 := z_f_nge rfl (z_len (Nat.le_trans (hc k hk).1 (by decide))) c5
        have b9 := Int32.toInt_lt y2
        obtain ⟨s9, hs9⟩ := zv_at ss y2.toNatClampNeg (by omega)
        refine lv_aload_n hx hb dX7_dealt_11 rfl (lv_at hl 1 rfl) ?_
        refine z_get (T := TX7) (N := 6) (ci := 7) (i := (200 + 5 * k)) (v := .ref (ad (200 + 5 * k + 1))) hx hb hts zj_X7_dealt_X7 hown hK hW (z_so0 hk) rfl 2 (by decide) (hts (.fieldLink RX7 40 "PetrolBoard$Orders" "head" "[I") (me_s (me_l (me_l (me_l (List.mem_of_getElem? (i := 0) rfl)))))) (fun _ h => h) (z_pO rfl rfl) dX7_dealt_12 ?_
        refine lv_iload_n hx hb dX7_dealt_15 rfl (lv_at hl 0 rfl) ?_
        refine z_iald (i := (200 + 5 * k + 1)) hx hb hK hW (z_so123 hk (by decide)) (z_ix rfl (by omega) (by omega)) dX7_dealt_16 ?_
        refine lv_topi (fun x10 ex10 => ?_)
        have h11 : x10.toInt = s9.1 := by rw [ex10]; exact ((zv_ss_c hss (zv_fr2 lp1fr (by decide))).2.1 _ s9 hs9).1
        refine lv_iload_n hx hb dX7_dealt_17 rfl (lv_at hl 2 rfl) ?_
        refine lv_icmp_ne (tgt := 67) hx hb dX7_dealt_18 (by decide) (fun c12 => ?_) (fun c12 => ?_)
        · have g13 := z_f_ne rfl rfl c12
          have b14 := Int32.toInt_lt x10
          obtain ⟨x15, ex15⟩ : ∃ y : Int32, y = y2 + 1 := ⟨_, rfl⟩
          have tx15 : x15.toInt = y2.toInt + 1 := z_tadd ex15 rfl z_l1 (by omega) (by omega)
          refine lv_iinc (v := x15) (lv' := [(3, .int x15), (0, .ref (ad (200 + 5 * k))), (1, .int a1), (2, .ref (ad 23))]) hx hb dX7_dealt_67 hl (k := 0) rfl (by rw [ex15]; rfl) (by decide) rfl (fun ls hl => ?_)
          refine lv_goto (tgt := 2) hx hb dX7_dealt_70 (by decide) ?_
          exact lp1ih x15 I3  _ _ _ (by omega) (by omega) ⟨_, by omega, by omega, (zv_fi_n hs9 (fun q => absurd q.1 (by omega))).trans hB9⟩ lp1fr hW hS (lv_sub hl [0, 1, 2, 3] rfl)
        · have g16 := z_f_eq rfl rfl c12
          have b17 := Int32.toInt_lt x10
          refine lv_iload_n hx hb dX7_dealt_21 rfl (lv_at hl 0 rfl) ?_
          refine lv_aload_n hx hb dX7_dealt_22 rfl (lv_at hl 1 rfl) ?_
          refine z_get (T := TX7) (N := 6) (ci := 7) (i := (200 + 5 * k)) (v := .ref (ad (200 + 5 * k + 2))) hx hb hts zj_X7_dealt_X7 hown hK hW (z_so0 hk) rfl 3 (by decide) (hts (.fieldLink RX7 44 "PetrolBoard$Orders" "first" "[I") (me_s (me_l (me_l (me_l (List.mem_of_getElem? (i := 1) rfl)))))) (fun _ h => h) (z_pO rfl rfl) dX7_dealt_23 ?_
          have r18 := (hc k hk).1
          refine z_alen (i := (200 + 5 * k + 2)) (v := (c.2.2.1 k).toInt32) hx hb hK hW (z_so123 hk (by decide)) (by simp [z_tys]) (by rfl) dX7_dealt_26 ?_
          refine lv_icmp_ge (tgt := 67) hx hb dX7_dealt_27 (by decide) (fun c19 => ?_) (fun c19 => ?_)
          · have g20 := z_f_ge rfl (z_len (Nat.le_trans (hc k hk).1 (by decide))) c19
            obtain ⟨x21, ex21⟩ : ∃ y : Int32, y = y2 + 1 := ⟨_, rfl⟩
            have tx21 : x21.toInt = y2.toInt + 1 := z_tadd ex21 rfl z_l1 (by omega) (by omega)
            refine lv_iinc (v := x21) (lv' := [(3, .int x21), (0, .ref (ad (200 + 5 * k))), (1, .int a1), (2, .ref (ad 23))]) hx hb dX7_dealt_67 hl (k := 0) rfl (by rw [ex21]; rfl) (by decide) rfl (fun ls hl => ?_)
            refine lv_goto (tgt := 2) hx hb dX7_dealt_70 (by decide) ?_
            exact lp1ih x21 I3  _ _ _ (by omega) (by omega) ⟨_, by omega, by omega, (zv_fi_n hs9 (fun q => absurd q.1 (by omega))).trans hB9⟩ lp1fr hW hS (lv_sub hl [0, 1, 2, 3] rfl)
          · have g22 := z_f_nge rfl (z_len (Nat.le_trans (hc k hk).1 (by decide))) c19
            refine lv_aload_n hx hb dX7_dealt_30 rfl (lv_at hl 1 rfl) ?_
            refine lv_iload_n hx hb dX7_dealt_31 rfl (lv_at hl 0 rfl) ?_
            refine lv_aload_n hx hb dX7_dealt_32 rfl (lv_at hl 3 rfl) ?_
            refine z_ci hW hS hA (va_runV (As := [.int y2, .ref (ad 23)]) (rest := []) ⟨hx, hb, hml, hown, hts⟩ (sx_X7_holds_x l G ad c I3 k s9 y2 hk hc (zv_bA_c hbA (fun j => lp1fr 24 j (z_wr_c (by decide)))) (by have e8 := (zv_ss_c hss (zv_fr2 lp1fr (by decide))).2.1 _ s9 hs9; exact e8) (hss.2.2 _ s9 hs9).2 (by omega) _) (cwV 2 hts gX7_dealt_X7_holds rfl rfl rfl (by decide +kernel) ⟨Nat.le_of_ble_eq_true rfl, Nat.le_of_ble_eq_true rfl⟩) (z_preV (i := (200 + 5 * k)) hK hW (z_so0 hk) rfl) rfl rfl hl.1 rfl (lv_room (Nat.le_of_ble_eq_true rfl)) dX7_dealt_33 ⟨Nat.le_of_ble_eq_true rfl, Nat.le_of_ble_eq_true rfl⟩) (fun r u1 H locs hp hW hS => ?_)
            obtain ⟨I23, e9, fI23, hp⟩ := hp
            rw [e9] at hW
            have f24 := z_fr_sub (L := L_X7_dealt_x) lp1fr fI23 (by decide)
            rcases hp with ⟨rfl, hb25⟩ | ⟨rfl, hb25⟩
            · refine lv_if_eq (tgt := 67) hx hb dX7_dealt_36 (by decide) (fun c26 => absurd c26 (by decide)) (fun c26 => ?_)
              refine lv_aload_n hx hb dX7_dealt_39 rfl (lv_at hl 3 rfl) ?_
              refine lv_aload_n hx hb dX7_dealt_40 rfl (lv_at hl 1 rfl) ?_
              refine z_get (T := TX7) (N := 6) (ci := 7) (i := (200 + 5 * k)) (v := .ref (ad (200 + 5 * k + 4))) hx hb hts zj_X7_dealt_X7 hown hK hW (z_so0 hk) rfl 5 (by decide) (hts (.fieldLink RX7 52 "PetrolBoard$Orders" "code" "[I") (me_s (me_l (me_l (me_l (List.mem_of_getElem? (i := 2) rfl)))))) (fun _ h => h) (z_pO rfl rfl) dX7_dealt_41 ?_
              refine lv_aload_n hx hb dX7_dealt_44 rfl (lv_at hl 1 rfl) ?_
              refine z_get (T := TX7) (N := 6) (ci := 7) (i := (200 + 5 * k)) (v := .ref (ad (200 + 5 * k + 2))) hx hb hts zj_X7_dealt_X7 hown hK hW (z_so0 hk) rfl 3 (by decide) (hts (.fieldLink RX7 44 "PetrolBoard$Orders" "first" "[I") (me_s (me_l (me_l (me_l (List.mem_of_getElem? (i := 1) rfl)))))) (fun _ h => h) (z_pO rfl rfl) dX7_dealt_45 ?_
              refine lv_iload_n hx hb dX7_dealt_48 rfl (lv_at hl 0 rfl) ?_
              have r27 := (hc k hk).1
              refine z_iald (i := (200 + 5 * k + 2)) hx hb hK hW (z_so123 hk (by decide)) (z_ix rfl (by omega) (by omega)) dX7_dealt_49 ?_
              refine lv_topi (fun x28 ex28 => ?_)
              obtain ⟨p9, hp9, hcs9, hcl9⟩ := zv_row1 ((zv_ss_c hss (zv_fr2 f24 (by decide))).2.1 _ s9 hs9) ex28 (by omega)
              have cq9 := z_clt (x := x28) rfl (by omega)
              have ep9 : p9 = x28.toNatClampNeg := by omega
              subst ep9
              refine z_ci hW hS hA (va_runV (As := [.ref (ad (200 + 5 * k + 4)), .int x28]) (rest := []) ⟨hx, hb, hml, hown, hts⟩ (sx_X5_result_x l G ad c I23 k s9.2.2.1 x28 hk hc (by omega) (zv_bA_c hbA (fun j => f24 24 j (z_wr_c (by decide)))) hcs9 (hss.2.2 _ s9 hs9).1 (by omega) _) (cwV 2 hts gX7_dealt_X5_result rfl rfl rfl (by decide +kernel) ⟨Nat.le_of_ble_eq_true rfl, Nat.le_of_ble_eq_true rfl⟩) (z_preV (i := 23) hK hW rfl rfl) rfl rfl hl.1 rfl (lv_room (Nat.le_of_ble_eq_true rfl)) dX7_dealt_50 ⟨Nat.le_of_ble_eq_true rfl, Nat.le_of_ble_eq_true rfl⟩) (fun r u1 H locs hp hW hS => ?_)
              obtain ⟨I29, e9, fI29, hp⟩ := hp
              rw [e9] at hW
              have f30 := z_fr_sub (L := L_X7_dealt_x) f24 fI29 (by decide)
              refine lv_topi (fun x31 ex31 => ?_)
              rw [← ex31] at hp
              have hv32 := hp
              refine lv_istore (lv' := [(4, .int x31), (3, .int y2), (0, .ref (ad (200 + 5 * k))), (1, .int a1), (2, .ref (ad 23))]) hx hb dX7_dealt_53 hl (by decide) rfl (fun ls hl => ?_)
              refine lv_iconst (v := 0) hx hb dX7_dealt_55 (by decide) ?_
              refine lv_bipush (v := 99) hx hb dX7_dealt_56 (by decide) ?_
              refine lv_iload hx hb dX7_dealt_58 (lv_at hl 0 rfl) ?_
              refine va_mmin (x := 99) (y := x31) hx hb (hml.trans hl.1.symm) hown (hts (.methodLink RX7 67 Lib.Math.min.name) (me_s (me_l (me_l (me_l (List.mem_of_getElem? (i := 3) rfl)))))) (hts (.static Lib.Math.min.name) (me_s (me_l (me_l (me_l (List.mem_of_getElem? (i := 4) rfl)))))) (hts (.initialized "java/lang/Math") (me_s (me_l (me_l (me_l (List.mem_of_getElem? (i := 5) rfl)))))) (hts (.code Lib.Math.min.name Lib.Math.min.code 2 (some .int)) (me_s (me_l (me_l (me_l (List.mem_of_getElem? (i := 6) rfl)))))) (Nat.le_of_ble_eq_true rfl) (Nat.le_of_ble_eq_true rfl) (Nat.le_of_ble_eq_true rfl) (Nat.le_of_ble_eq_true rfl) dX7_dealt_60 ?_
              refine lv_topi (fun x33 ex33 => ?_)
              have tx33 := z_tmmin ex33 z_l99 rfl
              refine va_mmax (x := 0) (y := x33) hx hb (hml.trans hl.1.symm) hown (hts (.methodLink RX7 73 Lib.Math.max.name) (me_s (me_l (me_l (me_l (List.mem_of_getElem? (i := 7) rfl)))))) (hts (.static Lib.Math.max.name) (me_s (me_l (me_l (me_l (List.mem_of_getElem? (i := 8) rfl)))))) (hts (.initialized "java/lang/Math") (me_s (me_l (me_l (me_l (List.mem_of_getElem? (i := 5) rfl)))))) (hts (.code Lib.Math.max.name Lib.Math.max.code 2 (some .int)) (me_s (me_l (me_l (me_l (List.mem_of_getElem? (i := 9) rfl)))))) (Nat.le_of_ble_eq_true rfl) (Nat.le_of_ble_eq_true rfl) (Nat.le_of_ble_eq_true rfl) (Nat.le_of_ble_eq_true rfl) dX7_dealt_63 ?_
              refine lv_topi (fun x34 ex34 => ?_)
              have tx34 := z_tmmax ex34 z_l0 rfl
              exact z_iret hx hb hr hK hS (Nat.le_of_ble_eq_true rfl) (Nat.le_of_ble_eq_true rfl) hlocks dX7_dealt_66 (shC c, ad, I29, JX, PC c ad) hW ⟨I29, rfl, f30, (by rw [← hB9, zv_fi_y hs9 (by omega) (zv_cI (zv_ax_c (fun j => lp1fr 24 j (z_wr_c (by decide)))) hb25), ← (zv_ax_c (fun j => f24 24 j (z_wr_c (by decide)))), ← hv32]; exact zv_kmm tx33 tx34)⟩
            · refine lv_if_eq (tgt := 67) hx hb dX7_dealt_36 (by decide) (fun c35 => ?_) (fun c35 => absurd (by decide) c35)
              obtain ⟨x36, ex36⟩ : ∃ y : Int32, y = y2 + 1 := ⟨_, rfl⟩
              have tx36 : x36.toInt = y2.toInt + 1 := z_tadd ex36 rfl z_l1 (by omega) (by omega)
              refine lv_iinc (v := x36) (lv' := [(3, .int x36), (0, .ref (ad (200 + 5 * k))), (1, .int a1), (2, .ref (ad 23))]) hx hb dX7_dealt_67 hl (k := 0) rfl (by rw [ex36]; rfl) (by decide) rfl (fun ls hl => ?_)
              refine lv_goto (tgt := 2) hx hb dX7_dealt_70 (by decide) ?_
              exact lp1ih x36 I23  _ _ _ (by omega) (by omega) ⟨_, by omega, by omega, (zv_fi_n hs9 (fun q => absurd ((zv_cI (zv_ax_c (fun j => lp1fr 24 j (z_wr_c (by decide)))) hb25).symm.trans q.2) Bool.false_ne_true)).trans hB9⟩ f24 hW hS (lv_sub hl [0, 1, 2, 3] rfl)
  exact lp1 4294967296 (0) I  _ _ _ (z_m0u _) (by rw [z_l0]; omega) ⟨0, by decide, Nat.zero_le _, rfl⟩ z_fr_0 hW hS (lv_sub hl [0, 1, 2, 3] rfl)
set_option maxHeartbeats 8000000 in
set_option maxRecDepth 100000 in
theorem sx_X6_putHolder_x_q (l : Launch) (G : z_G) (ad : Nat → Nat) (c : z_C) (I : z_I) (hH : z_iH I) (a2 : Int32) (a3 : Int32) (a4 : Int32) (q2 : 0 ≤ a2.toInt ∧ a2.toInt < (I 1 5).toInt) (q3 : 0 ≤ a3.toInt) : z_Mv l yX6_putHolder wsX6_putHolder { frames := 2, cells := 0, slots := 0, locals := 39 } [.ref (ad 21), .ref (ad 1), .int a2, .int a3, .int a4] G (shC c, ad, I, JX, PC c ad) (fun u1 => ∃ I1 : z_I, u1 = (shC c, ad, I1, JX, PC c ad) ∧ z_iH I1 ∧ z_fr L_X6_putHolder_x I1 I ∧ ((I1 24 0).toInt = (z_kx I a2.toInt a3.toInt a4.toInt (I 1 11).toNatClampNeg).2 ∧ I1 24 1 = I 2 a2.toNatClampNeg ∧ I1 24 2 = I 3 a2.toNatClampNeg ∧ (I1 24 3).toInt = a3.toInt / 30 ∧ ∀ j, 4 ≤ j → I1 24 j = I 24 j)) 0 0 := by
  intro sz
  refine z_headQ (cc := cX6_putHolder) (maxL := 5) (ret := none) (by decide) rfl (Nat.le_of_ble_eq_true rfl) ?_
  intro p e s m below meth c0 ls hIn hK hsz hW hl
  obtain ⟨hx, hb, hr, hml, hown, hts, hlocks, hname⟩ := hIn
  subst hsz
  have hown : s.vm.findClass RX6 = some m.cls := hown
  have hA : ∀ q : Nat, s.heap.size ≤ q → z_A (shC c, ad, I, JX, PC c ad) s.heap.size q := fun q h => Or.inr h
  generalize hAe : z_A (shC c, ad, I, JX, PC c ad) s.heap.size = A at *
  have hS : va_S A s.heap s.heap [] := va_S.rf
  have hl : lv_has ls 5 [(0, .ref (ad 21)), (1, .ref (ad 1)), (2, .int a2), (3, .int a3), (4, .int a4)] := hl
  refine lv_aload_n hx hb dX6_putHolder_0 rfl (lv_at hl 1 rfl) ?_
  refine lv_iload_n hx hb dX6_putHolder_1 rfl (lv_at hl 2 rfl) ?_
  refine z_ci hW hS hA (va_runV (As := [.int a2]) (rest := []) ⟨hx, hb, hml, hown, hts⟩ (sx_X2_has_e l G ad c I ⟨(by show 0 ≤ (I 1 5).toInt ∧ (I 1 5).toInt ≤ 30; exact hH.1), (by show 0 ≤ (I 1 11).toInt ∧ (I 1 11).toInt ≤ 200; exact hH.2)⟩ a2 _) (cwV 1 hts gX6_putHolder_X2_has rfl rfl rfl (by decide +kernel) ⟨Nat.le_of_ble_eq_true rfl, Nat.le_of_ble_eq_true rfl⟩) (z_preV (i := 1) hK hW rfl rfl) rfl rfl hl.1 rfl (lv_room (Nat.le_of_ble_eq_true rfl)) dX6_putHolder_2 ⟨Nat.le_of_ble_eq_true rfl, Nat.le_of_ble_eq_true rfl⟩) (fun r u1 H locs hp hW hS => ?_)
  obtain ⟨e9, hp⟩ := hp
  rw [e9] at hW
  rcases hp with ⟨rfl, h1⟩ | ⟨rfl, h1⟩
  · have h2 := h1
    have r3 : 0 ≤ (I 1 5).toInt ∧ (I 1 5).toInt ≤ 30 := hH.1
    refine lv_if_eq (tgt := 68) hx hb dX6_putHolder_5 (by decide) (fun c4 => absurd c4 (by decide)) (fun c4 => ?_)
    refine lv_aload_n hx hb dX6_putHolder_8 rfl (lv_at hl 0 rfl) ?_
    refine z_get (T := TX6) (N := 3) (ci := 6) (i := 21) (v := .ref (ad 23)) hx hb hts zj_X6_putHolder_X6 hown hK hW rfl rfl 1 (by decide) (hts (.fieldLink RX6 20 "PetrolBoard$OrderBook" "machine" "LPetrolBoard$Machine;") (me_s (me_l (me_l (me_l (List.mem_of_getElem? (i := 0) rfl)))))) (fun _ h => h) rfl dX6_putHolder_9 ?_
    refine z_get (T := TX5) (N := 2) (ci := 5) (i := 23) (v := .ref (ad 24)) hx hb hts zj_X6_putHolder_X5 hown hK hW rfl rfl 0 (by decide) (hts (.fieldLink RX6 93 "PetrolBoard$Machine" "names" "[I") (me_s (me_l (me_l (me_l (List.mem_of_getElem? (i := 1) rfl)))))) (fun _ h => h) rfl dX6_putHolder_12 ?_
    refine lv_iconst (v := 0) hx hb dX6_putHolder_15 (by decide) ?_
    refine lv_aload_n hx hb dX6_putHolder_16 rfl (lv_at hl 1 rfl) ?_
    refine lv_iload_n hx hb dX6_putHolder_17 rfl (lv_at hl 2 rfl) ?_
    refine lv_iload_n hx hb dX6_putHolder_18 rfl (lv_at hl 3 rfl) ?_
    refine lv_iload hx hb dX6_putHolder_19 (lv_at hl 4 rfl) ?_
    refine z_ci hW hS hA (va_runV (As := [.int a2, .int a3, .int a4]) (rest := [.int 0, .ref (ad 24)]) ⟨hx, hb, hml, hown, hts⟩ (sx_X2_kindOn_r l G ad c I ⟨(by show 0 ≤ (I 1 5).toInt ∧ (I 1 5).toInt ≤ 30; exact hH.1), (by show 0 ≤ (I 1 11).toInt ∧ (I 1 11).toInt ≤ 200; exact hH.2)⟩ a2 a3 a4 _) (cwV 3 hts gX6_putHolder_X2_kindOn rfl rfl rfl (by decide +kernel) ⟨Nat.le_of_ble_eq_true rfl, Nat.le_of_ble_eq_true rfl⟩) (z_preV (i := 1) hK hW rfl rfl) rfl rfl hl.1 rfl (lv_room (Nat.le_of_ble_eq_true rfl)) dX6_putHolder_21 ⟨Nat.le_of_ble_eq_true rfl, Nat.le_of_ble_eq_true rfl⟩) (fun r u1 H locs hp hW hS => ?_)
    obtain ⟨e9, hp⟩ := hp
    rw [e9] at hW
    refine lv_topi (fun x5 ex5 => ?_)
    have h6 := hp
    rw [← ex5] at h6
    refine z_iast (i := 24) hx hb hK hW hS rfl (z_inl (by decide)) dX6_putHolder_24 (fun H locs hz1 hW hS => ?_)
    obtain ⟨I7, eI7⟩ : ∃ K : z_I, K = z_up I 24 (0 : Int32).toNatClampNeg x5 := ⟨_, rfl⟩
    rw [← eI7] at hW
    have f8 := z_fr_a z_fr_0 (show z_wa L_X6_putHolder_x 24 = true by decide) eI7
    refine lv_aload_n hx hb dX6_putHolder_25 rfl (lv_at hl 0 rfl) ?_
    refine z_get (T := TX6) (N := 3) (ci := 6) (i := 21) (v := .ref (ad 23)) hx hb hts zj_X6_putHolder_X6 hown hK hW rfl rfl 1 (by decide) (hts (.fieldLink RX6 20 "PetrolBoard$OrderBook" "machine" "LPetrolBoard$Machine;") (me_s (me_l (me_l (me_l (List.mem_of_getElem? (i := 0) rfl)))))) (fun _ h => h) rfl dX6_putHolder_26 ?_
    refine z_get (T := TX5) (N := 2) (ci := 5) (i := 23) (v := .ref (ad 24)) hx hb hts zj_X6_putHolder_X5 hown hK hW rfl rfl 0 (by decide) (hts (.fieldLink RX6 93 "PetrolBoard$Machine" "names" "[I") (me_s (me_l (me_l (me_l (List.mem_of_getElem? (i := 1) rfl)))))) (fun _ h => h) rfl dX6_putHolder_29 ?_
    refine lv_iconst (v := 1) hx hb dX6_putHolder_32 (by decide) ?_
    refine lv_aload_n hx hb dX6_putHolder_33 rfl (lv_at hl 1 rfl) ?_
    refine z_get (T := TX2) (N := 12) (ci := 2) (i := 1) (v := .ref (ad 2)) hx hb hts zj_X6_putHolder_X2 hown hK hW rfl rfl 0 (by decide) (hts (.fieldLink RX6 100 "PetrolBoard$Holders" "size" "[I") (me_s (me_l (me_l (me_l (List.mem_of_getElem? (i := 2) rfl)))))) (fun _ h => h) rfl dX6_putHolder_34 ?_
    refine lv_iload_n hx hb dX6_putHolder_37 rfl (lv_at hl 2 rfl) ?_
    refine z_iald (i := 2) hx hb hK hW rfl (z_ix rfl (by omega) (by omega)) dX6_putHolder_38 ?_
    refine lv_topi (fun x9 ex9 => ?_)
    refine z_iast (i := 24) hx hb hK hW hS rfl (z_inl (by decide)) dX6_putHolder_39 (fun H locs hz1 hW hS => ?_)
    obtain ⟨I10, eI10⟩ : ∃ K : z_I, K = z_up I7 24 (1 : Int32).toNatClampNeg x9 := ⟨_, rfl⟩
    rw [← eI10] at hW
    have f11 := z_fr_a f8 (show z_wa L_X6_putHolder_x 24 = true by decide) eI10
    refine lv_aload_n hx hb dX6_putHolder_40 rfl (lv_at hl 0 rfl) ?_
    refine z_get (T := TX6) (N := 3) (ci := 6) (i := 21) (v := .ref (ad 23)) hx hb hts zj_X6_putHolder_X6 hown hK hW rfl rfl 1 (by decide) (hts (.fieldLink RX6 20 "PetrolBoard$OrderBook" "machine" "LPetrolBoard$Machine;") (me_s (me_l (me_l (me_l (List.mem_of_getElem? (i := 0) rfl)))))) (fun _ h => h) rfl dX6_putHolder_41 ?_
    refine z_get (T := TX5) (N := 2) (ci := 5) (i := 23) (v := .ref (ad 24)) hx hb hts zj_X6_putHolder_X5 hown hK hW rfl rfl 0 (by decide) (hts (.fieldLink RX6 93 "PetrolBoard$Machine" "names" "[I") (me_s (me_l (me_l (me_l (List.mem_of_getElem? (i := 1) rfl)))))) (fun _ h => h) rfl dX6_putHolder_44 ?_
    refine lv_iconst (v := 2) hx hb dX6_putHolder_47 (by decide) ?_
    refine lv_aload_n hx hb dX6_putHolder_48 rfl (lv_at hl 1 rfl) ?_
    refine z_get (T := TX2) (N := 12) (ci := 2) (i := 1) (v := .ref (ad 3)) hx hb hts zj_X6_putHolder_X2 hown hK hW rfl rfl 1 (by decide) (hts (.fieldLink RX6 103 "PetrolBoard$Holders" "town" "[I") (me_s (me_l (me_l (me_l (List.mem_of_getElem? (i := 3) rfl)))))) (fun _ h => h) rfl dX6_putHolder_49 ?_
    refine lv_iload_n hx hb dX6_putHolder_52 rfl (lv_at hl 2 rfl) ?_
    refine z_iald (i := 3) hx hb hK hW rfl (z_ix rfl (by omega) (by omega)) dX6_putHolder_53 ?_
    refine lv_topi (fun x12 ex12 => ?_)
    refine z_iast (i := 24) hx hb hK hW hS rfl (z_inl (by decide)) dX6_putHolder_54 (fun H locs hz1 hW hS => ?_)
    obtain ⟨I13, eI13⟩ : ∃ K : z_I, K = z_up I10 24 (2 : Int32).toNatClampNeg x12 := ⟨_, rfl⟩
    rw [← eI13] at hW
    have f14 := z_fr_a f11 (show z_wa L_X6_putHolder_x 24 = true by decide) eI13
    refine lv_aload_n hx hb dX6_putHolder_55 rfl (lv_at hl 0 rfl) ?_
    refine z_get (T := TX6) (N := 3) (ci := 6) (i := 21) (v := .ref (ad 23)) hx hb hts zj_X6_putHolder_X6 hown hK hW rfl rfl 1 (by decide) (hts (.fieldLink RX6 20 "PetrolBoard$OrderBook" "machine" "LPetrolBoard$Machine;") (me_s (me_l (me_l (me_l (List.mem_of_getElem? (i := 0) rfl)))))) (fun _ h => h) rfl dX6_putHolder_56 ?_
    refine z_get (T := TX5) (N := 2) (ci := 5) (i := 23) (v := .ref (ad 24)) hx hb hts zj_X6_putHolder_X5 hown hK hW rfl rfl 0 (by decide) (hts (.fieldLink RX6 93 "PetrolBoard$Machine" "names" "[I") (me_s (me_l (me_l (me_l (List.mem_of_getElem? (i := 1) rfl)))))) (fun _ h => h) rfl dX6_putHolder_59 ?_
    refine lv_iconst (v := 3) hx hb dX6_putHolder_62 (by decide) ?_
    refine lv_iload_n hx hb dX6_putHolder_63 rfl (lv_at hl 3 rfl) ?_
    refine lv_bipush (v := 30) hx hb dX6_putHolder_64 (by decide) ?_
    refine lv_idiv hx hb dX6_putHolder_66 (by decide) ?_
    refine lv_topi (fun x15 ex15 => ?_)
    have tx15 := z_tdiv ex15 rfl z_l30 (by decide)
    refine z_iast (i := 24) hx hb hK hW hS rfl (z_inl (by decide)) dX6_putHolder_67 (fun H locs hz1 hW hS => ?_)
    obtain ⟨I16, eI16⟩ : ∃ K : z_I, K = z_up I13 24 (3 : Int32).toNatClampNeg x15 := ⟨_, rfl⟩
    rw [← eI16] at hW
    have f17 := z_fr_a f14 (show z_wa L_X6_putHolder_x 24 = true by decide) eI16
    exact z_vret hx hb hr hK hS (Nat.le_of_ble_eq_true rfl) (Nat.le_of_ble_eq_true rfl) hlocks dX6_putHolder_68 (shC c, ad, I16, JX, PC c ad) hW ⟨I16, rfl, ⟨(by show 0 ≤ (I16 1 5).toInt ∧ (I16 1 5).toInt ≤ 30; rw [eI16, z_up_n (by decide), eI13, z_up_n (by decide), eI10, z_up_n (by decide), eI7, z_up_n (by decide)]; exact hH.1), (by show 0 ≤ (I16 1 11).toInt ∧ (I16 1 11).toInt ≤ 200; rw [eI16, z_up_n (by decide), eI13, z_up_n (by decide), eI10, z_up_n (by decide), eI7, z_up_n (by decide)]; exact hH.2)⟩, f17, ⟨(by rw [eI16, z_up_k (by decide), eI13, z_up_k (by decide), eI10, z_up_k (by decide), eI7, show (0 : Int32).toNatClampNeg = 0 from by decide, z_up_s]; exact h6), (by rw [eI16, z_up_k (by decide), eI13, z_up_k (by decide), eI10, show (1 : Int32).toNatClampNeg = 1 from by decide, z_up_s, ex9, eI7, z_up_n (by decide)]), (by rw [eI16, z_up_k (by decide), eI13, show (2 : Int32).toNatClampNeg = 2 from by decide, z_up_s, ex12, eI10, z_up_n (by decide), eI7, z_up_n (by decide)]), (by rw [eI16, show (3 : Int32).toNatClampNeg = 3 from by decide, z_up_s]; exact tx15 (by omega)), (fun j hj => by rw [eI16, show (3 : Int32).toNatClampNeg = 3 from by decide, z_up_k (by omega), eI13, show (2 : Int32).toNatClampNeg = 2 from by decide, z_up_k (by omega), eI10, show (1 : Int32).toNatClampNeg = 1 from by decide, z_up_k (by omega), eI7, show (0 : Int32).toNatClampNeg = 0 from by decide, z_up_k (by omega)])⟩⟩
  · have h18 := h1
    have r19 : 0 ≤ (I 1 5).toInt ∧ (I 1 5).toInt ≤ 30 := hH.1
    refine lv_if_eq (tgt := 68) hx hb dX6_putHolder_5 (by decide) (fun c20 => ?_) (fun c20 => absurd (by decide) c20)
    exact z_vret hx hb hr hK hS (Nat.le_of_ble_eq_true rfl) (Nat.le_of_ble_eq_true rfl) hlocks dX6_putHolder_68 (shC c, ad, I, JX, PC c ad) hW ⟨I, rfl, ⟨(by show 0 ≤ (I 1 5).toInt ∧ (I 1 5).toInt ≤ 30; exact hH.1), (by show 0 ≤ (I 1 11).toInt ∧ (I 1 11).toInt ≤ 200; exact hH.2)⟩, z_fr_0, (by exfalso; omega)⟩
