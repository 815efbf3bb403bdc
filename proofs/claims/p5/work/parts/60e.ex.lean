

set_option maxHeartbeats 8000000 in
set_option maxRecDepth 100000 in
theorem sx_X11_within_e (l : Launch) (G : z_G) (ad : Nat → Nat) (c : z_C) (I : z_I) (a1 : Int32) (a2 : Int32) (a3 : Int32) : z_M l yX11_within wsX11_within { frames := 1, cells := 0, slots := 0, locals := 12 } [.int a1, .int a2, .int a3] G (shC c, ad, I, JX, PC c ad) (fun r u1 => u1 = (shC c, ad, I, JX, PC c ad) ∧ ((r = 1 ∧ a2.toInt ≤ a1.toInt ∧ a1.toInt ≤ a3.toInt) ∨ (r = 0 ∧ ¬ (a2.toInt ≤ a1.toInt ∧ a1.toInt ≤ a3.toInt)))) 0 0 := by
  intro sz
  refine z_headQ (cc := cX11_within) (maxL := 3) (ret := (some .boolean)) (by decide) rfl (Nat.le_of_ble_eq_true rfl) ?_
  intro p e s m below meth c0 ls hIn hK hsz hW hl
  obtain ⟨hx, hb, hr, hml, hown, hts, hlocks, hname⟩ := hIn
  subst hsz
  have hown : s.vm.findClass RX11 = some m.cls := hown
  have hA : ∀ q : Nat, s.heap.size ≤ q → z_A (shC c, ad, I, JX, PC c ad) s.heap.size q := fun q h => Or.inr h
  generalize hAe : z_A (shC c, ad, I, JX, PC c ad) s.heap.size = A at *
  have hS : va_S A s.heap s.heap [] := va_S.rf
  have hl : lv_has ls 3 [(0, .int a1), (1, .int a2), (2, .int a3)] := hl
  refine lv_iload_n hx hb dX11_within_0 rfl (lv_at hl 0 rfl) ?_
  refine lv_iload_n hx hb dX11_within_1 rfl (lv_at hl 1 rfl) ?_
  refine lv_icmp_lt (tgt := 14) hx hb dX11_within_2 (by decide) (fun c1 => ?_) (fun c1 => ?_)
  · have g2 := z_f_lt rfl rfl c1
    have b3 := Int32.toInt_lt a1
    have b4 := Int32.toInt_lt a2
    refine lv_iconst (v := 0) hx hb dX11_within_14 (by decide) ?_
    exact z_zret hx hb hr (by decide) hK hS (Nat.le_of_ble_eq_true rfl) (Nat.le_of_ble_eq_true rfl) hlocks dX11_within_15 (shC c, ad, I, JX, PC c ad) hW ⟨rfl, (Or.inr ⟨rfl, by omega⟩)⟩
  · have g5 := z_f_nlt rfl rfl c1
    have b6 := Int32.toInt_lt a1
    have b7 := Int32.toInt_lt a2
    refine lv_iload_n hx hb dX11_within_5 rfl (lv_at hl 0 rfl) ?_
    refine lv_iload_n hx hb dX11_within_6 rfl (lv_at hl 2 rfl) ?_
    refine lv_icmp_gt (tgt := 14) hx hb dX11_within_7 (by decide) (fun c8 => ?_) (fun c8 => ?_)
    · have g9 := z_f_gt rfl rfl c8
      have b10 := Int32.toInt_lt a3
      refine lv_iconst (v := 0) hx hb dX11_within_14 (by decide) ?_
      exact z_zret hx hb hr (by decide) hK hS (Nat.le_of_ble_eq_true rfl) (Nat.le_of_ble_eq_true rfl) hlocks dX11_within_15 (shC c, ad, I, JX, PC c ad) hW ⟨rfl, (Or.inr ⟨rfl, by omega⟩)⟩
    · have g11 := z_f_ngt rfl rfl c8
      have b12 := Int32.toInt_lt a3
      refine lv_iconst (v := 1) hx hb dX11_within_10 (by decide) ?_
      refine lv_goto (tgt := 15) hx hb dX11_within_11 (by decide) ?_
      exact z_zret hx hb hr (by decide) hK hS (Nat.le_of_ble_eq_true rfl) (Nat.le_of_ble_eq_true rfl) hlocks dX11_within_15 (shC c, ad, I, JX, PC c ad) hW ⟨rfl, (Or.inl ⟨rfl, by omega⟩)⟩
set_option maxHeartbeats 8000000 in
set_option maxRecDepth 100000 in
theorem sx_X11_isDay_e (l : Launch) (G : z_G) (ad : Nat → Nat) (c : z_C) (I : z_I) (a1 : Int32) : z_M l yX11_isDay wsX11_isDay { frames := 2, cells := 0, slots := 0, locals := 34 } [.int a1] G (shC c, ad, I, JX, PC c ad) (fun r u1 => u1 = (shC c, ad, I, JX, PC c ad) ∧ ((r = 1 ∧ 0 ≤ a1.toInt ∧ a1.toInt ≤ 719) ∨ (r = 0 ∧ ¬ (0 ≤ a1.toInt ∧ a1.toInt ≤ 719)))) 0 0 := by
  intro sz
  refine z_headQ (cc := cX11_isDay) (maxL := 1) (ret := (some .boolean)) (by decide) rfl (Nat.le_of_ble_eq_true rfl) ?_
  intro p e s m below meth c0 ls hIn hK hsz hW hl
  obtain ⟨hx, hb, hr, hml, hown, hts, hlocks, hname⟩ := hIn
  subst hsz
  have hown : s.vm.findClass RX11 = some m.cls := hown
  have hA : ∀ q : Nat, s.heap.size ≤ q → z_A (shC c, ad, I, JX, PC c ad) s.heap.size q := fun q h => Or.inr h
  generalize hAe : z_A (shC c, ad, I, JX, PC c ad) s.heap.size = A at *
  have hS : va_S A s.heap s.heap [] := va_S.rf
  have hl : lv_has ls 1 [(0, .int a1)] := hl
  refine lv_iload_n hx hb dX11_isDay_0 rfl (lv_at hl 0 rfl) ?_
  refine lv_iconst (v := 0) hx hb dX11_isDay_1 (by decide) ?_
  refine lv_sipush (v := 719) hx hb dX11_isDay_2 (by decide) ?_
  refine z_ci hW hS hA (va_runS (As := [.int a1, .int 0, .int 719]) (rest := []) ⟨hx, hb, hml, hown, hts⟩ (sx_X11_within_e l G ad c I  a1 0 719 _) (va_cwS 3 hts gX11_isDay_X11_within rfl rfl rfl hy_X11_within.2 ⟨Nat.le_of_ble_eq_true rfl, Nat.le_of_ble_eq_true rfl⟩) (z_preS hK hW) rfl rfl hl.1 rfl (lv_room (Nat.le_of_ble_eq_true rfl)) dX11_isDay_5 ⟨Nat.le_of_ble_eq_true rfl, Nat.le_of_ble_eq_true rfl⟩) (fun r u1 H locs hp hW hS => ?_)
  obtain ⟨e9, hp⟩ := hp
  rw [e9] at hW
  rcases hp with ⟨rfl, h1⟩ | ⟨rfl, h1⟩
  · have h2 := h1
    have z3 := z_l0
    have z4 := z_l719
    exact z_zret hx hb hr (by decide) hK hS (Nat.le_of_ble_eq_true rfl) (Nat.le_of_ble_eq_true rfl) hlocks dX11_isDay_8 (shC c, ad, I, JX, PC c ad) hW ⟨rfl, (Or.inl ⟨rfl, by omega⟩)⟩
  · have h5 := h1
    have z6 := z_l0
    have z7 := z_l719
    exact z_zret hx hb hr (by decide) hK hS (Nat.le_of_ble_eq_true rfl) (Nat.le_of_ble_eq_true rfl) hlocks dX11_isDay_8 (shC c, ad, I, JX, PC c ad) hW ⟨rfl, (Or.inr ⟨rfl, by omega⟩)⟩
set_option maxHeartbeats 8000000 in
set_option maxRecDepth 100000 in
theorem sx_X2_has_e (l : Launch) (G : z_G) (ad : Nat → Nat) (c : z_C) (I : z_I) (hH : z_iH I) (a1 : Int32) : z_M l yX2_has wsX2_has { frames := 1, cells := 0, slots := 0, locals := 12 } [.ref (ad 1), .int a1] G (shC c, ad, I, JX, PC c ad) (fun r u1 => u1 = (shC c, ad, I, JX, PC c ad) ∧ ((r = 1 ∧ 0 ≤ a1.toInt ∧ a1.toInt < (I 1 5).toInt) ∨ (r = 0 ∧ ¬ (0 ≤ a1.toInt ∧ a1.toInt < (I 1 5).toInt)))) 0 0 := by
  intro sz
  refine z_headQ (cc := cX2_has) (maxL := 2) (ret := (some .boolean)) (by decide) rfl (Nat.le_of_ble_eq_true rfl) ?_
  intro p e s m below meth c0 ls hIn hK hsz hW hl
  obtain ⟨hx, hb, hr, hml, hown, hts, hlocks, hname⟩ := hIn
  subst hsz
  have hown : s.vm.findClass RX2 = some m.cls := hown
  have hA : ∀ q : Nat, s.heap.size ≤ q → z_A (shC c, ad, I, JX, PC c ad) s.heap.size q := fun q h => Or.inr h
  generalize hAe : z_A (shC c, ad, I, JX, PC c ad) s.heap.size = A at *
  have hS : va_S A s.heap s.heap [] := va_S.rf
  have hl : lv_has ls 2 [(0, .ref (ad 1)), (1, .int a1)] := hl
  refine lv_iload_n hx hb dX2_has_0 rfl (lv_at hl 1 rfl) ?_
  refine lv_if_lt (tgt := 22) hx hb dX2_has_1 (by decide) (fun c1 => ?_) (fun c1 => ?_)
  · have g2 := z_f_lt rfl z_l0 c1
    have b3 := Int32.toInt_lt a1
    refine lv_iconst (v := 0) hx hb dX2_has_22 (by decide) ?_
    exact z_zret hx hb hr (by decide) hK hS (Nat.le_of_ble_eq_true rfl) (Nat.le_of_ble_eq_true rfl) hlocks dX2_has_23 (shC c, ad, I, JX, PC c ad) hW ⟨rfl, (Or.inr ⟨rfl, by omega⟩)⟩
  · have g4 := z_f_nlt rfl z_l0 c1
    have b5 := Int32.toInt_lt a1
    refine lv_iload_n hx hb dX2_has_4 rfl (lv_at hl 1 rfl) ?_
    refine lv_aload_n hx hb dX2_has_5 rfl (lv_at hl 0 rfl) ?_
    have r6 : 0 ≤ (I 1 5).toInt ∧ (I 1 5).toInt ≤ 30 := hH.1
    refine z_get (T := TX2) (N := 12) (ci := 2) (i := 1) (v := .int (I 1 5)) hx hb hts zj_X2_has_X2 hown hK hW rfl rfl 5 (by decide) (hts (.fieldLink RX2 42 "PetrolBoard$Holders" "number" "I") (me_s (me_l (List.mem_of_getElem? (i := 0) rfl)))) (fun _ h => h) rfl dX2_has_6 ?_
    refine lv_icmp_ge (tgt := 22) hx hb dX2_has_9 (by decide) (fun c7 => ?_) (fun c7 => ?_)
    · have g8 := z_f_ge rfl rfl c7
      refine lv_iconst (v := 0) hx hb dX2_has_22 (by decide) ?_
      exact z_zret hx hb hr (by decide) hK hS (Nat.le_of_ble_eq_true rfl) (Nat.le_of_ble_eq_true rfl) hlocks dX2_has_23 (shC c, ad, I, JX, PC c ad) hW ⟨rfl, (Or.inr ⟨rfl, by omega⟩)⟩
    · have g9 := z_f_nge rfl rfl c7
      refine lv_iload_n hx hb dX2_has_12 rfl (lv_at hl 1 rfl) ?_
      refine lv_bipush (v := 30) hx hb dX2_has_13 (by decide) ?_
      refine lv_icmp_ge (tgt := 22) hx hb dX2_has_15 (by decide) (fun c10 => (by have g := z_f_ge rfl z_l30 c10; omega)) (fun c10 => ?_)
      have g11 := z_f_nge rfl z_l30 c10
      refine lv_iconst (v := 1) hx hb dX2_has_18 (by decide) ?_
      refine lv_goto (tgt := 23) hx hb dX2_has_19 (by decide) ?_
      exact z_zret hx hb hr (by decide) hK hS (Nat.le_of_ble_eq_true rfl) (Nat.le_of_ble_eq_true rfl) hlocks dX2_has_23 (shC c, ad, I, JX, PC c ad) hW ⟨rfl, (Or.inl ⟨rfl, by omega⟩)⟩
noncomputable def L_X2_add_e : z_L := [(2, 999), (3, 999), (4, 999), (5, 999), (6, 999), (1, 5)]
set_option maxHeartbeats 8000000 in
set_option maxRecDepth 100000 in
theorem sx_X2_add_e (l : Launch) (G : z_G) (ad : Nat → Nat) (c : z_C) (I : z_I) (hH : z_iH I) (a1 : Int32) (a2 : Int32) (a3 : Int32) (a4 : Int32) (a5 : Int32) : z_M l yX2_add wsX2_add { frames := 1, cells := 0, slots := 0, locals := 12 } [.ref (ad 1), .int a1, .int a2, .int a3, .int a4, .int a5] G (shC c, ad, I, JX, PC c ad) (fun r u1 => ∃ I1 : z_I, u1 = (shC c, ad, I1, JX, PC c ad) ∧ z_iH I1 ∧ z_fr L_X2_add_e I1 I ∧ ((((I 1 5).toInt < 30) ∧ r.toInt = (I 1 5).toInt ∧ (I1 1 5).toInt = (I 1 5).toInt + 1) ∨ (¬ ((I 1 5).toInt < 30) ∧ r.toInt = -1 ∧ (I1 1 5).toInt = (I 1 5).toInt))) 0 0 := by
  intro sz
  refine z_headQ (cc := cX2_add) (maxL := 6) (ret := (some .int)) (by decide) rfl (Nat.le_of_ble_eq_true rfl) ?_
  intro p e s m below meth c0 ls hIn hK hsz hW hl
  obtain ⟨hx, hb, hr, hml, hown, hts, hlocks, hname⟩ := hIn
  subst hsz
  have hown : s.vm.findClass RX2 = some m.cls := hown
  have hA : ∀ q : Nat, s.heap.size ≤ q → z_A (shC c, ad, I, JX, PC c ad) s.heap.size q := fun q h => Or.inr h
  generalize hAe : z_A (shC c, ad, I, JX, PC c ad) s.heap.size = A at *
  have hS : va_S A s.heap s.heap [] := va_S.rf
  have hl : lv_has ls 6 [(0, .ref (ad 1)), (1, .int a1), (2, .int a2), (3, .int a3), (4, .int a4), (5, .int a5)] := hl
  refine lv_aload_n hx hb dX2_add_0 rfl (lv_at hl 0 rfl) ?_
  have r1 : 0 ≤ (I 1 5).toInt ∧ (I 1 5).toInt ≤ 30 := hH.1
  refine z_get (T := TX2) (N := 12) (ci := 2) (i := 1) (v := .int (I 1 5)) hx hb hts zj_X2_add_X2 hown hK hW rfl rfl 5 (by decide) (hts (.fieldLink RX2 42 "PetrolBoard$Holders" "number" "I") (me_s (me_l (List.mem_of_getElem? (i := 0) rfl)))) (fun _ h => h) rfl dX2_add_1 ?_
  refine lv_bipush (v := 30) hx hb dX2_add_4 (by decide) ?_
  refine lv_icmp_lt (tgt := 11) hx hb dX2_add_6 (by decide) (fun c2 => ?_) (fun c2 => ?_)
  · have g3 := z_f_lt rfl z_l30 c2
    refine lv_aload_n hx hb dX2_add_11 rfl (lv_at hl 0 rfl) ?_
    refine z_get (T := TX2) (N := 12) (ci := 2) (i := 1) (v := .ref (ad 2)) hx hb hts zj_X2_add_X2 hown hK hW rfl rfl 0 (by decide) (hts (.fieldLink RX2 9 "PetrolBoard$Holders" "size" "[I") (me_s (me_l (List.mem_of_getElem? (i := 1) rfl)))) (fun _ h => h) rfl dX2_add_12 ?_
    refine lv_aload_n hx hb dX2_add_15 rfl (lv_at hl 0 rfl) ?_
    refine z_get (T := TX2) (N := 12) (ci := 2) (i := 1) (v := .int (I 1 5)) hx hb hts zj_X2_add_X2 hown hK hW rfl rfl 5 (by decide) (hts (.fieldLink RX2 42 "PetrolBoard$Holders" "number" "I") (me_s (me_l (List.mem_of_getElem? (i := 0) rfl)))) (fun _ h => h) rfl dX2_add_16 ?_
    refine lv_iload_n hx hb dX2_add_19 rfl (lv_at hl 1 rfl) ?_
    refine z_iast (i := 2) hx hb hK hW hS rfl (z_ix rfl (by omega) (by omega)) dX2_add_20 (fun H locs hz1 hW hS => ?_)
    obtain ⟨I4, eI4⟩ : ∃ K : z_I, K = z_up I 2 (I 1 5).toNatClampNeg a1 := ⟨_, rfl⟩
    rw [← eI4] at hW
    have f5 := z_fr_a z_fr_0 (show z_wa L_X2_add_e 2 = true by decide) eI4
    refine lv_aload_n hx hb dX2_add_21 rfl (lv_at hl 0 rfl) ?_
    refine z_get (T := TX2) (N := 12) (ci := 2) (i := 1) (v := .ref (ad 3)) hx hb hts zj_X2_add_X2 hown hK hW rfl rfl 1 (by decide) (hts (.fieldLink RX2 15 "PetrolBoard$Holders" "town" "[I") (me_s (me_l (List.mem_of_getElem? (i := 2) rfl)))) (fun _ h => h) rfl dX2_add_22 ?_
    refine lv_aload_n hx hb dX2_add_25 rfl (lv_at hl 0 rfl) ?_
    refine z_get (T := TX2) (N := 12) (ci := 2) (i := 1) (v := .int (I 1 5)) hx hb hts zj_X2_add_X2 hown hK hW rfl rfl 5 (by decide) (hts (.fieldLink RX2 42 "PetrolBoard$Holders" "number" "I") (me_s (me_l (List.mem_of_getElem? (i := 0) rfl)))) (fun _ h => h) (congrArg Value.int (by rw [eI4, z_up_n (by decide)])) dX2_add_26 ?_
    refine lv_iload_n hx hb dX2_add_29 rfl (lv_at hl 2 rfl) ?_
    refine z_iast (i := 3) hx hb hK hW hS rfl (z_ix rfl (by omega) (by omega)) dX2_add_30 (fun H locs hz1 hW hS => ?_)
    obtain ⟨I6, eI6⟩ : ∃ K : z_I, K = z_up I4 3 (I 1 5).toNatClampNeg a2 := ⟨_, rfl⟩
    rw [← eI6] at hW
    have f7 := z_fr_a f5 (show z_wa L_X2_add_e 3 = true by decide) eI6
    refine lv_aload_n hx hb dX2_add_31 rfl (lv_at hl 0 rfl) ?_
    refine z_get (T := TX2) (N := 12) (ci := 2) (i := 1) (v := .ref (ad 4)) hx hb hts zj_X2_add_X2 hown hK hW rfl rfl 2 (by decide) (hts (.fieldLink RX2 18 "PetrolBoard$Holders" "seats" "[I") (me_s (me_l (List.mem_of_getElem? (i := 3) rfl)))) (fun _ h => h) rfl dX2_add_32 ?_
    refine lv_aload_n hx hb dX2_add_35 rfl (lv_at hl 0 rfl) ?_
    refine z_get (T := TX2) (N := 12) (ci := 2) (i := 1) (v := .int (I 1 5)) hx hb hts zj_X2_add_X2 hown hK hW rfl rfl 5 (by decide) (hts (.fieldLink RX2 42 "PetrolBoard$Holders" "number" "I") (me_s (me_l (List.mem_of_getElem? (i := 0) rfl)))) (fun _ h => h) (congrArg Value.int (by rw [eI6, z_up_n (by decide), eI4, z_up_n (by decide)])) dX2_add_36 ?_
    refine lv_iload_n hx hb dX2_add_39 rfl (lv_at hl 3 rfl) ?_
    refine z_iast (i := 4) hx hb hK hW hS rfl (z_ix rfl (by omega) (by omega)) dX2_add_40 (fun H locs hz1 hW hS => ?_)
    obtain ⟨I8, eI8⟩ : ∃ K : z_I, K = z_up I6 4 (I 1 5).toNatClampNeg a3 := ⟨_, rfl⟩
    rw [← eI8] at hW
    have f9 := z_fr_a f7 (show z_wa L_X2_add_e 4 = true by decide) eI8
    refine lv_aload_n hx hb dX2_add_41 rfl (lv_at hl 0 rfl) ?_
    refine z_get (T := TX2) (N := 12) (ci := 2) (i := 1) (v := .ref (ad 5)) hx hb hts zj_X2_add_X2 hown hK hW rfl rfl 3 (by decide) (hts (.fieldLink RX2 21 "PetrolBoard$Holders" "bid" "[I") (me_s (me_l (List.mem_of_getElem? (i := 4) rfl)))) (fun _ h => h) rfl dX2_add_42 ?_
    refine lv_aload_n hx hb dX2_add_45 rfl (lv_at hl 0 rfl) ?_
    refine z_get (T := TX2) (N := 12) (ci := 2) (i := 1) (v := .int (I 1 5)) hx hb hts zj_X2_add_X2 hown hK hW rfl rfl 5 (by decide) (hts (.fieldLink RX2 42 "PetrolBoard$Holders" "number" "I") (me_s (me_l (List.mem_of_getElem? (i := 0) rfl)))) (fun _ h => h) (congrArg Value.int (by rw [eI8, z_up_n (by decide), eI6, z_up_n (by decide), eI4, z_up_n (by decide)])) dX2_add_46 ?_
    refine lv_iload hx hb dX2_add_49 (lv_at hl 4 rfl) ?_
    refine z_iast (i := 5) hx hb hK hW hS rfl (z_ix rfl (by omega) (by omega)) dX2_add_51 (fun H locs hz1 hW hS => ?_)
    obtain ⟨I10, eI10⟩ : ∃ K : z_I, K = z_up I8 5 (I 1 5).toNatClampNeg a4 := ⟨_, rfl⟩
    rw [← eI10] at hW
    have f11 := z_fr_a f9 (show z_wa L_X2_add_e 5 = true by decide) eI10
    refine lv_aload_n hx hb dX2_add_52 rfl (lv_at hl 0 rfl) ?_
    refine z_get (T := TX2) (N := 12) (ci := 2) (i := 1) (v := .ref (ad 6)) hx hb hts zj_X2_add_X2 hown hK hW rfl rfl 4 (by decide) (hts (.fieldLink RX2 24 "PetrolBoard$Holders" "need" "[I") (me_s (me_l (List.mem_of_getElem? (i := 5) rfl)))) (fun _ h => h) rfl dX2_add_53 ?_
    refine lv_aload_n hx hb dX2_add_56 rfl (lv_at hl 0 rfl) ?_
    refine z_get (T := TX2) (N := 12) (ci := 2) (i := 1) (v := .int (I 1 5)) hx hb hts zj_X2_add_X2 hown hK hW rfl rfl 5 (by decide) (hts (.fieldLink RX2 42 "PetrolBoard$Holders" "number" "I") (me_s (me_l (List.mem_of_getElem? (i := 0) rfl)))) (fun _ h => h) (congrArg Value.int (by rw [eI10, z_up_n (by decide), eI8, z_up_n (by decide), eI6, z_up_n (by decide), eI4, z_up_n (by decide)])) dX2_add_57 ?_
    refine lv_iload hx hb dX2_add_60 (lv_at hl 5 rfl) ?_
    refine z_iast (i := 6) hx hb hK hW hS rfl (z_ix rfl (by omega) (by omega)) dX2_add_62 (fun H locs hz1 hW hS => ?_)
    obtain ⟨I12, eI12⟩ : ∃ K : z_I, K = z_up I10 6 (I 1 5).toNatClampNeg a5 := ⟨_, rfl⟩
    rw [← eI12] at hW
    have f13 := z_fr_a f11 (show z_wa L_X2_add_e 6 = true by decide) eI12
    refine lv_aload_n hx hb dX2_add_63 rfl (lv_at hl 0 rfl) ?_
    refine lv_dup hx hb dX2_add_64 rfl ?_
    refine z_get (T := TX2) (N := 12) (ci := 2) (i := 1) (v := .int (I 1 5)) hx hb hts zj_X2_add_X2 hown hK hW rfl rfl 5 (by decide) (hts (.fieldLink RX2 42 "PetrolBoard$Holders" "number" "I") (me_s (me_l (List.mem_of_getElem? (i := 0) rfl)))) (fun _ h => h) (congrArg Value.int (by rw [eI12, z_up_n (by decide), eI10, z_up_n (by decide), eI8, z_up_n (by decide), eI6, z_up_n (by decide), eI4, z_up_n (by decide)])) dX2_add_65 ?_
    refine lv_iconst (v := 1) hx hb dX2_add_68 (by decide) ?_
    refine lv_iadd hx hb dX2_add_69 ?_
    refine lv_topi (fun x14 ex14 => ?_)
    have tx14 : x14.toInt = (I 1 5).toInt + 1 := z_tadd ex14 rfl z_l1 (by omega) (by omega)
    refine z_put (T := TX2) (N := 12) (ci := 2) (i := 1) (v := .int x14) (I1 := z_up I12 1 5 x14) (J1 := JX) (P1 := PC c ad) hx hb hts zj_X2_add_X2 tyX2 tyX2_ok nmX2 hown hK hW hS rfl rfl 5 (by decide) (hts (.fieldLink RX2 42 "PetrolBoard$Holders" "number" "I") (me_s (me_l (List.mem_of_getElem? (i := 0) rfl)))) (fun _ h => h) rfl rfl rfl (by first | rfl | exact congrArg _ z_up_s) (fun a b h ty => z_vI h ty) dX2_add_70 (fun H locs hz1 hW hS => ?_)
    obtain ⟨I15, eI15⟩ : ∃ K : z_I, K = z_up I12 1 5 x14 := ⟨_, rfl⟩
    rw [← eI15] at hW
    have f16 := z_fr_k f13 (show z_wr L_X2_add_e 1 5 = true by decide) eI15
    refine lv_aload_n hx hb dX2_add_73 rfl (lv_at hl 0 rfl) ?_
    refine z_get (T := TX2) (N := 12) (ci := 2) (i := 1) (v := .int x14) hx hb hts zj_X2_add_X2 hown hK hW rfl rfl 5 (by decide) (hts (.fieldLink RX2 42 "PetrolBoard$Holders" "number" "I") (me_s (me_l (List.mem_of_getElem? (i := 0) rfl)))) (fun _ h => h) (congrArg Value.int (by rw [eI15, z_up_s])) dX2_add_74 ?_
    refine lv_iconst (v := 1) hx hb dX2_add_77 (by decide) ?_
    refine lv_isub hx hb dX2_add_78 ?_
    refine lv_topi (fun x17 ex17 => ?_)
    have tx17 : x17.toInt = x14.toInt - 1 := z_tsub ex17 rfl z_l1 (by omega) (by omega)
    exact z_iret hx hb hr hK hS (Nat.le_of_ble_eq_true rfl) (Nat.le_of_ble_eq_true rfl) hlocks dX2_add_79 (shC c, ad, I15, JX, PC c ad) hW ⟨I15, rfl, ⟨(by show 0 ≤ (I15 1 5).toInt ∧ (I15 1 5).toInt ≤ 30; rw [eI15, z_up_s]; omega), (by show 0 ≤ (I15 1 11).toInt ∧ (I15 1 11).toInt ≤ 200; rw [eI15, z_up_k (by decide), eI12, z_up_n (by decide), eI10, z_up_n (by decide), eI8, z_up_n (by decide), eI6, z_up_n (by decide), eI4, z_up_n (by decide)]; exact hH.2)⟩, f16, (Or.inl ⟨by omega, by omega, (by have q9 : (I15 1 5) = x14 := (by rw [eI15, z_up_s]); show (I15 1 5).toInt = (I 1 5).toInt + 1; rw [q9]; first | done | omega)⟩)⟩
  · have g18 := z_f_nlt rfl z_l30 c2
    refine lv_iconst (v := (-1)) hx hb dX2_add_9 (by decide) ?_
    exact z_iret hx hb hr hK hS (Nat.le_of_ble_eq_true rfl) (Nat.le_of_ble_eq_true rfl) hlocks dX2_add_10 (shC c, ad, I, JX, PC c ad) hW ⟨I, rfl, ⟨(by show 0 ≤ (I 1 5).toInt ∧ (I 1 5).toInt ≤ 30; exact hH.1), (by show 0 ≤ (I 1 11).toInt ∧ (I 1 11).toInt ≤ 200; exact hH.2)⟩, z_fr_0, (Or.inr ⟨by omega, by decide, (by show (I 1 5).toInt = (I 1 5).toInt; omega)⟩)⟩
noncomputable def L_X11_holder_e : z_L := [(2, 999), (3, 999), (4, 999), (5, 999), (6, 999), (1, 5)]
set_option maxHeartbeats 8000000 in
set_option maxRecDepth 100000 in
theorem sx_X11_holder_e (l : Launch) (G : z_G) (ad : Nat → Nat) (c : z_C) (I : z_I) (hH : z_iH I) (a1 : Int32) (a2 : Int32) (a3 : Int32) (a4 : Int32) (a5 : Int32) (hc : z_okc c) (h10 : c.1 ≤ 10) : z_M l yX11_holder wsX11_holder { frames := 2, cells := 0, slots := 0, locals := 37 } [.ref (ad 0), .int a1, .int a2, .int a3, .int a4, .int a5] G (shC c, ad, I, JX, PC c ad) (fun r u1 => ∃ I1 : z_I, u1 = (shC c, ad, I1, JX, PC c ad) ∧ z_iH I1 ∧ z_fr L_X11_holder_e I1 I ∧ (((1 ≤ a1.toInt ∧ a1.toInt ≤ 9 ∧ 0 ≤ a2.toInt ∧ a2.toInt ≤ 9 ∧ 1 ≤ a3.toInt ∧ a3.toInt ≤ 8 ∧ 0 ≤ a4.toInt ∧ a4.toInt ≤ 999 ∧ 0 ≤ a5.toInt ∧ a5.toInt ≤ 99 ∧ (I 1 5).toInt < 30) ∧ r.toInt = (I 1 5).toInt ∧ (I1 1 5).toInt = (I 1 5).toInt + 1) ∨ (¬ (1 ≤ a1.toInt ∧ a1.toInt ≤ 9 ∧ 0 ≤ a2.toInt ∧ a2.toInt ≤ 9 ∧ 1 ≤ a3.toInt ∧ a3.toInt ≤ 8 ∧ 0 ≤ a4.toInt ∧ a4.toInt ≤ 999 ∧ 0 ≤ a5.toInt ∧ a5.toInt ≤ 99 ∧ (I 1 5).toInt < 30) ∧ r.toInt = -1 ∧ (I1 1 5).toInt = (I 1 5).toInt))) 0 0 := by
  intro sz
  refine z_headQ (cc := cX11_holder) (maxL := 6) (ret := (some .int)) (by decide) rfl (Nat.le_of_ble_eq_true rfl) ?_
  intro p e s m below meth c0 ls hIn hK hsz hW hl
  obtain ⟨hx, hb, hr, hml, hown, hts, hlocks, hname⟩ := hIn
  subst hsz
  have hown : s.vm.findClass RX11 = some m.cls := hown
  have hA : ∀ q : Nat, s.heap.size ≤ q → z_A (shC c, ad, I, JX, PC c ad) s.heap.size q := fun q h => Or.inr h
  generalize hAe : z_A (shC c, ad, I, JX, PC c ad) s.heap.size = A at *
  have hS : va_S A s.heap s.heap [] := va_S.rf
  have hl : lv_has ls 6 [(0, .ref (ad 0)), (1, .int a1), (2, .int a2), (3, .int a3), (4, .int a4), (5, .int a5)] := hl
  refine lv_iload_n hx hb dX11_holder_0 rfl (lv_at hl 1 rfl) ?_
  refine lv_iconst (v := 1) hx hb dX11_holder_1 (by decide) ?_
  refine lv_bipush (v := 9) hx hb dX11_holder_2 (by decide) ?_
  refine z_ci hW hS hA (va_runS (As := [.int a1, .int 1, .int 9]) (rest := []) ⟨hx, hb, hml, hown, hts⟩ (sx_X11_within_e l G ad c I  a1 1 9 _) (va_cwS 3 hts gX11_holder_X11_within rfl rfl rfl hy_X11_within.2 ⟨Nat.le_of_ble_eq_true rfl, Nat.le_of_ble_eq_true rfl⟩) (z_preS hK hW) rfl rfl hl.1 rfl (lv_room (Nat.le_of_ble_eq_true rfl)) dX11_holder_4 ⟨Nat.le_of_ble_eq_true rfl, Nat.le_of_ble_eq_true rfl⟩) (fun r u1 H locs hp hW hS => ?_)
  obtain ⟨e9, hp⟩ := hp
  rw [e9] at hW
  rcases hp with ⟨rfl, h1⟩ | ⟨rfl, h1⟩
  · have h2 := h1
    have z3 := z_l1
    have z4 := z_l9
    refine lv_if_eq (tgt := 30) hx hb dX11_holder_7 (by decide) (fun c5 => absurd c5 (by decide)) (fun c5 => ?_)
    refine lv_iload_n hx hb dX11_holder_10 rfl (lv_at hl 2 rfl) ?_
    refine lv_iconst (v := 0) hx hb dX11_holder_11 (by decide) ?_
    refine lv_bipush (v := 9) hx hb dX11_holder_12 (by decide) ?_
    refine z_ci hW hS hA (va_runS (As := [.int a2, .int 0, .int 9]) (rest := []) ⟨hx, hb, hml, hown, hts⟩ (sx_X11_within_e l G ad c I  a2 0 9 _) (va_cwS 3 hts gX11_holder_X11_within rfl rfl rfl hy_X11_within.2 ⟨Nat.le_of_ble_eq_true rfl, Nat.le_of_ble_eq_true rfl⟩) (z_preS hK hW) rfl rfl hl.1 rfl (lv_room (Nat.le_of_ble_eq_true rfl)) dX11_holder_14 ⟨Nat.le_of_ble_eq_true rfl, Nat.le_of_ble_eq_true rfl⟩) (fun r u1 H locs hp hW hS => ?_)
    obtain ⟨e9, hp⟩ := hp
    rw [e9] at hW
    rcases hp with ⟨rfl, h6⟩ | ⟨rfl, h6⟩
    · have h7 := h6
      have z8 := z_l0
      have z9 := z_l9
      refine lv_if_eq (tgt := 30) hx hb dX11_holder_17 (by decide) (fun c10 => absurd c10 (by decide)) (fun c10 => ?_)
      refine lv_iload_n hx hb dX11_holder_20 rfl (lv_at hl 3 rfl) ?_
      refine lv_iconst (v := 1) hx hb dX11_holder_21 (by decide) ?_
      refine lv_bipush (v := 8) hx hb dX11_holder_22 (by decide) ?_
      refine z_ci hW hS hA (va_runS (As := [.int a3, .int 1, .int 8]) (rest := []) ⟨hx, hb, hml, hown, hts⟩ (sx_X11_within_e l G ad c I  a3 1 8 _) (va_cwS 3 hts gX11_holder_X11_within rfl rfl rfl hy_X11_within.2 ⟨Nat.le_of_ble_eq_true rfl, Nat.le_of_ble_eq_true rfl⟩) (z_preS hK hW) rfl rfl hl.1 rfl (lv_room (Nat.le_of_ble_eq_true rfl)) dX11_holder_24 ⟨Nat.le_of_ble_eq_true rfl, Nat.le_of_ble_eq_true rfl⟩) (fun r u1 H locs hp hW hS => ?_)
      obtain ⟨e9, hp⟩ := hp
      rw [e9] at hW
      rcases hp with ⟨rfl, h11⟩ | ⟨rfl, h11⟩
      · have h12 := h11
        have z13 := z_l1
        have z14 := z_l8
        refine lv_if_ne (tgt := 32) hx hb dX11_holder_27 (by decide) (fun c15 => ?_) (fun c15 => absurd c15 (by decide))
        refine lv_iload hx hb dX11_holder_32 (lv_at hl 4 rfl) ?_
        refine lv_iconst (v := 0) hx hb dX11_holder_34 (by decide) ?_
        refine lv_sipush (v := 999) hx hb dX11_holder_35 (by decide) ?_
        refine z_ci hW hS hA (va_runS (As := [.int a4, .int 0, .int 999]) (rest := []) ⟨hx, hb, hml, hown, hts⟩ (sx_X11_within_e l G ad c I  a4 0 999 _) (va_cwS 3 hts gX11_holder_X11_within rfl rfl rfl hy_X11_within.2 ⟨Nat.le_of_ble_eq_true rfl, Nat.le_of_ble_eq_true rfl⟩) (z_preS hK hW) rfl rfl hl.1 rfl (lv_room (Nat.le_of_ble_eq_true rfl)) dX11_holder_38 ⟨Nat.le_of_ble_eq_true rfl, Nat.le_of_ble_eq_true rfl⟩) (fun r u1 H locs hp hW hS => ?_)
        obtain ⟨e9, hp⟩ := hp
        rw [e9] at hW
        rcases hp with ⟨rfl, h16⟩ | ⟨rfl, h16⟩
        · have h17 := h16
          have z18 := z_l0
          have z19 := z_l999
          refine lv_if_eq (tgt := 55) hx hb dX11_holder_41 (by decide) (fun c20 => absurd c20 (by decide)) (fun c20 => ?_)
          refine lv_iload hx hb dX11_holder_44 (lv_at hl 5 rfl) ?_
          refine lv_iconst (v := 0) hx hb dX11_holder_46 (by decide) ?_
          refine lv_bipush (v := 99) hx hb dX11_holder_47 (by decide) ?_
          refine z_ci hW hS hA (va_runS (As := [.int a5, .int 0, .int 99]) (rest := []) ⟨hx, hb, hml, hown, hts⟩ (sx_X11_within_e l G ad c I  a5 0 99 _) (va_cwS 3 hts gX11_holder_X11_within rfl rfl rfl hy_X11_within.2 ⟨Nat.le_of_ble_eq_true rfl, Nat.le_of_ble_eq_true rfl⟩) (z_preS hK hW) rfl rfl hl.1 rfl (lv_room (Nat.le_of_ble_eq_true rfl)) dX11_holder_49 ⟨Nat.le_of_ble_eq_true rfl, Nat.le_of_ble_eq_true rfl⟩) (fun r u1 H locs hp hW hS => ?_)
          obtain ⟨e9, hp⟩ := hp
          rw [e9] at hW
          rcases hp with ⟨rfl, h21⟩ | ⟨rfl, h21⟩
          · have h22 := h21
            have z23 := z_l0
            have z24 := z_l99
            refine lv_if_ne (tgt := 57) hx hb dX11_holder_52 (by decide) (fun c25 => ?_) (fun c25 => absurd c25 (by decide))
            refine lv_aload_n hx hb dX11_holder_57 rfl (lv_at hl 0 rfl) ?_
            refine z_get (T := TX11) (N := 13) (ci := 11) (i := 0) (v := .ref (ad 1)) hx hb hts zj_X11_holder_X11 hown hK hW rfl rfl 2 (by decide) (hts (.fieldLink RX11 16 "PetrolBoard" "holders" "LPetrolBoard$Holders;") (me_s (me_l (me_l (List.mem_of_getElem? (i := 0) rfl))))) (fun _ h => h) rfl dX11_holder_58 ?_
            refine lv_iload_n hx hb dX11_holder_61 rfl (lv_at hl 1 rfl) ?_
            refine lv_iload_n hx hb dX11_holder_62 rfl (lv_at hl 2 rfl) ?_
            refine lv_iload_n hx hb dX11_holder_63 rfl (lv_at hl 3 rfl) ?_
            refine lv_iload hx hb dX11_holder_64 (lv_at hl 4 rfl) ?_
            refine lv_iload hx hb dX11_holder_66 (lv_at hl 5 rfl) ?_
            refine z_ci hW hS hA (va_runV (As := [.int a1, .int a2, .int a3, .int a4, .int a5]) (rest := []) ⟨hx, hb, hml, hown, hts⟩ (sx_X2_add_e l G ad c I ⟨(by show 0 ≤ (I 1 5).toInt ∧ (I 1 5).toInt ≤ 30; exact hH.1), (by show 0 ≤ (I 1 11).toInt ∧ (I 1 11).toInt ≤ 200; exact hH.2)⟩ a1 a2 a3 a4 a5 _) (cwV 5 hts gX11_holder_X2_add rfl rfl rfl hy_X2_add ⟨Nat.le_of_ble_eq_true rfl, Nat.le_of_ble_eq_true rfl⟩) (z_preV (i := 1) hK hW rfl rfl) rfl rfl hl.1 rfl (lv_room (Nat.le_of_ble_eq_true rfl)) dX11_holder_68 ⟨Nat.le_of_ble_eq_true rfl, Nat.le_of_ble_eq_true rfl⟩) (fun r u1 H locs hp hW hS => ?_)
            obtain ⟨I26, e9, hI26H, fI26, hp⟩ := hp
            rw [e9] at hW
            have f27 := z_fr_sub (L := L_X11_holder_e) z_fr_0 fI26 (by decide)
            refine lv_topi (fun x28 ex28 => ?_)
            rw [← ex28] at hp
            rcases hp with ⟨h29, h30, h31⟩ | ⟨h29, h30, h31⟩
            · have h32 := h29
              exact z_iret hx hb hr hK hS (Nat.le_of_ble_eq_true rfl) (Nat.le_of_ble_eq_true rfl) hlocks dX11_holder_71 (shC c, ad, I26, JX, PC c ad) hW ⟨I26, rfl, ⟨(by show 0 ≤ (I26 1 5).toInt ∧ (I26 1 5).toInt ≤ 30; exact hI26H.1), (by show 0 ≤ (I26 1 11).toInt ∧ (I26 1 11).toInt ≤ 200; exact hI26H.2)⟩, f27, (Or.inl ⟨by omega, by omega, (by show (I26 1 5).toInt = (I 1 5).toInt + 1; omega)⟩)⟩
            · have h33 := h29
              exact z_iret hx hb hr hK hS (Nat.le_of_ble_eq_true rfl) (Nat.le_of_ble_eq_true rfl) hlocks dX11_holder_71 (shC c, ad, I26, JX, PC c ad) hW ⟨I26, rfl, ⟨(by show 0 ≤ (I26 1 5).toInt ∧ (I26 1 5).toInt ≤ 30; exact hI26H.1), (by show 0 ≤ (I26 1 11).toInt ∧ (I26 1 11).toInt ≤ 200; exact hI26H.2)⟩, f27, (Or.inr ⟨by omega, by omega, (by show (I26 1 5).toInt = (I 1 5).toInt; omega)⟩)⟩
          · have h34 := h21
            have z35 := z_l0
            have z36 := z_l99
            refine lv_if_ne (tgt := 57) hx hb dX11_holder_52 (by decide) (fun c37 => absurd (by decide) c37) (fun c37 => ?_)
            refine lv_iconst (v := (-1)) hx hb dX11_holder_55 (by decide) ?_
            exact z_iret hx hb hr hK hS (Nat.le_of_ble_eq_true rfl) (Nat.le_of_ble_eq_true rfl) hlocks dX11_holder_56 (shC c, ad, I, JX, PC c ad) hW ⟨I, rfl, ⟨(by show 0 ≤ (I 1 5).toInt ∧ (I 1 5).toInt ≤ 30; exact hH.1), (by show 0 ≤ (I 1 11).toInt ∧ (I 1 11).toInt ≤ 200; exact hH.2)⟩, z_fr_0, (Or.inr ⟨by omega, by decide, (by show (I 1 5).toInt = (I 1 5).toInt; omega)⟩)⟩
        · have h38 := h16
          have z39 := z_l0
          have z40 := z_l999
          refine lv_if_eq (tgt := 55) hx hb dX11_holder_41 (by decide) (fun c41 => ?_) (fun c41 => absurd (by decide) c41)
          refine lv_iconst (v := (-1)) hx hb dX11_holder_55 (by decide) ?_
          exact z_iret hx hb hr hK hS (Nat.le_of_ble_eq_true rfl) (Nat.le_of_ble_eq_true rfl) hlocks dX11_holder_56 (shC c, ad, I, JX, PC c ad) hW ⟨I, rfl, ⟨(by show 0 ≤ (I 1 5).toInt ∧ (I 1 5).toInt ≤ 30; exact hH.1), (by show 0 ≤ (I 1 11).toInt ∧ (I 1 11).toInt ≤ 200; exact hH.2)⟩, z_fr_0, (Or.inr ⟨by omega, by decide, (by show (I 1 5).toInt = (I 1 5).toInt; omega)⟩)⟩
      · have h42 := h11
        have z43 := z_l1
        have z44 := z_l8
        refine lv_if_ne (tgt := 32) hx hb dX11_holder_27 (by decide) (fun c45 => absurd (by decide) c45) (fun c45 => ?_)
        refine lv_iconst (v := (-1)) hx hb dX11_holder_30 (by decide) ?_
        exact z_iret hx hb hr hK hS (Nat.le_of_ble_eq_true rfl) (Nat.le_of_ble_eq_true rfl) hlocks dX11_holder_31 (shC c, ad, I, JX, PC c ad) hW ⟨I, rfl, ⟨(by show 0 ≤ (I 1 5).toInt ∧ (I 1 5).toInt ≤ 30; exact hH.1), (by show 0 ≤ (I 1 11).toInt ∧ (I 1 11).toInt ≤ 200; exact hH.2)⟩, z_fr_0, (Or.inr ⟨by omega, by decide, (by show (I 1 5).toInt = (I 1 5).toInt; omega)⟩)⟩
    · have h46 := h6
      have z47 := z_l0
      have z48 := z_l9
      refine lv_if_eq (tgt := 30) hx hb dX11_holder_17 (by decide) (fun c49 => ?_) (fun c49 => absurd (by decide) c49)
      refine lv_iconst (v := (-1)) hx hb dX11_holder_30 (by decide) ?_
      exact z_iret hx hb hr hK hS (Nat.le_of_ble_eq_true rfl) (Nat.le_of_ble_eq_true rfl) hlocks dX11_holder_31 (shC c, ad, I, JX, PC c ad) hW ⟨I, rfl, ⟨(by show 0 ≤ (I 1 5).toInt ∧ (I 1 5).toInt ≤ 30; exact hH.1), (by show 0 ≤ (I 1 11).toInt ∧ (I 1 11).toInt ≤ 200; exact hH.2)⟩, z_fr_0, (Or.inr ⟨by omega, by decide, (by show (I 1 5).toInt = (I 1 5).toInt; omega)⟩)⟩
  · have h50 := h1
    have z51 := z_l1
    have z52 := z_l9
    refine lv_if_eq (tgt := 30) hx hb dX11_holder_7 (by decide) (fun c53 => ?_) (fun c53 => absurd (by decide) c53)
    refine lv_iconst (v := (-1)) hx hb dX11_holder_30 (by decide) ?_
    exact z_iret hx hb hr hK hS (Nat.le_of_ble_eq_true rfl) (Nat.le_of_ble_eq_true rfl) hlocks dX11_holder_31 (shC c, ad, I, JX, PC c ad) hW ⟨I, rfl, ⟨(by show 0 ≤ (I 1 5).toInt ∧ (I 1 5).toInt ≤ 30; exact hH.1), (by show 0 ≤ (I 1 11).toInt ∧ (I 1 11).toInt ≤ 200; exact hH.2)⟩, z_fr_0, (Or.inr ⟨by omega, by decide, (by show (I 1 5).toInt = (I 1 5).toInt; omega)⟩)⟩
set_option maxHeartbeats 8000000 in
set_option maxRecDepth 100000 in
theorem sx_X12_within_e (l : Launch) (G : z_G) (ad : Nat → Nat) (I : z_I) (J : z_J) (a1 : Int32) (a2 : Int32) (a3 : Int32) : z_M l yX12_within wsX12_within { frames := 1, cells := 0, slots := 0, locals := 12 } [.int a1, .int a2, .int a3] G (shM, ad, I, J, PM ad) (fun r u1 => u1 = (shM, ad, I, J, PM ad) ∧ ((r = 1 ∧ a2.toInt ≤ a1.toInt ∧ a1.toInt ≤ a3.toInt) ∨ (r = 0 ∧ ¬ (a2.toInt ≤ a1.toInt ∧ a1.toInt ≤ a3.toInt)))) 0 0 := by
  intro sz
  refine z_headQ (cc := cX12_within) (maxL := 3) (ret := (some .boolean)) (by decide) rfl (Nat.le_of_ble_eq_true rfl) ?_
  intro p e s m below meth c0 ls hIn hK hsz hW hl
  obtain ⟨hx, hb, hr, hml, hown, hts, hlocks, hname⟩ := hIn
  subst hsz
  have hown : s.vm.findClass RX12 = some m.cls := hown
  have hA : ∀ q : Nat, s.heap.size ≤ q → z_A (shM, ad, I, J, PM ad) s.heap.size q := fun q h => Or.inr h
  generalize hAe : z_A (shM, ad, I, J, PM ad) s.heap.size = A at *
  have hS : va_S A s.heap s.heap [] := va_S.rf
  have hl : lv_has ls 3 [(0, .int a1), (1, .int a2), (2, .int a3)] := hl
  refine lv_iload_n hx hb dX12_within_0 rfl (lv_at hl 0 rfl) ?_
  refine lv_iload_n hx hb dX12_within_1 rfl (lv_at hl 1 rfl) ?_
  refine lv_icmp_lt (tgt := 14) hx hb dX12_within_2 (by decide) (fun c1 => ?_) (fun c1 => ?_)
  · have g2 := z_f_lt rfl rfl c1
    have b3 := Int32.toInt_lt a1
    have b4 := Int32.toInt_lt a2
    refine lv_iconst (v := 0) hx hb dX12_within_14 (by decide) ?_
    exact z_zret hx hb hr (by decide) hK hS (Nat.le_of_ble_eq_true rfl) (Nat.le_of_ble_eq_true rfl) hlocks dX12_within_15 (shM, ad, I, J, PM ad) hW ⟨rfl, (Or.inr ⟨rfl, by omega⟩)⟩
  · have g5 := z_f_nlt rfl rfl c1
    have b6 := Int32.toInt_lt a1
    have b7 := Int32.toInt_lt a2
    refine lv_iload_n hx hb dX12_within_5 rfl (lv_at hl 0 rfl) ?_
    refine lv_iload_n hx hb dX12_within_6 rfl (lv_at hl 2 rfl) ?_
    refine lv_icmp_gt (tgt := 14) hx hb dX12_within_7 (by decide) (fun c8 => ?_) (fun c8 => ?_)
    · have g9 := z_f_gt rfl rfl c8
      have b10 := Int32.toInt_lt a3
      refine lv_iconst (v := 0) hx hb dX12_within_14 (by decide) ?_
      exact z_zret hx hb hr (by decide) hK hS (Nat.le_of_ble_eq_true rfl) (Nat.le_of_ble_eq_true rfl) hlocks dX12_within_15 (shM, ad, I, J, PM ad) hW ⟨rfl, (Or.inr ⟨rfl, by omega⟩)⟩
    · have g11 := z_f_ngt rfl rfl c8
      have b12 := Int32.toInt_lt a3
      refine lv_iconst (v := 1) hx hb dX12_within_10 (by decide) ?_
      refine lv_goto (tgt := 15) hx hb dX12_within_11 (by decide) ?_
      exact z_zret hx hb hr (by decide) hK hS (Nat.le_of_ble_eq_true rfl) (Nat.le_of_ble_eq_true rfl) hlocks dX12_within_15 (shM, ad, I, J, PM ad) hW ⟨rfl, (Or.inl ⟨rfl, by omega⟩)⟩
set_option maxHeartbeats 8000000 in
set_option maxRecDepth 100000 in
theorem sx_X12_isDay_e (l : Launch) (G : z_G) (ad : Nat → Nat) (I : z_I) (J : z_J) (a1 : Int32) : z_M l yX12_isDay wsX12_isDay { frames := 1, cells := 0, slots := 0, locals := 12 } [.int a1] G (shM, ad, I, J, PM ad) (fun r u1 => u1 = (shM, ad, I, J, PM ad) ∧ ((r = 1 ∧ 0 ≤ a1.toInt ∧ a1.toInt ≤ 719) ∨ (r = 0 ∧ ¬ (0 ≤ a1.toInt ∧ a1.toInt ≤ 719)))) 0 0 := by
  intro sz
  refine z_headQ (cc := cX12_isDay) (maxL := 1) (ret := (some .boolean)) (by decide) rfl (Nat.le_of_ble_eq_true rfl) ?_
  intro p e s m below meth c0 ls hIn hK hsz hW hl
  obtain ⟨hx, hb, hr, hml, hown, hts, hlocks, hname⟩ := hIn
  subst hsz
  have hown : s.vm.findClass RX12 = some m.cls := hown
  have hA : ∀ q : Nat, s.heap.size ≤ q → z_A (shM, ad, I, J, PM ad) s.heap.size q := fun q h => Or.inr h
  generalize hAe : z_A (shM, ad, I, J, PM ad) s.heap.size = A at *
  have hS : va_S A s.heap s.heap [] := va_S.rf
  have hl : lv_has ls 1 [(0, .int a1)] := hl
  refine lv_iload_n hx hb dX12_isDay_0 rfl (lv_at hl 0 rfl) ?_
  refine lv_if_lt (tgt := 15) hx hb dX12_isDay_1 (by decide) (fun c1 => ?_) (fun c1 => ?_)
  · have g2 := z_f_lt rfl z_l0 c1
    have b3 := Int32.toInt_lt a1
    refine lv_iconst (v := 0) hx hb dX12_isDay_15 (by decide) ?_
    exact z_zret hx hb hr (by decide) hK hS (Nat.le_of_ble_eq_true rfl) (Nat.le_of_ble_eq_true rfl) hlocks dX12_isDay_16 (shM, ad, I, J, PM ad) hW ⟨rfl, (Or.inr ⟨rfl, by omega⟩)⟩
  · have g4 := z_f_nlt rfl z_l0 c1
    have b5 := Int32.toInt_lt a1
    refine lv_iload_n hx hb dX12_isDay_4 rfl (lv_at hl 0 rfl) ?_
    refine lv_sipush (v := 719) hx hb dX12_isDay_5 (by decide) ?_
    refine lv_icmp_gt (tgt := 15) hx hb dX12_isDay_8 (by decide) (fun c6 => ?_) (fun c6 => ?_)
    · have g7 := z_f_gt rfl z_l719 c6
      refine lv_iconst (v := 0) hx hb dX12_isDay_15 (by decide) ?_
      exact z_zret hx hb hr (by decide) hK hS (Nat.le_of_ble_eq_true rfl) (Nat.le_of_ble_eq_true rfl) hlocks dX12_isDay_16 (shM, ad, I, J, PM ad) hW ⟨rfl, (Or.inr ⟨rfl, by omega⟩)⟩
    · have g8 := z_f_ngt rfl z_l719 c6
      refine lv_iconst (v := 1) hx hb dX12_isDay_11 (by decide) ?_
      refine lv_goto (tgt := 16) hx hb dX12_isDay_12 (by decide) ?_
      exact z_zret hx hb hr (by decide) hK hS (Nat.le_of_ble_eq_true rfl) (Nat.le_of_ble_eq_true rfl) hlocks dX12_isDay_16 (shM, ad, I, J, PM ad) hW ⟨rfl, (Or.inl ⟨rfl, by omega⟩)⟩
set_option maxHeartbeats 8000000 in
set_option maxRecDepth 100000 in
theorem sx_X12_isHolder_e (l : Launch) (G : z_G) (ad : Nat → Nat) (I : z_I) (J : z_J) (hma : z_ima I) (a1 : Int32) : z_M l yX12_isHolder wsX12_isHolder { frames := 1, cells := 0, slots := 0, locals := 12 } [.ref (ad 0), .int a1] G (shM, ad, I, J, PM ad) (fun r u1 => u1 = (shM, ad, I, J, PM ad) ∧ ((r = 1 ∧ 0 ≤ a1.toInt ∧ a1.toInt < (I 0 1).toInt) ∨ (r = 0 ∧ ¬ (0 ≤ a1.toInt ∧ a1.toInt < (I 0 1).toInt)))) 0 0 := by
  intro sz
  refine z_headQ (cc := cX12_isHolder) (maxL := 2) (ret := (some .boolean)) (by decide) rfl (Nat.le_of_ble_eq_true rfl) ?_
  intro p e s m below meth c0 ls hIn hK hsz hW hl
  obtain ⟨hx, hb, hr, hml, hown, hts, hlocks, hname⟩ := hIn
  subst hsz
  have hown : s.vm.findClass RX12 = some m.cls := hown
  have hA : ∀ q : Nat, s.heap.size ≤ q → z_A (shM, ad, I, J, PM ad) s.heap.size q := fun q h => Or.inr h
  generalize hAe : z_A (shM, ad, I, J, PM ad) s.heap.size = A at *
  have hS : va_S A s.heap s.heap [] := va_S.rf
  have hl : lv_has ls 2 [(0, .ref (ad 0)), (1, .int a1)] := hl
  refine lv_iload_n hx hb dX12_isHolder_0 rfl (lv_at hl 1 rfl) ?_
  refine lv_if_lt (tgt := 16) hx hb dX12_isHolder_1 (by decide) (fun c1 => ?_) (fun c1 => ?_)
  · have g2 := z_f_lt rfl z_l0 c1
    have b3 := Int32.toInt_lt a1
    refine lv_iconst (v := 0) hx hb dX12_isHolder_16 (by decide) ?_
    exact z_zret hx hb hr (by decide) hK hS (Nat.le_of_ble_eq_true rfl) (Nat.le_of_ble_eq_true rfl) hlocks dX12_isHolder_17 (shM, ad, I, J, PM ad) hW ⟨rfl, (Or.inr ⟨rfl, by omega⟩)⟩
  · have g4 := z_f_nlt rfl z_l0 c1
    have b5 := Int32.toInt_lt a1
    refine lv_iload_n hx hb dX12_isHolder_4 rfl (lv_at hl 1 rfl) ?_
    refine lv_aload_n hx hb dX12_isHolder_5 rfl (lv_at hl 0 rfl) ?_
    have r6 : 0 ≤ (I 0 1).toInt ∧ (I 0 1).toInt ≤ 30 := hma.2.1
    refine z_get (T := TX12) (N := 96) (ci := 12) (i := 0) (v := .int (I 0 1)) hx hb hts zj_X12_isHolder_X12 hown hK hW rfl rfl 1 (by decide) (hts (.fieldLink RX12 229 "PetrolBoardModel" "holders" "I") (me_s (me_l (List.mem_of_getElem? (i := 0) rfl)))) (fun _ h => h) rfl dX12_isHolder_6 ?_
    refine lv_icmp_ge (tgt := 16) hx hb dX12_isHolder_9 (by decide) (fun c7 => ?_) (fun c7 => ?_)
    · have g8 := z_f_ge rfl rfl c7
      refine lv_iconst (v := 0) hx hb dX12_isHolder_16 (by decide) ?_
      exact z_zret hx hb hr (by decide) hK hS (Nat.le_of_ble_eq_true rfl) (Nat.le_of_ble_eq_true rfl) hlocks dX12_isHolder_17 (shM, ad, I, J, PM ad) hW ⟨rfl, (Or.inr ⟨rfl, by omega⟩)⟩
    · have g9 := z_f_nge rfl rfl c7
      refine lv_iconst (v := 1) hx hb dX12_isHolder_12 (by decide) ?_
      refine lv_goto (tgt := 17) hx hb dX12_isHolder_13 (by decide) ?_
      exact z_zret hx hb hr (by decide) hK hS (Nat.le_of_ble_eq_true rfl) (Nat.le_of_ble_eq_true rfl) hlocks dX12_isHolder_17 (shM, ad, I, J, PM ad) hW ⟨rfl, (Or.inl ⟨rfl, by omega⟩)⟩
noncomputable def L_X12_holder_e : z_L := [(0, 1), (1, 999), (2, 999), (3, 999), (4, 999), (5, 999)]
set_option maxHeartbeats 8000000 in
set_option maxRecDepth 100000 in
theorem sx_X12_holder_e (l : Launch) (G : z_G) (ad : Nat → Nat) (I : z_I) (J : z_J) (hma : z_ima I) (a1 : Int32) (a2 : Int32) (a3 : Int32) (a4 : Int32) (a5 : Int32) : z_M l yX12_holder wsX12_holder { frames := 2, cells := 0, slots := 0, locals := 34 } [.ref (ad 0), .int a1, .int a2, .int a3, .int a4, .int a5] G (shM, ad, I, J, PM ad) (fun r u1 => ∃ (I1 : z_I) (J1 : z_J), u1 = (shM, ad, I1, J1, PM ad) ∧ z_ima I1 ∧ z_fr L_X12_holder_e I1 I ∧ (((1 ≤ a1.toInt ∧ a1.toInt ≤ 9 ∧ 0 ≤ a2.toInt ∧ a2.toInt ≤ 9 ∧ 1 ≤ a3.toInt ∧ a3.toInt ≤ 8 ∧ 0 ≤ a4.toInt ∧ a4.toInt ≤ 999 ∧ 0 ≤ a5.toInt ∧ a5.toInt ≤ 99 ∧ (I 0 1).toInt < 30) ∧ r.toInt = (I 0 1).toInt ∧ (I1 0 1).toInt = (I 0 1).toInt + 1) ∨ (¬ (1 ≤ a1.toInt ∧ a1.toInt ≤ 9 ∧ 0 ≤ a2.toInt ∧ a2.toInt ≤ 9 ∧ 1 ≤ a3.toInt ∧ a3.toInt ≤ 8 ∧ 0 ≤ a4.toInt ∧ a4.toInt ≤ 999 ∧ 0 ≤ a5.toInt ∧ a5.toInt ≤ 99 ∧ (I 0 1).toInt < 30) ∧ r.toInt = -1 ∧ (I1 0 1).toInt = (I 0 1).toInt))) 0 0 := by
  intro sz
  refine z_headQ (cc := cX12_holder) (maxL := 6) (ret := (some .int)) (by decide) rfl (Nat.le_of_ble_eq_true rfl) ?_
  intro p e s m below meth c0 ls hIn hK hsz hW hl
  obtain ⟨hx, hb, hr, hml, hown, hts, hlocks, hname⟩ := hIn
  subst hsz
  have hown : s.vm.findClass RX12 = some m.cls := hown
  have hA : ∀ q : Nat, s.heap.size ≤ q → z_A (shM, ad, I, J, PM ad) s.heap.size q := fun q h => Or.inr h
  generalize hAe : z_A (shM, ad, I, J, PM ad) s.heap.size = A at *
  have hS : va_S A s.heap s.heap [] := va_S.rf
  have hl : lv_has ls 6 [(0, .ref (ad 0)), (1, .int a1), (2, .int a2), (3, .int a3), (4, .int a4), (5, .int a5)] := hl
  refine lv_iload_n hx hb dX12_holder_0 rfl (lv_at hl 1 rfl) ?_
  refine lv_iconst (v := 1) hx hb dX12_holder_1 (by decide) ?_
  refine lv_bipush (v := 9) hx hb dX12_holder_2 (by decide) ?_
  refine z_ci hW hS hA (va_runS (As := [.int a1, .int 1, .int 9]) (rest := []) ⟨hx, hb, hml, hown, hts⟩ (sx_X12_within_e l G ad I J  a1 1 9 _) (va_cwS 3 hts gX12_holder_X12_within rfl rfl rfl hy_X12_within.2 ⟨Nat.le_of_ble_eq_true rfl, Nat.le_of_ble_eq_true rfl⟩) (z_preS hK hW) rfl rfl hl.1 rfl (lv_room (Nat.le_of_ble_eq_true rfl)) dX12_holder_4 ⟨Nat.le_of_ble_eq_true rfl, Nat.le_of_ble_eq_true rfl⟩) (fun r u1 H locs hp hW hS => ?_)
  obtain ⟨e9, hp⟩ := hp
  rw [e9] at hW
  rcases hp with ⟨rfl, h1⟩ | ⟨rfl, h1⟩
  · have h2 := h1
    have z3 := z_l1
    have z4 := z_l9
    refine lv_if_eq (tgt := 62) hx hb dX12_holder_7 (by decide) (fun c5 => absurd c5 (by decide)) (fun c5 => ?_)
    refine lv_iload_n hx hb dX12_holder_10 rfl (lv_at hl 2 rfl) ?_
    refine lv_iconst (v := 0) hx hb dX12_holder_11 (by decide) ?_
    refine lv_bipush (v := 9) hx hb dX12_holder_12 (by decide) ?_
    refine z_ci hW hS hA (va_runS (As := [.int a2, .int 0, .int 9]) (rest := []) ⟨hx, hb, hml, hown, hts⟩ (sx_X12_within_e l G ad I J  a2 0 9 _) (va_cwS 3 hts gX12_holder_X12_within rfl rfl rfl hy_X12_within.2 ⟨Nat.le_of_ble_eq_true rfl, Nat.le_of_ble_eq_true rfl⟩) (z_preS hK hW) rfl rfl hl.1 rfl (lv_room (Nat.le_of_ble_eq_true rfl)) dX12_holder_14 ⟨Nat.le_of_ble_eq_true rfl, Nat.le_of_ble_eq_true rfl⟩) (fun r u1 H locs hp hW hS => ?_)
    obtain ⟨e9, hp⟩ := hp
    rw [e9] at hW
    rcases hp with ⟨rfl, h6⟩ | ⟨rfl, h6⟩
    · have h7 := h6
      have z8 := z_l0
      have z9 := z_l9
      refine lv_if_eq (tgt := 62) hx hb dX12_holder_17 (by decide) (fun c10 => absurd c10 (by decide)) (fun c10 => ?_)
      refine lv_iload_n hx hb dX12_holder_20 rfl (lv_at hl 3 rfl) ?_
      refine lv_iconst (v := 1) hx hb dX12_holder_21 (by decide) ?_
      refine lv_bipush (v := 8) hx hb dX12_holder_22 (by decide) ?_
      refine z_ci hW hS hA (va_runS (As := [.int a3, .int 1, .int 8]) (rest := []) ⟨hx, hb, hml, hown, hts⟩ (sx_X12_within_e l G ad I J  a3 1 8 _) (va_cwS 3 hts gX12_holder_X12_within rfl rfl rfl hy_X12_within.2 ⟨Nat.le_of_ble_eq_true rfl, Nat.le_of_ble_eq_true rfl⟩) (z_preS hK hW) rfl rfl hl.1 rfl (lv_room (Nat.le_of_ble_eq_true rfl)) dX12_holder_24 ⟨Nat.le_of_ble_eq_true rfl, Nat.le_of_ble_eq_true rfl⟩) (fun r u1 H locs hp hW hS => ?_)
      obtain ⟨e9, hp⟩ := hp
      rw [e9] at hW
      rcases hp with ⟨rfl, h11⟩ | ⟨rfl, h11⟩
      · have h12 := h11
        have z13 := z_l1
        have z14 := z_l8
        refine lv_if_eq (tgt := 62) hx hb dX12_holder_27 (by decide) (fun c15 => absurd c15 (by decide)) (fun c15 => ?_)
        refine lv_iload hx hb dX12_holder_30 (lv_at hl 4 rfl) ?_
        refine lv_iconst (v := 0) hx hb dX12_holder_32 (by decide) ?_
        refine lv_sipush (v := 999) hx hb dX12_holder_33 (by decide) ?_
        refine z_ci hW hS hA (va_runS (As := [.int a4, .int 0, .int 999]) (rest := []) ⟨hx, hb, hml, hown, hts⟩ (sx_X12_within_e l G ad I J  a4 0 999 _) (va_cwS 3 hts gX12_holder_X12_within rfl rfl rfl hy_X12_within.2 ⟨Nat.le_of_ble_eq_true rfl, Nat.le_of_ble_eq_true rfl⟩) (z_preS hK hW) rfl rfl hl.1 rfl (lv_room (Nat.le_of_ble_eq_true rfl)) dX12_holder_36 ⟨Nat.le_of_ble_eq_true rfl, Nat.le_of_ble_eq_true rfl⟩) (fun r u1 H locs hp hW hS => ?_)
        obtain ⟨e9, hp⟩ := hp
        rw [e9] at hW
        rcases hp with ⟨rfl, h16⟩ | ⟨rfl, h16⟩
        · have h17 := h16
          have z18 := z_l0
          have z19 := z_l999
          refine lv_if_eq (tgt := 62) hx hb dX12_holder_39 (by decide) (fun c20 => absurd c20 (by decide)) (fun c20 => ?_)
          refine lv_iload hx hb dX12_holder_42 (lv_at hl 5 rfl) ?_
          refine lv_iconst (v := 0) hx hb dX12_holder_44 (by decide) ?_
          refine lv_bipush (v := 99) hx hb dX12_holder_45 (by decide) ?_
          refine z_ci hW hS hA (va_runS (As := [.int a5, .int 0, .int 99]) (rest := []) ⟨hx, hb, hml, hown, hts⟩ (sx_X12_within_e l G ad I J  a5 0 99 _) (va_cwS 3 hts gX12_holder_X12_within rfl rfl rfl hy_X12_within.2 ⟨Nat.le_of_ble_eq_true rfl, Nat.le_of_ble_eq_true rfl⟩) (z_preS hK hW) rfl rfl hl.1 rfl (lv_room (Nat.le_of_ble_eq_true rfl)) dX12_holder_47 ⟨Nat.le_of_ble_eq_true rfl, Nat.le_of_ble_eq_true rfl⟩) (fun r u1 H locs hp hW hS => ?_)
          obtain ⟨e9, hp⟩ := hp
          rw [e9] at hW
          rcases hp with ⟨rfl, h21⟩ | ⟨rfl, h21⟩
          · have h22 := h21
            have z23 := z_l0
            have z24 := z_l99
            refine lv_if_eq (tgt := 62) hx hb dX12_holder_50 (by decide) (fun c25 => absurd c25 (by decide)) (fun c25 => ?_)
            refine lv_aload_n hx hb dX12_holder_53 rfl (lv_at hl 0 rfl) ?_
            have r26 : 0 ≤ (I 0 1).toInt ∧ (I 0 1).toInt ≤ 30 := hma.2.1
            refine z_get (T := TX12) (N := 96) (ci := 12) (i := 0) (v := .int (I 0 1)) hx hb hts zj_X12_holder_X12 hown hK hW rfl rfl 1 (by decide) (hts (.fieldLink RX12 229 "PetrolBoardModel" "holders" "I") (me_s (me_l (List.mem_of_getElem? (i := 0) rfl)))) (fun _ h => h) rfl dX12_holder_54 ?_
            refine lv_bipush (v := 30) hx hb dX12_holder_57 (by decide) ?_
            refine lv_icmp_ne (tgt := 64) hx hb dX12_holder_59 (by decide) (fun c27 => ?_) (fun c27 => ?_)
            · have g28 := z_f_ne rfl z_l30 c27
              refine lv_aload_n hx hb dX12_holder_64 rfl (lv_at hl 0 rfl) ?_
              refine z_get (T := TX12) (N := 96) (ci := 12) (i := 0) (v := .ref (ad 1)) hx hb hts zj_X12_holder_X12 hown hK hW rfl rfl 3 (by decide) (hts (.fieldLink RX12 7 "PetrolBoardModel" "sizeOf" "[I") (me_s (me_l (List.mem_of_getElem? (i := 1) rfl)))) (fun _ h => h) rfl dX12_holder_65 ?_
              refine lv_aload_n hx hb dX12_holder_68 rfl (lv_at hl 0 rfl) ?_
              refine z_get (T := TX12) (N := 96) (ci := 12) (i := 0) (v := .int (I 0 1)) hx hb hts zj_X12_holder_X12 hown hK hW rfl rfl 1 (by decide) (hts (.fieldLink RX12 229 "PetrolBoardModel" "holders" "I") (me_s (me_l (List.mem_of_getElem? (i := 0) rfl)))) (fun _ h => h) rfl dX12_holder_69 ?_
              refine lv_iload_n hx hb dX12_holder_72 rfl (lv_at hl 1 rfl) ?_
              refine z_iast (i := 1) hx hb hK hW hS rfl (z_ix rfl (by omega) (by omega)) dX12_holder_73 (fun H locs hz1 hW hS => ?_)
              obtain ⟨I29, eI29⟩ : ∃ K : z_I, K = z_up I 1 (I 0 1).toNatClampNeg a1 := ⟨_, rfl⟩
              rw [← eI29] at hW
              have f30 := z_fr_a z_fr_0 (show z_wa L_X12_holder_e 1 = true by decide) eI29
              refine lv_aload_n hx hb dX12_holder_74 rfl (lv_at hl 0 rfl) ?_
              refine z_get (T := TX12) (N := 96) (ci := 12) (i := 0) (v := .ref (ad 2)) hx hb hts zj_X12_holder_X12 hown hK hW rfl rfl 4 (by decide) (hts (.fieldLink RX12 13 "PetrolBoardModel" "townOf" "[I") (me_s (me_l (List.mem_of_getElem? (i := 2) rfl)))) (fun _ h => h) rfl dX12_holder_75 ?_
              refine lv_aload_n hx hb dX12_holder_78 rfl (lv_at hl 0 rfl) ?_
              refine z_get (T := TX12) (N := 96) (ci := 12) (i := 0) (v := .int (I 0 1)) hx hb hts zj_X12_holder_X12 hown hK hW rfl rfl 1 (by decide) (hts (.fieldLink RX12 229 "PetrolBoardModel" "holders" "I") (me_s (me_l (List.mem_of_getElem? (i := 0) rfl)))) (fun _ h => h) (congrArg Value.int (by rw [eI29, z_up_n (by decide)])) dX12_holder_79 ?_
              refine lv_iload_n hx hb dX12_holder_82 rfl (lv_at hl 2 rfl) ?_
              refine z_iast (i := 2) hx hb hK hW hS rfl (z_ix rfl (by omega) (by omega)) dX12_holder_83 (fun H locs hz1 hW hS => ?_)
              obtain ⟨I31, eI31⟩ : ∃ K : z_I, K = z_up I29 2 (I 0 1).toNatClampNeg a2 := ⟨_, rfl⟩
              rw [← eI31] at hW
              have f32 := z_fr_a f30 (show z_wa L_X12_holder_e 2 = true by decide) eI31
              refine lv_aload_n hx hb dX12_holder_84 rfl (lv_at hl 0 rfl) ?_
              refine z_get (T := TX12) (N := 96) (ci := 12) (i := 0) (v := .ref (ad 3)) hx hb hts zj_X12_holder_X12 hown hK hW rfl rfl 5 (by decide) (hts (.fieldLink RX12 16 "PetrolBoardModel" "seatsOf" "[I") (me_s (me_l (List.mem_of_getElem? (i := 3) rfl)))) (fun _ h => h) rfl dX12_holder_85 ?_
              refine lv_aload_n hx hb dX12_holder_88 rfl (lv_at hl 0 rfl) ?_
              refine z_get (T := TX12) (N := 96) (ci := 12) (i := 0) (v := .int (I 0 1)) hx hb hts zj_X12_holder_X12 hown hK hW rfl rfl 1 (by decide) (hts (.fieldLink RX12 229 "PetrolBoardModel" "holders" "I") (me_s (me_l (List.mem_of_getElem? (i := 0) rfl)))) (fun _ h => h) (congrArg Value.int (by rw [eI31, z_up_n (by decide), eI29, z_up_n (by decide)])) dX12_holder_89 ?_
              refine lv_iload_n hx hb dX12_holder_92 rfl (lv_at hl 3 rfl) ?_
              refine z_iast (i := 3) hx hb hK hW hS rfl (z_ix rfl (by omega) (by omega)) dX12_holder_93 (fun H locs hz1 hW hS => ?_)
              obtain ⟨I33, eI33⟩ : ∃ K : z_I, K = z_up I31 3 (I 0 1).toNatClampNeg a3 := ⟨_, rfl⟩
              rw [← eI33] at hW
              have f34 := z_fr_a f32 (show z_wa L_X12_holder_e 3 = true by decide) eI33
              refine lv_aload_n hx hb dX12_holder_94 rfl (lv_at hl 0 rfl) ?_
              refine z_get (T := TX12) (N := 96) (ci := 12) (i := 0) (v := .ref (ad 4)) hx hb hts zj_X12_holder_X12 hown hK hW rfl rfl 6 (by decide) (hts (.fieldLink RX12 19 "PetrolBoardModel" "bidOf" "[I") (me_s (me_l (List.mem_of_getElem? (i := 4) rfl)))) (fun _ h => h) rfl dX12_holder_95 ?_
              refine lv_aload_n hx hb dX12_holder_98 rfl (lv_at hl 0 rfl) ?_
              refine z_get (T := TX12) (N := 96) (ci := 12) (i := 0) (v := .int (I 0 1)) hx hb hts zj_X12_holder_X12 hown hK hW rfl rfl 1 (by decide) (hts (.fieldLink RX12 229 "PetrolBoardModel" "holders" "I") (me_s (me_l (List.mem_of_getElem? (i := 0) rfl)))) (fun _ h => h) (congrArg Value.int (by rw [eI33, z_up_n (by decide), eI31, z_up_n (by decide), eI29, z_up_n (by decide)])) dX12_holder_99 ?_
              refine lv_iload hx hb dX12_holder_102 (lv_at hl 4 rfl) ?_
              refine z_iast (i := 4) hx hb hK hW hS rfl (z_ix rfl (by omega) (by omega)) dX12_holder_104 (fun H locs hz1 hW hS => ?_)
              obtain ⟨I35, eI35⟩ : ∃ K : z_I, K = z_up I33 4 (I 0 1).toNatClampNeg a4 := ⟨_, rfl⟩
              rw [← eI35] at hW
              have f36 := z_fr_a f34 (show z_wa L_X12_holder_e 4 = true by decide) eI35
              refine lv_aload_n hx hb dX12_holder_105 rfl (lv_at hl 0 rfl) ?_
              refine z_get (T := TX12) (N := 96) (ci := 12) (i := 0) (v := .ref (ad 5)) hx hb hts zj_X12_holder_X12 hown hK hW rfl rfl 7 (by decide) (hts (.fieldLink RX12 22 "PetrolBoardModel" "needOf" "[I") (me_s (me_l (List.mem_of_getElem? (i := 5) rfl)))) (fun _ h => h) rfl dX12_holder_106 ?_
              refine lv_aload_n hx hb dX12_holder_109 rfl (lv_at hl 0 rfl) ?_
              refine z_get (T := TX12) (N := 96) (ci := 12) (i := 0) (v := .int (I 0 1)) hx hb hts zj_X12_holder_X12 hown hK hW rfl rfl 1 (by decide) (hts (.fieldLink RX12 229 "PetrolBoardModel" "holders" "I") (me_s (me_l (List.mem_of_getElem? (i := 0) rfl)))) (fun _ h => h) (congrArg Value.int (by rw [eI35, z_up_n (by decide), eI33, z_up_n (by decide), eI31, z_up_n (by decide), eI29, z_up_n (by decide)])) dX12_holder_110 ?_
              refine lv_iload hx hb dX12_holder_113 (lv_at hl 5 rfl) ?_
              refine z_iast (i := 5) hx hb hK hW hS rfl (z_ix rfl (by omega) (by omega)) dX12_holder_115 (fun H locs hz1 hW hS => ?_)
              obtain ⟨I37, eI37⟩ : ∃ K : z_I, K = z_up I35 5 (I 0 1).toNatClampNeg a5 := ⟨_, rfl⟩
              rw [← eI37] at hW
              have f38 := z_fr_a f36 (show z_wa L_X12_holder_e 5 = true by decide) eI37
              refine lv_aload_n hx hb dX12_holder_116 rfl (lv_at hl 0 rfl) ?_
              refine lv_dup hx hb dX12_holder_117 rfl ?_
              refine z_get (T := TX12) (N := 96) (ci := 12) (i := 0) (v := .int (I 0 1)) hx hb hts zj_X12_holder_X12 hown hK hW rfl rfl 1 (by decide) (hts (.fieldLink RX12 229 "PetrolBoardModel" "holders" "I") (me_s (me_l (List.mem_of_getElem? (i := 0) rfl)))) (fun _ h => h) (congrArg Value.int (by rw [eI37, z_up_n (by decide), eI35, z_up_n (by decide), eI33, z_up_n (by decide), eI31, z_up_n (by decide), eI29, z_up_n (by decide)])) dX12_holder_118 ?_
              refine lv_iconst (v := 1) hx hb dX12_holder_121 (by decide) ?_
              refine lv_iadd hx hb dX12_holder_122 ?_
              refine lv_topi (fun x39 ex39 => ?_)
              have tx39 : x39.toInt = (I 0 1).toInt + 1 := z_tadd ex39 rfl z_l1 (by omega) (by omega)
              refine z_put (T := TX12) (N := 96) (ci := 12) (i := 0) (v := .int x39) (I1 := z_up I37 0 1 x39) (J1 := J) (P1 := PM ad) hx hb hts zj_X12_holder_X12 tyX12 tyX12_ok nmX12 hown hK hW hS rfl rfl 1 (by decide) (hts (.fieldLink RX12 229 "PetrolBoardModel" "holders" "I") (me_s (me_l (List.mem_of_getElem? (i := 0) rfl)))) (fun _ h => h) rfl rfl rfl (by first | rfl | exact congrArg _ z_up_s) (fun a b h ty => z_vI h ty) dX12_holder_123 (fun H locs hz1 hW hS => ?_)
              obtain ⟨I40, eI40⟩ : ∃ K : z_I, K = z_up I37 0 1 x39 := ⟨_, rfl⟩
              rw [← eI40] at hW
              have f41 := z_fr_k f38 (show z_wr L_X12_holder_e 0 1 = true by decide) eI40
              refine lv_aload_n hx hb dX12_holder_126 rfl (lv_at hl 0 rfl) ?_
              refine z_get (T := TX12) (N := 96) (ci := 12) (i := 0) (v := .int x39) hx hb hts zj_X12_holder_X12 hown hK hW rfl rfl 1 (by decide) (hts (.fieldLink RX12 229 "PetrolBoardModel" "holders" "I") (me_s (me_l (List.mem_of_getElem? (i := 0) rfl)))) (fun _ h => h) (congrArg Value.int (by rw [eI40, z_up_s])) dX12_holder_127 ?_
              refine lv_iconst (v := 1) hx hb dX12_holder_130 (by decide) ?_
              refine lv_isub hx hb dX12_holder_131 ?_
              refine lv_topi (fun x42 ex42 => ?_)
              have tx42 : x42.toInt = x39.toInt - 1 := z_tsub ex42 rfl z_l1 (by omega) (by omega)
              exact z_iret hx hb hr hK hS (Nat.le_of_ble_eq_true rfl) (Nat.le_of_ble_eq_true rfl) hlocks dX12_holder_132 (shM, ad, I40, J, PM ad) hW ⟨I40, J, rfl, ⟨(by show 0 ≤ (I40 0 0).toInt ∧ (I40 0 0).toInt ≤ 719; rw [eI40, z_up_k (by decide), eI37, z_up_n (by decide), eI35, z_up_n (by decide), eI33, z_up_n (by decide), eI31, z_up_n (by decide), eI29, z_up_n (by decide)]; exact hma.1), (by show 0 ≤ (I40 0 1).toInt ∧ (I40 0 1).toInt ≤ 30; rw [eI40, z_up_s]; omega), (by show 0 ≤ (I40 0 2).toInt ∧ (I40 0 2).toInt ≤ 200; rw [eI40, z_up_k (by decide), eI37, z_up_n (by decide), eI35, z_up_n (by decide), eI33, z_up_n (by decide), eI31, z_up_n (by decide), eI29, z_up_n (by decide)]; exact hma.2.2)⟩, f41, (Or.inl ⟨by omega, by omega, (by have q9 : (I40 0 1) = x39 := (by rw [eI40, z_up_s]); show (I40 0 1).toInt = (I 0 1).toInt + 1; rw [q9]; first | done | omega)⟩)⟩
            · have g43 := z_f_eq rfl z_l30 c27
              refine lv_iconst (v := (-1)) hx hb dX12_holder_62 (by decide) ?_
              exact z_iret hx hb hr hK hS (Nat.le_of_ble_eq_true rfl) (Nat.le_of_ble_eq_true rfl) hlocks dX12_holder_63 (shM, ad, I, J, PM ad) hW ⟨I, J, rfl, ⟨(by show 0 ≤ (I 0 0).toInt ∧ (I 0 0).toInt ≤ 719; exact hma.1), (by show 0 ≤ (I 0 1).toInt ∧ (I 0 1).toInt ≤ 30; exact hma.2.1), (by show 0 ≤ (I 0 2).toInt ∧ (I 0 2).toInt ≤ 200; exact hma.2.2)⟩, z_fr_0, (Or.inr ⟨by omega, by decide, (by show (I 0 1).toInt = (I 0 1).toInt; omega)⟩)⟩
          · have h44 := h21
            have z45 := z_l0
            have z46 := z_l99
            refine lv_if_eq (tgt := 62) hx hb dX12_holder_50 (by decide) (fun c47 => ?_) (fun c47 => absurd (by decide) c47)
            refine lv_iconst (v := (-1)) hx hb dX12_holder_62 (by decide) ?_
            exact z_iret hx hb hr hK hS (Nat.le_of_ble_eq_true rfl) (Nat.le_of_ble_eq_true rfl) hlocks dX12_holder_63 (shM, ad, I, J, PM ad) hW ⟨I, J, rfl, ⟨(by show 0 ≤ (I 0 0).toInt ∧ (I 0 0).toInt ≤ 719; exact hma.1), (by show 0 ≤ (I 0 1).toInt ∧ (I 0 1).toInt ≤ 30; exact hma.2.1), (by show 0 ≤ (I 0 2).toInt ∧ (I 0 2).toInt ≤ 200; exact hma.2.2)⟩, z_fr_0, (Or.inr ⟨by omega, by decide, (by show (I 0 1).toInt = (I 0 1).toInt; omega)⟩)⟩
        · have h48 := h16
          have z49 := z_l0
          have z50 := z_l999
          refine lv_if_eq (tgt := 62) hx hb dX12_holder_39 (by decide) (fun c51 => ?_) (fun c51 => absurd (by decide) c51)
          refine lv_iconst (v := (-1)) hx hb dX12_holder_62 (by decide) ?_
          exact z_iret hx hb hr hK hS (Nat.le_of_ble_eq_true rfl) (Nat.le_of_ble_eq_true rfl) hlocks dX12_holder_63 (shM, ad, I, J, PM ad) hW ⟨I, J, rfl, ⟨(by show 0 ≤ (I 0 0).toInt ∧ (I 0 0).toInt ≤ 719; exact hma.1), (by show 0 ≤ (I 0 1).toInt ∧ (I 0 1).toInt ≤ 30; exact hma.2.1), (by show 0 ≤ (I 0 2).toInt ∧ (I 0 2).toInt ≤ 200; exact hma.2.2)⟩, z_fr_0, (Or.inr ⟨by omega, by decide, (by show (I 0 1).toInt = (I 0 1).toInt; omega)⟩)⟩
      · have h52 := h11
        have z53 := z_l1
        have z54 := z_l8
        refine lv_if_eq (tgt := 62) hx hb dX12_holder_27 (by decide) (fun c55 => ?_) (fun c55 => absurd (by decide) c55)
        refine lv_iconst (v := (-1)) hx hb dX12_holder_62 (by decide) ?_
        exact z_iret hx hb hr hK hS (Nat.le_of_ble_eq_true rfl) (Nat.le_of_ble_eq_true rfl) hlocks dX12_holder_63 (shM, ad, I, J, PM ad) hW ⟨I, J, rfl, ⟨(by show 0 ≤ (I 0 0).toInt ∧ (I 0 0).toInt ≤ 719; exact hma.1), (by show 0 ≤ (I 0 1).toInt ∧ (I 0 1).toInt ≤ 30; exact hma.2.1), (by show 0 ≤ (I 0 2).toInt ∧ (I 0 2).toInt ≤ 200; exact hma.2.2)⟩, z_fr_0, (Or.inr ⟨by omega, by decide, (by show (I 0 1).toInt = (I 0 1).toInt; omega)⟩)⟩
    · have h56 := h6
      have z57 := z_l0
      have z58 := z_l9
      refine lv_if_eq (tgt := 62) hx hb dX12_holder_17 (by decide) (fun c59 => ?_) (fun c59 => absurd (by decide) c59)
      refine lv_iconst (v := (-1)) hx hb dX12_holder_62 (by decide) ?_
      exact z_iret hx hb hr hK hS (Nat.le_of_ble_eq_true rfl) (Nat.le_of_ble_eq_true rfl) hlocks dX12_holder_63 (shM, ad, I, J, PM ad) hW ⟨I, J, rfl, ⟨(by show 0 ≤ (I 0 0).toInt ∧ (I 0 0).toInt ≤ 719; exact hma.1), (by show 0 ≤ (I 0 1).toInt ∧ (I 0 1).toInt ≤ 30; exact hma.2.1), (by show 0 ≤ (I 0 2).toInt ∧ (I 0 2).toInt ≤ 200; exact hma.2.2)⟩, z_fr_0, (Or.inr ⟨by omega, by decide, (by show (I 0 1).toInt = (I 0 1).toInt; omega)⟩)⟩
  · have h60 := h1
    have z61 := z_l1
    have z62 := z_l9
    refine lv_if_eq (tgt := 62) hx hb dX12_holder_7 (by decide) (fun c63 => ?_) (fun c63 => absurd (by decide) c63)
    refine lv_iconst (v := (-1)) hx hb dX12_holder_62 (by decide) ?_
    exact z_iret hx hb hr hK hS (Nat.le_of_ble_eq_true rfl) (Nat.le_of_ble_eq_true rfl) hlocks dX12_holder_63 (shM, ad, I, J, PM ad) hW ⟨I, J, rfl, ⟨(by show 0 ≤ (I 0 0).toInt ∧ (I 0 0).toInt ≤ 719; exact hma.1), (by show 0 ≤ (I 0 1).toInt ∧ (I 0 1).toInt ≤ 30; exact hma.2.1), (by show 0 ≤ (I 0 2).toInt ∧ (I 0 2).toInt ≤ 200; exact hma.2.2)⟩, z_fr_0, (Or.inr ⟨by omega, by decide, (by show (I 0 1).toInt = (I 0 1).toInt; omega)⟩)⟩