

set_option maxHeartbeats 8000000 in
set_option maxRecDepth 100000 in
theorem sx_X11_within_e (l : Launch) (G : z_G) (ad : Nat → Nat) (c : z_C) (I : z_I) (a1 : Int32) (a2 : Int32) (a3 : Int32) : z_M l yX11_within wsX11_within { frames := 1, cells := 0, slots := 0, locals := 12 } [.int a1, .int a2, .int a3] G (shC c, ad, I, JX, PC c ad) (fun r u1 => u1 = (shC c, ad, I, JX, PC c ad) ∧ ((r = 1 ∧ a2.toInt ≤ a1.toInt ∧ a1.toInt ≤ a3.toInt) ∨ (r = 0 ∧ ¬ (a2.toInt ≤ a1.toInt ∧ a1.toInt ≤ a3.toInt)))) 0 0 := by
  intro sz
  refine z_headQ (cc := cX11_within) (maxL := 3) (ret := (some .boolean)) (by decide) rfl (Nat.le_of_ble_eq_true rfl) ?_
  intro p e s m below meth c0 ls hIn hK hsz hW hl
  obtain ⟨hx, hb, hr, hml, hown, hts, hlocks, hname⟩ := hIn
  subst hsz
  have hown : s.vm.findClass RX11 = some m.cls := hown
  have hA : ∀ q : Nat, s.heap.size ≤ q → z_A (shC c, ad, I, JX, PC c ad) s.heap.size q := fun q h => Or.inr h
  generalize hAe : z_A (shC c, ad, I, JX, PC c ad) s.heap.size = A at *
  have hS : va_S A s.heap s.heap [] := va_S.rf
  have hl : lv_has ls 3 [(0, .int a1), (1, .int a2), (2, .int a3)] := hl
  refine lv_iload_n hx hb dX11_within_0 rfl (lv_at hl 0 rfl) ?_
  refine lv_iload_n hx hb dX11_within_1 rfl (lv_at hl 1 rfl) ?_
  refine lv_icmp_lt (tgt := 14) hx hb dX11_within_2 (by decide) (fun c1 => ?_) (fun c1 => ?_)
  · have g2 := z_f_lt rfl rfl c1
    have b3 := Int32.toInt_lt a1
    have b4 := Int32.toInt_lt a2
    refine lv_iconst (v := 0) hx hb dX11_within_14 (by decide) ?_
    exact z_zret hx hb hr (by decide) hK hS (Nat.le_of_ble_eq_true rfl) (Nat.le_of_ble_eq_true rfl) hlocks dX11_within_15 (shC c, ad, I, JX, PC c ad) hW ⟨rfl, (Or.inr ⟨rfl, by omega⟩)⟩
  · have g5 := z_f_nlt rfl rfl c1
    have b6 := Int32.toInt_lt a1
    have b7 := Int32.toInt_lt a2
    refine lv_iload_n hx hb dX11_within_5 rfl (lv_at hl 0 rfl) ?_
    refine lv_iload_n hx hb dX11_within_6 rfl (lv_at hl 2 rfl) ?_
    refine lv_icmp_gt (tgt := 14) hx hb dX11_within_7 (by decide) (fun c8 => ?_) (fun c8 => ?_)
    · have g9 := z_f_gt rfl rfl c8
      have b10 := Int32.toInt_lt a3
      refine lv_iconst (v := 0) hx hb dX11_within_14 (by decide) ?_
      exact z_zret hx hb hr (by decide) hK hS (Nat.le_of_ble_eq_true rfl) (Nat.le_of_ble_eq_true rfl) hlocks dX11_within_15 (shC c, ad, I, JX, PC c ad) hW ⟨rfl, (Or.inr ⟨rfl, by omega⟩)⟩
    · have g11 := z_f_ngt rfl rfl c8
      have b12 := Int32.toInt_lt a3
      refine lv_iconst (v := 1) hx hb dX11_within_10 (by decide) ?_
      refine lv_goto (tgt := 15) hx hb dX11_within_11 (by decide) ?_
      exact z_zret hx hb hr (by decide) hK hS (Nat.le_of_ble_eq_true rfl) (Nat.le_of_ble_eq_true rfl) hlocks dX11_within_15 (shC c, ad, I, JX, PC c ad) hW ⟨rfl, (Or.inl ⟨rfl, by omega⟩)⟩
set_option maxHeartbeats 8000000 in
set_option maxRecDepth 100000 in
theorem sx_X2_has_e (l : Launch) (G : z_G) (ad : Nat → Nat) (c : z_C) (I : z_I) (hH : z_iH I) (a1 : Int32) : z_M l yX2_has wsX2_has { frames := 1, cells := 0, slots := 0, locals := 12 } [.ref (ad 1), .int a1] G (shC c, ad, I, JX, PC c ad) (fun r u1 => u1 = (shC c, ad, I, JX, PC c ad) ∧ ((r = 1 ∧ 0 ≤ a1.toInt ∧ a1.toInt < (I 1 5).toInt) ∨ (r = 0 ∧ ¬ (0 ≤ a1.toInt ∧ a1.toInt < (I 1 5).toInt)))) 0 0 := by
  intro sz
  refine z_headQ (cc := cX2_has) (maxL := 2) (ret := (some .boolean)) (by decide) rfl (Nat.le_of_ble_eq_true rfl) ?_
  intro p e s m below meth c0 ls hIn hK hsz hW hl
  obtain ⟨hx, hb, hr, hml, hown, hts, hlocks, hname⟩ := hIn
  subst hsz
  have hown : s.vm.findClass RX2 = some m.cls := hown
  have hA : ∀ q : Nat, s.heap.size ≤ q → z_A (shC c, ad, I, JX, PC c ad) s.heap.size q := fun q h => Or.inr h
  generalize hAe : z_A (shC c, ad, I, JX, PC c ad) s.heap.size = A at *
  have hS : va_S A s.heap s.heap [] := va_S.rf
  have hl : lv_has ls 2 [(0, .ref (ad 1)), (1, .int a1)] := hl
  refine lv_iload_n hx hb dX2_has_0 rfl (lv_at hl 1 rfl) ?_
  refine lv_if_lt (tgt := 22) hx hb dX2_has_1 (by decide) (fun c1 => ?_) (fun c1 => ?_)
  · have g2 := z_f_lt rfl z_l0 c1
    have b3 := Int32.toInt_lt a1
    refine lv_iconst (v := 0) hx hb dX2_has_22 (by decide) ?_
    exact z_zret hx hb hr (by decide) hK hS (Nat.le_of_ble_eq_true rfl) (Nat.le_of_ble_eq_true rfl) hlocks dX2_has_23 (shC c, ad, I, JX, PC c ad) hW ⟨rfl, (Or.inr ⟨rfl, by omega⟩)⟩
  · have g4 := z_f_nlt rfl z_l0 c1
    have b5 := Int32.toInt_lt a1
    refine lv_iload_n hx hb dX2_has_4 rfl (lv_at hl 1 rfl) ?_
    refine lv_aload_n hx hb dX2_has_5 rfl (lv_at hl 0 rfl) ?_
    have r6 : 0 ≤ (I 1 5).toInt ∧ (I 1 5).toInt ≤ 30 := hH.1
    refine z_get (T := TX2) (N := 12) (ci := 2) (i := 1) (v := .int (I 1 5)) hx hb hts zj_X2_has_X2 hown hK hW rfl rfl 5 (by decide) (hts (.fieldLink RX2 42 "PetrolBoard$Holders" "number" "I") (me_s (me_l (List.mem_of_getElem? (i := 0) rfl)))) (fun _ h => h) rfl dX2_has_6 ?_
    refine lv_icmp_ge (tgt := 22) hx hb dX2_has_9 (by decide) (fun c7 => ?_) (fun c7 => ?_)
    · have g8 := z_f_ge rfl rfl c7
      refine lv_iconst (v := 0) hx hb dX2_has_22 (by decide) ?_
      exact z_zret hx hb hr (by decide) hK hS (Nat.le_of_ble_eq_true rfl) (Nat.le_of_ble_eq_true rfl) hlocks dX2_has_23 (shC c, ad, I, JX, PC c ad) hW ⟨rfl, (Or.inr ⟨rfl, by omega⟩)⟩
    · have g9 := z_f_nge rfl rfl c7
      refine lv_iload_n hx hb dX2_has_12 rfl (lv_at hl 1 rfl) ?_
      refine lv_bipush (v := 30) hx hb dX2_has_13 (by decide) ?_
      refine lv_icmp_ge (tgt := 22) hx hb dX2_has_15 (by decide) (fun c10 => (by have g := z_f_ge rfl z_l30 c10; omega)) (fun c10 => ?_)
      have g11 := z_f_nge rfl z_l30 c10
      refine lv_iconst (v := 1) hx hb dX2_has_18 (by decide) ?_
      refine lv_goto (tgt := 23) hx hb dX2_has_19 (by decide) ?_
      exact z_zret hx hb hr (by decide) hK hS (Nat.le_of_ble_eq_true rfl) (Nat.le_of_ble_eq_true rfl) hlocks dX2_has_23 (shC c, ad, I, JX, PC c ad) hW ⟨rfl, (Or.inl ⟨rfl, by omega⟩)⟩
set_option maxHeartbeats 8000000 in
set_option maxRecDepth 100000 in
theorem sx_X11_hasStation_e (l : Launch) (G : z_G) (ad : Nat → Nat) (c : z_C) (I : z_I) (hB : z_iB I) (a1 : Int32) (hc : z_okc c) (h10 : c.1 ≤ 10) : z_M l yX11_hasStation wsX11_hasStation { frames := 1, cells := 0, slots := 0, locals := 12 } [.ref (ad 0), .int a1] G (shC c, ad, I, JX, PC c ad) (fun r u1 => u1 = (shC c, ad, I, JX, PC c ad) ∧ ((r = 1 ∧ 0 ≤ a1.toInt ∧ a1.toInt < (I 0 8).toInt) ∨ (r = 0 ∧ ¬ (0 ≤ a1.toInt ∧ a1.toInt < (I 0 8).toInt)))) 0 0 := by
  intro sz
  refine z_headQ (cc := cX11_hasStation) (maxL := 2) (ret := (some .boolean)) (by decide) rfl (Nat.le_of_ble_eq_true rfl) ?_
  intro p e s m below meth c0 ls hIn hK hsz hW hl
  obtain ⟨hx, hb, hr, hml, hown, hts, hlocks, hname⟩ := hIn
  subst hsz
  have hown : s.vm.findClass RX11 = some m.cls := hown
  have hA : ∀ q : Nat, s.heap.size ≤ q → z_A (shC c, ad, I, JX, PC c ad) s.heap.size q := fun q h => Or.inr h
  generalize hAe : z_A (shC c, ad, I, JX, PC c ad) s.heap.size = A at *
  have hS : va_S A s.heap s.heap [] := va_S.rf
  have hl : lv_has ls 2 [(0, .ref (ad 0)), (1, .int a1)] := hl
  refine lv_iload_n hx hb dX11_hasStation_0 rfl (lv_at hl 1 rfl) ?_
  refine lv_if_lt (tgt := 16) hx hb dX11_hasStation_1 (by decide) (fun c1 => ?_) (fun c1 => ?_)
  · have g2 := z_f_lt rfl z_l0 c1
    have b3 := Int32.toInt_lt a1
    refine lv_iconst (v := 0) hx hb dX11_hasStation_16 (by decide) ?_
    exact z_zret hx hb hr (by decide) hK hS (Nat.le_of_ble_eq_true rfl) (Nat.le_of_ble_eq_true rfl) hlocks dX11_hasStation_17 (shC c, ad, I, JX, PC c ad) hW ⟨rfl, (Or.inr ⟨rfl, by omega⟩)⟩
  · have g4 := z_f_nlt rfl z_l0 c1
    have b5 := Int32.toInt_lt a1
    refine lv_iload_n hx hb dX11_hasStation_4 rfl (lv_at hl 1 rfl) ?_
    refine lv_aload_n hx hb dX11_hasStation_5 rfl (lv_at hl 0 rfl) ?_
    have r6 : 0 ≤ (I 0 8).toInt ∧ (I 0 8).toInt ≤ 10 := hB.2
    refine z_get (T := TX11) (N := 13) (ci := 11) (i := 0) (v := .int (I 0 8)) hx hb hts zj_X11_hasStation_X11 hown hK hW rfl rfl 8 (by decide) (hts (.fieldLink RX11 178 "PetrolBoard" "stationNumber" "I") (me_s (me_l (List.mem_of_getElem? (i := 0) rfl)))) (fun _ h => h) rfl dX11_hasStation_6 ?_
    refine lv_icmp_ge (tgt := 16) hx hb dX11_hasStation_9 (by decide) (fun c7 => ?_) (fun c7 => ?_)
    · have g8 := z_f_ge rfl rfl c7
      refine lv_iconst (v := 0) hx hb dX11_hasStation_16 (by decide) ?_
      exact z_zret hx hb hr (by decide) hK hS (Nat.le_of_ble_eq_true rfl) (Nat.le_of_ble_eq_true rfl) hlocks dX11_hasStation_17 (shC c, ad, I, JX, PC c ad) hW ⟨rfl, (Or.inr ⟨rfl, by omega⟩)⟩
    · have g9 := z_f_nge rfl rfl c7
      refine lv_iconst (v := 1) hx hb dX11_hasStation_12 (by decide) ?_
      refine lv_goto (tgt := 17) hx hb dX11_hasStation_13 (by decide) ?_
      exact z_zret hx hb hr (by decide) hK hS (Nat.le_of_ble_eq_true rfl) (Nat.le_of_ble_eq_true rfl) hlocks dX11_hasStation_17 (shC c, ad, I, JX, PC c ad) hW ⟨rfl, (Or.inl ⟨rfl, by omega⟩)⟩
noncomputable def L_X2_add_e : z_L := [(2, 999), (3, 999), (4, 999), (5, 999), (6, 999), (1, 5)]
set_option maxHeartbeats 8000000 in
set_option maxRecDepth 100000 in
theorem sx_X2_add_e (l : Launch) (G : z_G) (ad : Nat → Nat) (c : z_C) (I : z_I) (hH : z_iH I) (a1 : Int32) (a2 : Int32) (a3 : Int32) (a4 : Int32) (a5 : Int32) : z_M l yX2_add wsX2_add { frames := 1, cells := 0, slots := 0, locals := 12 } [.ref (ad 1), .int a1, .int a2, .int a3, .int a4, .int a5] G (shC c, ad, I, JX, PC c ad) (fun r u1 => ∃ I1 : z_I, u1 = (shC c, ad, I1, JX, PC c ad) ∧ z_iH I1 ∧ z_fr L_X2_add_e I1 I ∧ ((((I 1 5).toInt < 30) ∧ r.toInt = (I 1 5).toInt ∧ (I1 1 5).toInt = (I 1 5).toInt + 1) ∨ (¬ ((I 1 5).toInt < 30) ∧ r.toInt = -1 ∧ (I1 1 5).toInt = (I 1 5).toInt))) 0 0 := by
  intro sz
  refine z_headQ (cc := cX2_add) (maxL := 6) (ret := (some .int)) (by decide) rfl (Nat.le_of_ble_eq_true rfl) ?_
  intro p e s m below meth c0 ls hIn hK hsz hW hl
  obtain ⟨hx, hb, hr, hml, hown, hts, hlocks, hname⟩ := hIn
  subst hsz
  have hown : s.vm.findClass RX2 = some m.cls := hown
  have hA : ∀ q : Nat, s.heap.size ≤ q → z_A (shC c, ad, I, JX, PC c ad) s.heap.size q := fun q h => Or.inr h
  generalize hAe : z_A (shC c, ad, I, JX, PC c ad) s.heap.size = A at *
  have hS : va_S A s.heap s.heap [] := va_S.rf
  have hl : lv_has ls 6 [(0, .ref (ad 1)), (1, .int a1), (2, .int a2), (3, .int a3), (4, .int a4), (5, .int a5)] := hl
  refine lv_aload_n hx hb dX2_add_0 rfl (lv_at hl 0 rfl) ?_
  have r1 : 0 ≤ (I 1 5).toInt ∧ (I 1 5).toInt ≤ 30 := hH.1
  refine z_get (T := TX2) (N := 12) (ci := 2) (i := 1) (v := .int (I 1 5)) hx hb hts zj_X2_add_X2 hown hK hW rfl rfl 5 (by decide) (hts (.fieldLink RX2 42 "PetrolBoard$Holders" "number" "I") (me_s (me_l (List.mem_of_getElem? (i := 0) rfl)))) (fun _ h => h) rfl dX2_add_1 ?_
  refine lv_bipush (v := 30) hx hb dX2_add_4 (by decide) ?_
  refine lv_icmp_lt (tgt := 11) hx hb dX2_add_6 (by decide) (fun c2 => ?_) (fun c2 => ?_)
  · have g3 := z_f_lt rfl z_l30 c2
    refine lv_aload_n hx hb dX2_add_11 rfl (lv_at hl 0 rfl) ?_
    refine z_get (T := TX2) (N := 12) (ci := 2) (i := 1) (v := .ref (ad 2)) hx hb hts zj_X2_add_X2 hown hK hW rfl rfl 0 (by decide) (hts (.fieldLink RX2 9 "PetrolBoard$Holders" "size" "[I") (me_s (me_l (List.mem_of_getElem? (i := 1) rfl)))) (fun _ h => h) rfl dX2_add_12 ?_
    refine lv_aload_n hx hb dX2_add_15 rfl (lv_at hl 0 rfl) ?_
    refine z_get (T := TX2) (N := 12) (ci := 2) (i := 1) (v := .int (I 1 5)) hx hb hts zj_X2_add_X2 hown hK hW rfl rfl 5 (by decide) (hts (.fieldLink RX2 42 "PetrolBoard$Holders" "number" "I") (me_s (me_l (List.mem_of_getElem? (i := 0) rfl)))) (fun _ h => h) rfl dX2_add_16 ?_
    refine lv_iload_n hx hb dX2_add_19 rfl (lv_at hl 1 rfl) ?_
    refine z_iast (i := 2) hx hb hK hW hS rfl (z_ix rfl (by omega) (by omega)) dX2_add_20 (fun H locs hz1 hW hS => ?_)
    obtain ⟨I4, eI4⟩ : ∃ K : z_I, K = z_up I 2 (I 1 5).toNatClampNeg a1 := ⟨_, rfl⟩
    rw [← eI4] at hW
    have f5 := z_fr_a z_fr_0 (show z_wa L_X2_add_e 2 = true by decide) eI4
    refine lv_aload_n hx hb dX2_add_21 rfl (lv_at hl 0 rfl) ?_
    refine z_get (T := TX2) (N := 12) (ci := 2) (i := 1) (v := .ref (ad 3)) hx hb hts zj_X2_add_X2 hown hK hW rfl rfl 1 (by decide) (hts (.fieldLink RX2 15 "PetrolBoard$Holders" "town" "[I") (me_s (me_l (List.mem_of_getElem? (i := 2) rfl)))) (fun _ h => h) rfl dX2_add_22 ?_
    refine lv_aload_n hx hb dX2_add_25 rfl (lv_at hl 0 rfl) ?_
    refine z_get (T := TX2) (N := 12) (ci := 2) (i := 1) (v := .int (I 1 5)) hx hb hts zj_X2_add_X2 hown hK hW rfl rfl 5 (by decide) (hts (.fieldLink RX2 42 "PetrolBoard$Holders" "number" "I") (me_s (me_l (List.mem_of_getElem? (i := 0) rfl)))) (fun _ h => h) (congrArg Value.int (by rw [eI4, z_up_n (by decide)])) dX2_add_26 ?_
    refine lv_iload_n hx hb dX2_add_29 rfl (lv_at hl 2 rfl) ?_
    refine z_iast (i := 3) hx hb hK hW hS rfl (z_ix rfl (by omega) (by omega)) dX2_add_30 (fun H locs hz1 hW hS => ?_)
    obtain ⟨I6, eI6⟩ : ∃ K : z_I, K = z_up I4 3 (I 1 5).toNatClampNeg a2 := ⟨_, rfl⟩
    rw [← eI6] at hW
    have f7 := z_fr_a f5 (show z_wa L_X2_add_e 3 = true by decide) eI6
    refine lv_aload_n hx hb dX2_add_31 rfl (lv_at hl 0 rfl) ?_
    refine z_get (T := TX2) (N := 12) (ci := 2) (i := 1) (v := .ref (ad 4)) hx hb hts zj_X2_add_X2 hown hK hW rfl rfl 2 (by decide) (hts (.fieldLink RX2 18 "PetrolBoard$Holders" "seats" "[I") (me_s (me_l (List.mem_of_getElem? (i := 3) rfl)))) (fun _ h => h) rfl dX2_add_32 ?_
    refine lv_aload_n hx hb dX2_add_35 rfl (lv_at hl 0 rfl) ?_
    refine z_get (T := TX2) (N := 12) (ci := 2) (i := 1) (v := .int (I 1 5)) hx hb hts zj_X2_add_X2 hown hK hW rfl rfl 5 (by decide) (hts (.fieldLink RX2 42 "PetrolBoard$Holders" "number" "I") (me_s (me_l (List.mem_of_getElem? (i := 0) rfl)))) (fun _ h => h) (congrArg Value.int (by rw [eI6, z_up_n (by decide), eI4, z_up_n (by decide)])) dX2_add_36 ?_
    refine lv_iload_n hx hb dX2_add_39 rfl (lv_at hl 3 rfl) ?_
    refine z_iast (i := 4) hx hb hK hW hS rfl (z_ix rfl (by omega) (by omega)) dX2_add_40 (fun H locs hz1 hW hS => ?_)
    obtain ⟨I8, eI8⟩ : ∃ K : z_I, K = z_up I6 4 (I 1 5).toNatClampNeg a3 := ⟨_, rfl⟩
    rw [← eI8] at hW
    have f9 := z_fr_a f7 (show z_wa L_X2_add_e 4 = true by decide) eI8
    refine lv_aload_n hx hb dX2_add_41 rfl (lv_at hl 0 rfl) ?_
    refine z_get (T := TX2) (N := 12) (ci := 2) (i := 1) (v := .ref (ad 5)) hx hb hts zj_X2_add_X2 hown hK hW rfl rfl 3 (by decide) (hts (.fieldLink RX2 21 "PetrolBoard$Holders" "bid" "[I") (me_s (me_l (List.mem_of_getElem? (i := 4) rfl)))) (fun _ h => h) rfl dX2_add_42 ?_
    refine lv_aload_n hx hb dX2_add_45 rfl (lv_at hl 0 rfl) ?_
    refine z_get (T := TX2) (N := 12) (ci := 2) (i := 1) (v := .int (I 1 5)) hx hb hts zj_X2_add_X2 hown hK hW rfl rfl 5 (by decide) (hts (.fieldLink RX2 42 "PetrolBoard$Holders" "number" "I") (me_s (me_l (List.mem_of_getElem? (i := 0) rfl)))) (fun _ h => h) (congrArg Value.int (by rw [eI8, z_up_n (by decide), eI6, z_up_n (by decide), eI4, z_up_n (by decide)])) dX2_add_46 ?_
    refine lv_iload hx hb dX2_add_49 (lv_at hl 4 rfl) ?_
    refine z_iast (i := 5) hx hb hK hW hS rfl (z_ix rfl (by omega) (by omega)) dX2_add_51 (fun H locs hz1 hW hS => ?_)
    obtain ⟨I10, eI10⟩ : ∃ K : z_I, K = z_up I8 5 (I 1 5).toNatClampNeg a4 := ⟨_, rfl⟩
    rw [← eI10] at hW
    have f11 := z_fr_a f9 (show z_wa L_X2_add_e 5 = true by decide) eI10
    refine lv_aload_n hx hb dX2_add_52 rfl (lv_at hl 0 rfl) ?_
    refine z_get (T := TX2) (N := 12) (ci := 2) (i := 1) (v := .ref (ad 6)) hx hb hts zj_X2_add_X2 hown hK hW rfl rfl 4 (by decide) (hts (.fieldLink RX2 24 "PetrolBoard$Holders" "need" "[I") (me_s (me_l (List.mem_of_getElem? (i := 5) rfl)))) (fun _ h => h) rfl dX2_add_53 ?_
    refine lv_aload_n hx hb dX2_add_56 rfl (lv_at hl 0 rfl) ?_
    refine z_get (T := TX2) (N := 12) (ci := 2) (i := 1) (v := .int (I 1 5)) hx hb hts zj_X2_add_X2 hown hK hW rfl rfl 5 (by decide) (hts (.fieldLink RX2 42 "PetrolBoard$Holders" "number" "I") (me_s (me_l (List.mem_of_getElem? (i := 0) rfl)))) (fun _ h => h) (congrArg Value.int (by rw [eI10, z_up_n (by decide), eI8, z_up_n (by decide), eI6, z_up_n (by decide), eI4, z_up_n (by decide)])) dX2_add_57 ?_
    refine lv_iload hx hb dX2_add_60 (lv_at hl 5 rfl) ?_
    refine z_iast (i := 6) hx hb hK hW hS rfl (z_ix rfl (by omega) (by omega)) dX2_add_62 (fun H locs hz1 hW hS => ?_)
    obtain ⟨I12, eI12⟩ : ∃ K : z_I, K = z_up I10 6 (I 1 5).toNatClampNeg a5 := ⟨_, rfl⟩
    rw [← eI12] at hW
    have f13 := z_fr_a f11 (show z_wa L_X2_add_e 6 = true by decide) eI12
    refine lv_aload_n hx hb dX2_add_63 rfl (lv_at hl 0 rfl) ?_
    refine lv_dup hx hb dX2_add_64 rfl ?_
    refine z_get (T := TX2) (N := 12) (ci := 2) (i := 1) (v := .int (I 1 5)) hx hb hts zj_X2_add_X2 hown hK hW rfl rfl 5 (by decide) (hts (.fieldLink RX2 42 "PetrolBoard$Holders" "number" "I") (me_s (me_l (List.mem_of_getElem? (i := 0) rfl)))) (fun _ h => h) (congrArg Value.int (by rw [eI12, z_up_n (by decide), eI10, z_up_n (by decide), eI8, z_up_n (by decide), eI6, z_up_n (by decide), eI4, z_up_n (by decide)])) dX2_add_65 ?_
    refine lv_iconst (v := 1) hx hb dX2_add_68 (by decide) ?_
    refine lv_iadd hx hb dX2_add_69 ?_
    refine lv_topi (fun x14 ex14 => ?_)
    have tx14 : x14.toInt = (I 1 5).toInt + 1 := z_tadd ex14 rfl z_l1 (by omega) (by omega)
    refine z_put (T := TX2) (N := 12) (ci := 2) (i := 1) (v := .int x14) (I1 := z_up I12 1 5 x14) (J1 := JX) (P1 := PC c ad) hx hb hts zj_X2_add_X2 tyX2 tyX2_ok nmX2 hown hK hW hS rfl rfl 5 (by decide) (hts (.fieldLink RX2 42 "PetrolBoard$Holders" "number" "I") (me_s (me_l (List.mem_of_getElem? (i := 0) rfl)))) (fun _ h => h) rfl rfl rfl (by first | rfl | exact congrArg _ z_up_s) (fun a b h ty => z_vI h ty) dX2_add_70 (fun H locs hz1 hW hS => ?_)
    obtain ⟨I15, eI15⟩ : ∃ K : z_I, K = z_up I12 1 5 x14 := ⟨_, rfl⟩
    rw [← eI15] at hW
    have f16 := z_fr_k f13 (show z_wr L_X2_add_e 1 5 = true by decide) eI15
    refine lv_aload_n hx hb dX2_add_73 rfl (lv_at hl 0 rfl) ?_
    refine z_get (T := TX2) (N := 12) (ci := 2) (i := 1) (v := .int x14) hx hb hts zj_X2_add_X2 hown hK hW rfl rfl 5 (by decide) (hts (.fieldLink RX2 42 "PetrolBoard$Holders" "number" "I") (me_s (me_l (List.mem_of_getElem? (i := 0) rfl)))) (fun _ h => h) (congrArg Value.int (by rw [eI15, z_up_s])) dX2_add_74 ?_
    refine lv_iconst (v := 1) hx hb dX2_add_77 (by decide) ?_
    refine lv_isub hx hb dX2_add_78 ?_
    refine lv_topi (fun x17 ex17 => ?_)
    have tx17 : x17.toInt = x14.toInt - 1 := z_tsub ex17 rfl z_l1 (by omega) (by omega)
    exact z_iret hx hb hr hK hS (Nat.le_of_ble_eq_true rfl) (Nat.le_of_ble_eq_true rfl) hlocks dX2_add_79 (shC c, ad, I15, JX, PC c ad) hW ⟨I15, rfl, ⟨(by show 0 ≤ (I15 1 5).toInt ∧ (I15 1 5).toInt ≤ 30; rw [eI15, z_up_s]; omega), (by show 0 ≤ (I15 1 11).toInt ∧ (I15 1 11).toInt ≤ 200; rw [eI15, z_up_k (by decide), eI12, z_up_n (by decide), eI10, z_up_n (by decide), eI8, z_up_n (by decide), eI6, z_up_n (by decide), eI4, z_up_n (by decide)]; exact hH.2)⟩, f16, (Or.inl ⟨by omega, by omega, (by have q9 : (I15 1 5) = x14 := (by rw [eI15, z_up_s]); show (I15 1 5).toInt = (I 1 5).toInt + 1; rw [q9]; first | done | omega)⟩)⟩
  · have g18 := z_f_nlt rfl z_l30 c2
    refine lv_iconst (v := (-1)) hx hb dX2_add_9 (by decide) ?_
    exact z_iret hx hb hr hK hS (Nat.le_of_ble_eq_true rfl) (Nat.le_of_ble_eq_true rfl) hlocks dX2_add_10 (shC c, ad, I, JX, PC c ad) hW ⟨I, rfl, ⟨(by show 0 ≤ (I 1 5).toInt ∧ (I 1 5).toInt ≤ 30; exact hH.1), (by show 0 ≤ (I 1 11).toInt ∧ (I 1 11).toInt ≤ 200; exact hH.2)⟩, z_fr_0, (Or.inr ⟨by omega, by decide, (by show (I 1 5).toInt = (I 1 5).toInt; omega)⟩)⟩
noncomputable def L_X8_add_e : z_L := [(31, 999), (32, 999), (33, 999), (34, 999), (36, 999), (30, 8)]
set_option maxHeartbeats 8000000 in
set_option maxRecDepth 100000 in
theorem sx_X8_add_e (l : Launch) (G : z_G) (ad : Nat → Nat) (c : z_C) (I : z_I) (hP : z_iP I) (a1 : Int32) (a2 : Int32) (a3 : Int32) (a4 : Int32) : z_M l yX8_add wsX8_add { frames := 1, cells := 0, slots := 0, locals := 12 } [.ref (ad 30), .int a1, .int a2, .int a3, .int a4] G (shC c, ad, I, JX, PC c ad) (fun r u1 => ∃ I1 : z_I, u1 = (shC c, ad, I1, JX, PC c ad) ∧ z_iP I1 ∧ z_fr L_X8_add_e I1 I ∧ ((((I 30 8).toInt < 300) ∧ r.toInt = (I 30 8).toInt ∧ (I1 30 8).toInt = (I 30 8).toInt + 1) ∨ (¬ ((I 30 8).toInt < 300) ∧ r.toInt = -1 ∧ (I1 30 8).toInt = (I 30 8).toInt))) 0 0 := by
  intro sz
  refine z_headQ (cc := cX8_add) (maxL := 5) (ret := (some .int)) (by decide) rfl (Nat.le_of_ble_eq_true rfl) ?_
  intro p e s m below meth c0 ls hIn hK hsz hW hl
  obtain ⟨hx, hb, hr, hml, hown, hts, hlocks, hname⟩ := hIn
  subst hsz
  have hown : s.vm.findClass RX8 = some m.cls := hown
  have hA : ∀ q : Nat, s.heap.size ≤ q → z_A (shC c, ad, I, JX, PC c ad) s.heap.size q := fun q h => Or.inr h
  generalize hAe : z_A (shC c, ad, I, JX, PC c ad) s.heap.size = A at *
  have hS : va_S A s.heap s.heap [] := va_S.rf
  have hl : lv_has ls 5 [(0, .ref (ad 30)), (1, .int a1), (2, .int a2), (3, .int a3), (4, .int a4)] := hl
  refine lv_aload_n hx hb dX8_add_0 rfl (lv_at hl 0 rfl) ?_
  have r1 : 0 ≤ (I 30 8).toInt ∧ (I 30 8).toInt ≤ 300 := hP
  refine z_get (T := TX8) (N := 9) (ci := 8) (i := 30) (v := .int (I 30 8)) hx hb hts zj_X8_add_X8 hown hK hW rfl rfl 8 (by decide) (hts (.fieldLink RX8 36 "PetrolBoard$Pours" "number" "I") (me_s (me_l (List.mem_of_getElem? (i := 0) rfl)))) (fun _ h => h) rfl dX8_add_1 ?_
  refine lv_sipush (v := 300) hx hb dX8_add_4 (by decide) ?_
  refine lv_icmp_lt (tgt := 12) hx hb dX8_add_7 (by decide) (fun c2 => ?_) (fun c2 => ?_)
  · have g3 := z_f_lt rfl z_l300 c2
    refine lv_aload_n hx hb dX8_add_12 rfl (lv_at hl 0 rfl) ?_
    refine z_get (T := TX8) (N := 9) (ci := 8) (i := 30) (v := .ref (ad 31)) hx hb hts zj_X8_add_X8 hown hK hW rfl rfl 0 (by decide) (hts (.fieldLink RX8 9 "PetrolBoard$Pours" "station" "[I") (me_s (me_l (List.mem_of_getElem? (i := 1) rfl)))) (fun _ h => h) rfl dX8_add_13 ?_
    refine lv_aload_n hx hb dX8_add_16 rfl (lv_at hl 0 rfl) ?_
    refine z_get (T := TX8) (N := 9) (ci := 8) (i := 30) (v := .int (I 30 8)) hx hb hts zj_X8_add_X8 hown hK hW rfl rfl 8 (by decide) (hts (.fieldLink RX8 36 "PetrolBoard$Pours" "number" "I") (me_s (me_l (List.mem_of_getElem? (i := 0) rfl)))) (fun _ h => h) rfl dX8_add_17 ?_
    refine lv_iload_n hx hb dX8_add_20 rfl (lv_at hl 1 rfl) ?_
    refine z_iast (i := 31) hx hb hK hW hS rfl (z_ix rfl (by omega) (by omega)) dX8_add_21 (fun H locs hz1 hW hS => ?_)
    obtain ⟨I4, eI4⟩ : ∃ K : z_I, K = z_up I 31 (I 30 8).toNatClampNeg a1 := ⟨_, rfl⟩
    rw [← eI4] at hW
    have f5 := z_fr_a z_fr_0 (show z_wa L_X8_add_e 31 = true by decide) eI4
    refine lv_aload_n hx hb dX8_add_22 rfl (lv_at hl 0 rfl) ?_
    refine z_get (T := TX8) (N := 9) (ci := 8) (i := 30) (v := .ref (ad 32)) hx hb hts zj_X8_add_X8 hown hK hW rfl rfl 1 (by decide) (hts (.fieldLink RX8 15 "PetrolBoard$Pours" "holder" "[I") (me_s (me_l (List.mem_of_getElem? (i := 2) rfl)))) (fun _ h => h) rfl dX8_add_23 ?_
    refine lv_aload_n hx hb dX8_add_26 rfl (lv_at hl 0 rfl) ?_
    refine z_get (T := TX8) (N := 9) (ci := 8) (i := 30) (v := .int (I 30 8)) hx hb hts zj_X8_add_X8 hown hK hW rfl rfl 8 (by decide) (hts (.fieldLink RX8 36 "PetrolBoard$Pours" "number" "I") (me_s (me_l (List.mem_of_getElem? (i := 0) rfl)))) (fun _ h => h) (congrArg Value.int (by rw [eI4, z_up_n (by decide)])) dX8_add_27 ?_
    refine lv_iload_n hx hb dX8_add_30 rfl (lv_at hl 2 rfl) ?_
    refine z_iast (i := 32) hx hb hK hW hS rfl (z_ix rfl (by omega) (by omega)) dX8_add_31 (fun H locs hz1 hW hS => ?_)
    obtain ⟨I6, eI6⟩ : ∃ K : z_I, K = z_up I4 32 (I 30 8).toNatClampNeg a2 := ⟨_, rfl⟩
    rw [← eI6] at hW
    have f7 := z_fr_a f5 (show z_wa L_X8_add_e 32 = true by decide) eI6
    refine lv_aload_n hx hb dX8_add_32 rfl (lv_at hl 0 rfl) ?_
    refine z_get (T := TX8) (N := 9) (ci := 8) (i := 30) (v := .ref (ad 33)) hx hb hts zj_X8_add_X8 hown hK hW rfl rfl 2 (by decide) (hts (.fieldLink RX8 18 "PetrolBoard$Pours" "coupon" "[I") (me_s (me_l (List.mem_of_getElem? (i := 3) rfl)))) (fun _ h => h) rfl dX8_add_33 ?_
    refine lv_aload_n hx hb dX8_add_36 rfl (lv_at hl 0 rfl) ?_
    refine z_get (T := TX8) (N := 9) (ci := 8) (i := 30) (v := .int (I 30 8)) hx hb hts zj_X8_add_X8 hown hK hW rfl rfl 8 (by decide) (hts (.fieldLink RX8 36 "PetrolBoard$Pours" "number" "I") (me_s (me_l (List.mem_of_getElem? (i := 0) rfl)))) (fun _ h => h) (congrArg Value.int (by rw [eI6, z_up_n (by decide), eI4, z_up_n (by decide)])) dX8_add_37 ?_
    refine lv_iload_n hx hb dX8_add_40 rfl (lv_at hl 3 rfl) ?_
    refine z_iast (i := 33) hx hb hK hW hS rfl (z_ix rfl (by omega) (by omega)) dX8_add_41 (fun H locs hz1 hW hS => ?_)
    obtain ⟨I8, eI8⟩ : ∃ K : z_I, K = z_up I6 33 (I 30 8).toNatClampNeg a3 := ⟨_, rfl⟩
    rw [← eI8] at hW
    have f9 := z_fr_a f7 (show z_wa L_X8_add_e 33 = true by decide) eI8
    refine lv_aload_n hx hb dX8_add_42 rfl (lv_at hl 0 rfl) ?_
    refine z_get (T := TX8) (N := 9) (ci := 8) (i := 30) (v := .ref (ad 34)) hx hb hts zj_X8_add_X8 hown hK hW rfl rfl 3 (by decide) (hts (.fieldLink RX8 21 "PetrolBoard$Pours" "day" "[I") (me_s (me_l (List.mem_of_getElem? (i := 4) rfl)))) (fun _ h => h) rfl dX8_add_43 ?_
    refine lv_aload_n hx hb dX8_add_46 rfl (lv_at hl 0 rfl) ?_
    refine z_get (T := TX8) (N := 9) (ci := 8) (i := 30) (v := .int (I 30 8)) hx hb hts zj_X8_add_X8 hown hK hW rfl rfl 8 (by decide) (hts (.fieldLink RX8 36 "PetrolBoard$Pours" "number" "I") (me_s (me_l (List.mem_of_getElem? (i := 0) rfl)))) (fun _ h => h) (congrArg Value.int (by rw [eI8, z_up_n (by decide), eI6, z_up_n (by decide), eI4, z_up_n (by decide)])) dX8_add_47 ?_
    refine lv_iload hx hb dX8_add_50 (lv_at hl 4 rfl) ?_
    refine z_iast (i := 34) hx hb hK hW hS rfl (z_ix rfl (by omega) (by omega)) dX8_add_52 (fun H locs hz1 hW hS => ?_)
    obtain ⟨I10, eI10⟩ : ∃ K : z_I, K = z_up I8 34 (I 30 8).toNatClampNeg a4 := ⟨_, rfl⟩
    rw [← eI10] at hW
    have f11 := z_fr_a f9 (show z_wa L_X8_add_e 34 = true by decide) eI10
    refine lv_aload_n hx hb dX8_add_53 rfl (lv_at hl 0 rfl) ?_
    refine z_get (T := TX8) (N := 9) (ci := 8) (i := 30) (v := .ref (ad 36)) hx hb hts zj_X8_add_X8 hown hK hW rfl rfl 5 (by decide) (hts (.fieldLink RX8 27 "PetrolBoard$Pours" "verdict" "[I") (me_s (me_l (List.mem_of_getElem? (i := 5) rfl)))) (fun _ h => h) rfl dX8_add_54 ?_
    refine lv_aload_n hx hb dX8_add_57 rfl (lv_at hl 0 rfl) ?_
    refine z_get (T := TX8) (N := 9) (ci := 8) (i := 30) (v := .int (I 30 8)) hx hb hts zj_X8_add_X8 hown hK hW rfl rfl 8 (by decide) (hts (.fieldLink RX8 36 "PetrolBoard$Pours" "number" "I") (me_s (me_l (List.mem_of_getElem? (i := 0) rfl)))) (fun _ h => h) (congrArg Value.int (by rw [eI10, z_up_n (by decide), eI8, z_up_n (by decide), eI6, z_up_n (by decide), eI4, z_up_n (by decide)])) dX8_add_58 ?_
    refine lv_iconst (v := (-1)) hx hb dX8_add_61 (by decide) ?_
    refine z_iast (i := 36) hx hb hK hW hS rfl (z_ix rfl (by omega) (by omega)) dX8_add_62 (fun H locs hz1 hW hS => ?_)
    obtain ⟨I12, eI12⟩ : ∃ K : z_I, K = z_up I10 36 (I 30 8).toNatClampNeg (-1) := ⟨_, rfl⟩
    rw [← eI12] at hW
    have f13 := z_fr_a f11 (show z_wa L_X8_add_e 36 = true by decide) eI12
    refine lv_aload_n hx hb dX8_add_63 rfl (lv_at hl 0 rfl) ?_
    refine lv_dup hx hb dX8_add_64 rfl ?_
    refine z_get (T := TX8) (N := 9) (ci := 8) (i := 30) (v := .int (I 30 8)) hx hb hts zj_X8_add_X8 hown hK hW rfl rfl 8 (by decide) (hts (.fieldLink RX8 36 "PetrolBoard$Pours" "number" "I") (me_s (me_l (List.mem_of_getElem? (i := 0) rfl)))) (fun _ h => h) (congrArg Value.int (by rw [eI12, z_up_n (by decide), eI10, z_up_n (by decide), eI8, z_up_n (by decide), eI6, z_up_n (by decide), eI4, z_up_n (by decide)])) dX8_add_65 ?_
    refine lv_iconst (v := 1) hx hb dX8_add_68 (by decide) ?_
    refine lv_iadd hx hb dX8_add_69 ?_
    refine lv_topi (fun x14 ex14 => ?_)
    have tx14 : x14.toInt = (I 30 8).toInt + 1 := z_tadd ex14 rfl z_l1 (by omega) (by omega)
    refine z_put (T := TX8) (N := 9) (ci := 8) (i := 30) (v := .int x14) (I1 := z_up I12 30 8 x14) (J1 := JX) (P1 := PC c ad) hx hb hts zj_X8_add_X8 tyX8 tyX8_ok nmX8 hown hK hW hS rfl rfl 8 (by decide) (hts (.fieldLink RX8 36 "PetrolBoard$Pours" "number" "I") (me_s (me_l (List.mem_of_getElem? (i := 0) rfl)))) (fun _ h => h) rfl rfl rfl (by first | rfl | exact congrArg _ z_up_s) (fun a b h ty => z_vI h ty) dX8_add_70 (fun H locs hz1 hW hS => ?_)
    obtain ⟨I15, eI15⟩ : ∃ K : z_I, K = z_up I12 30 8 x14 := ⟨_, rfl⟩
    rw [← eI15] at hW
    have f16 := z_fr_k f13 (show z_wr L_X8_add_e 30 8 = true by decide) eI15
    refine lv_aload_n hx hb dX8_add_73 rfl (lv_at hl 0 rfl) ?_
    refine z_get (T := TX8) (N := 9) (ci := 8) (i := 30) (v := .int x14) hx hb hts zj_X8_add_X8 hown hK hW rfl rfl 8 (by decide) (hts (.fieldLink RX8 36 "PetrolBoard$Pours" "number" "I") (me_s (me_l (List.mem_of_getElem? (i := 0) rfl)))) (fun _ h => h) (congrArg Value.int (by rw [eI15, z_up_s])) dX8_add_74 ?_
    refine lv_iconst (v := 1) hx hb dX8_add_77 (by decide) ?_
    refine lv_isub hx hb dX8_add_78 ?_
    refine lv_topi (fun x17 ex17 => ?_)
    have tx17 : x17.toInt = x14.toInt - 1 := z_tsub ex17 rfl z_l1 (by omega) (by omega)
    exact z_iret hx hb hr hK hS (Nat.le_of_ble_eq_true rfl) (Nat.le_of_ble_eq_true rfl) hlocks dX8_add_79 (shC c, ad, I15, JX, PC c ad) hW ⟨I15, rfl, (by show 0 ≤ (I15 30 8).toInt ∧ (I15 30 8).toInt ≤ 300; rw [eI15, z_up_s]; omega), f16, (Or.inl ⟨by omega, by omega, (by have q9 : (I15 30 8) = x14 := (by rw [eI15, z_up_s]); show (I15 30 8).toInt = (I 30 8).toInt + 1; rw [q9]; first | done | omega)⟩)⟩
  · have g18 := z_f_nlt rfl z_l300 c2
    refine lv_iconst (v := (-1)) hx hb dX8_add_10 (by decide) ?_
    exact z_iret hx hb hr hK hS (Nat.le_of_ble_eq_true rfl) (Nat.le_of_ble_eq_true rfl) hlocks dX8_add_11 (shC c, ad, I, JX, PC c ad) hW ⟨I, rfl, (by show 0 ≤ (I 30 8).toInt ∧ (I 30 8).toInt ≤ 300; exact hP), z_fr_0, (Or.inr ⟨by omega, by decide, (by show (I 30 8).toInt = (I 30 8).toInt; omega)⟩)⟩
noncomputable def L_X11_holder_e : z_L := [(2, 999), (3, 999), (4, 999), (5, 999), (6, 999), (1, 5)]
set_option maxHeartbeats 8000000 in
set_option maxRecDepth 100000 in
theorem sx_X11_holder_e (l : Launch) (G : z_G) (ad : Nat → Nat) (c : z_C) (I : z_I) (hH : z_iH I) (a1 : Int32) (a2 : Int32) (a3 : Int32) (a4 : Int32) (a5 : Int32) (hc : z_okc c) (h10 : c.1 ≤ 10) : z_M l yX11_holder wsX11_holder { frames := 2, cells := 0, slots := 0, locals := 37 } [.ref (ad 0), .int a1, .int a2, .int a3, .int a4, .int a5] G (shC c, ad, I, JX, PC c ad) (fun r u1 => ∃ I1 : z_I, u1 = (shC c, ad, I1, JX, PC c ad) ∧ z_iH I1 ∧ z_fr L_X11_holder_e I1 I ∧ (((1 ≤ a1.toInt ∧ a1.toInt ≤ 9 ∧ 0 ≤ a2.toInt ∧ a2.toInt ≤ 9 ∧ 1 ≤ a3.toInt ∧ a3.toInt ≤ 8 ∧ 0 ≤ a4.toInt ∧ a4.toInt ≤ 999 ∧ 0 ≤ a5.toInt ∧ a5.toInt ≤ 99 ∧ (I 1 5).toInt < 30) ∧ r.toInt = (I 1 5).toInt ∧ (I1 1 5).toInt = (I 1 5).toInt + 1) ∨ (¬ (1 ≤ a1.toInt ∧ a1.toInt ≤ 9 ∧ 0 ≤ a2.toInt ∧ a2.toInt ≤ 9 ∧ 1 ≤ a3.toInt ∧ a3.toInt ≤ 8 ∧ 0 ≤ a4.toInt ∧ a4.toInt ≤ 999 ∧ 0 ≤ a5.toInt ∧ a5.toInt ≤ 99 ∧ (I 1 5).toInt < 30) ∧ r.toInt = -1 ∧ (I1 1 5).toInt = (I 1 5).toInt))) 0 0 := by
  intro sz
  refine z_headQ (cc := cX11_holder) (maxL := 6) (ret := (some .int)) (by decide) rfl (Nat.le_of_ble_eq_true rfl) ?_
  intro p e s m below meth c0 ls hIn hK hsz hW hl
  obtain ⟨hx, hb, hr, hml, hown, hts, hlocks, hname⟩ := hIn
  subst hsz
  have hown : s.vm.findClass RX11 = some m.cls := hown
  have hA : ∀ q : Nat, s.heap.size ≤ q → z_A (shC c, ad, I, JX, PC c ad) s.heap.size q := fun q h => Or.inr h
  generalize hAe : z_A (shC c, ad, I, JX, PC c ad) s.heap.size = A at *
  have hS : va_S A s.heap s.heap [] := va_S.rf
  have hl : lv_has ls 6 [(0, .ref (ad 0)), (1, .int a1), (2, .int a2), (3, .int a3), (4, .int a4), (5, .int a5)] := hl
  refine lv_iload_n hx hb dX11_holder_0 rfl (lv_at hl 1 rfl) ?_
  refine lv_iconst (v := 1) hx hb dX11_holder_1 (by decide) ?_
  refine lv_bipush (v := 9) hx hb dX11_holder_2 (by decide) ?_
  refine z_ci hW hS hA (va_runS (As := [.int a1, .int 1, .int 9]) (rest := []) ⟨hx, hb, hml, hown, hts⟩ (sx_X11_within_e l G ad c I  a1 1 9 _) (va_cwS 3 hts gX11_holder_X11_within rfl rfl rfl hy_X11_within.2 ⟨Nat.le_of_ble_eq_true rfl, Nat.le_of_ble_eq_true rfl⟩) (z_preS hK hW) rfl rfl hl.1 rfl (lv_room (Nat.le_of_ble_eq_true rfl)) dX11_holder_4 ⟨Nat.le_of_ble_eq_true rfl, Nat.le_of_ble_eq_true rfl⟩) (fun r u1 H locs hp hW hS => ?_)
  obtain ⟨e9, hp⟩ := hp
  rw [e9] at hW
  rcases hp with ⟨rfl, h1⟩ | ⟨rfl, h1⟩
  · have h2 := h1
    have z3 := z_l1
    have z4 := z_l9
    refine lv_if_eq (tgt := 30) hx hb dX11_holder_7 (by decide) (fun c5 => absurd c5 (by decide)) (fun c5 => ?_)
    refine lv_iload_n hx hb dX11_holder_10 rfl (lv_at hl 2 rfl) ?_
    refine lv_iconst (v := 0) hx hb dX11_holder_11 (by decide) ?_
    refine lv_bipush (v := 9) hx hb dX11_holder_12 (by decide) ?_
    refine z_ci hW hS hA (va_runS (As := [.int a2, .int 0, .int 9]) (rest := []) ⟨hx, hb, hml, hown, hts⟩ (sx_X11_within_e l G ad c I  a2 0 9 _) (va_cwS 3 hts gX11_holder_X11_within rfl rfl rfl hy_X11_within.2 ⟨Nat.le_of_ble_eq_true rfl, Nat.le_of_ble_eq_true rfl⟩) (z_preS hK hW) rfl rfl hl.1 rfl (lv_room (Nat.le_of_ble_eq_true rfl)) dX11_holder_14 ⟨Nat.le_of_ble_eq_true rfl, Nat.le_of_ble_eq_true rfl⟩) (fun r u1 H locs hp hW hS => ?_)
    obtain ⟨e9, hp⟩ := hp
    rw [e9] at hW
    rcases hp with ⟨rfl, h6⟩ | ⟨rfl, h6⟩
    · have h7 := h6
      have z8 := z_l0
      have z9 := z_l9
      refine lv_if_eq (tgt := 30) hx hb dX11_holder_17 (by decide) (fun c10 => absurd c10 (by decide)) (fun c10 => ?_)
      refine lv_iload_n hx hb dX11_holder_20 rfl (lv_at hl 3 rfl) ?_
      refine lv_iconst (v := 1) hx hb dX11_holder_21 (by decide) ?_
      refine lv_bipush (v := 8) hx hb dX11_holder_22 (by decide) ?_
      refine z_ci hW hS hA (va_runS (As := [.int a3, .int 1, .int 8]) (rest := []) ⟨hx, hb, hml, hown, hts⟩ (sx_X11_within_e l G ad c I  a3 1 8 _) (va_cwS 3 hts gX11_holder_X11_within rfl rfl rfl hy_X11_within.2 ⟨Nat.le_of_ble_eq_true rfl, Nat.le_of_ble_eq_true rfl⟩) (z_preS hK hW) rfl rfl hl.1 rfl (lv_room (Nat.le_of_ble_eq_true rfl)) dX11_holder_24 ⟨Nat.le_of_ble_eq_true rfl, Nat.le_of_ble_eq_true rfl⟩) (fun r u1 H locs hp hW hS => ?_)
      obtain ⟨e9, hp⟩ := hp
      rw [e9] at hW
      rcases hp with ⟨rfl, h11⟩ | ⟨rfl, h11⟩
      · have h12 := h11
        have z13 := z_l1
        have z14 := z_l8
        refine lv_if_ne (tgt := 32) hx hb dX11_holder_27 (by decide) (fun c15 => ?_) (fun c15 => absurd c15 (by decide))
        refine lv_iload hx hb dX11_holder_32 (lv_at hl 4 rfl) ?_
        refine lv_iconst (v := 0) hx hb dX11_holder_34 (by decide) ?_
        refine lv_sipush (v := 999) hx hb dX11_holder_35 (by decide) ?_
        refine z_ci hW hS hA (va_runS (As := [.int a4, .int 0, .int 999]) (rest := []) ⟨hx, hb, hml, hown, hts⟩ (sx_X11_within_e l G ad c I  a4 0 999 _) (va_cwS 3 hts gX11_holder_X11_within rfl rfl rfl hy_X11_within.2 ⟨Nat.le_of_ble_eq_true rfl, Nat.le_of_ble_eq_true rfl⟩) (z_preS hK hW) rfl rfl hl.1 rfl (lv_room (Nat.le_of_ble_eq_true rfl)) dX11_holder_38 ⟨Nat.le_of_ble_eq_true rfl, Nat.le_of_ble_eq_true rfl⟩) (fun r u1 H locs hp hW hS => ?_)
        obtain ⟨e9, hp⟩ := hp
        rw [e9] at hW
        rcases hp with ⟨rfl, h16⟩ | ⟨rfl, h16⟩
        · have h17 := h16
          have z18 := z_l0
          have z19 := z_l999
          refine lv_if_eq (tgt := 55) hx hb dX11_holder_41 (by decide) (fun c20 => absurd c20 (by decide)) (fun c20 => ?_)
          refine lv_iload hx hb dX11_holder_44 (lv_at hl 5 rfl) ?_
          refine lv_iconst (v := 0) hx hb dX11_holder_46 (by decide) ?_
          refine lv_bipush (v := 99) hx hb dX11_holder_47 (by decide) ?_
          refine z_ci hW hS hA (va_runS (As := [.int a5, .int 0, .int 99]) (rest := []) ⟨hx, hb, hml, hown, hts⟩ (sx_X11_within_e l G ad c I  a5 0 99 _) (va_cwS 3 hts gX11_holder_X11_within rfl rfl rfl hy_X11_within.2 ⟨Nat.le_of_ble_eq_true rfl, Nat.le_of_ble_eq_true rfl⟩) (z_preS hK hW) rfl rfl hl.1 rfl (lv_room (Nat.le_of_ble_eq_true rfl)) dX11_holder_49 ⟨Nat.le_of_ble_eq_true rfl, Nat.le_of_ble_eq_true rfl⟩) (fun r u1 H locs hp hW hS => ?_)
          obtain ⟨e9, hp⟩ := hp
          rw [e9] at hW
          rcases hp with ⟨rfl, h21⟩ | ⟨rfl, h21⟩
          · have h22 := h21
            have z23 := z_l0
            have z24 := z_l99
            refine lv_if_ne (tgt := 57) hx hb dX11_holder_52 (by decide) (fun c25 => ?_) (fun c25 => absurd c25 (by decide))
            refine lv_aload_n hx hb dX11_holder_57 rfl (lv_at hl 0 rfl) ?_
            refine z_get (T := TX11) (N := 13) (ci := 11) (i := 0) (v := .ref (ad 1)) hx hb hts zj_X11_holder_X11 hown hK hW rfl rfl 2 (by decide) (hts (.fieldLink RX11 16 "PetrolBoard" "holders" "LPetrolBoard$Holders;") (me_s (me_l (me_l (List.mem_of_getElem? (i := 0) rfl))))) (fun _ h => h) rfl dX11_holder_58 ?_
            refine lv_iload_n hx hb dX11_holder_61 rfl (lv_at hl 1 rfl) ?_
            refine lv_iload_n hx hb dX11_holder_62 rfl (lv_at hl 2 rfl) ?_
            refine lv_iload_n hx hb dX11_holder_63 rfl (lv_at hl 3 rfl) ?_
            refine lv_iload hx hb dX11_holder_64 (lv_at hl 4 rfl) ?_
            refine lv_iload hx hb dX11_holder_66 (lv_at hl 5 rfl) ?_
            refine z_ci hW hS hA (va_runV (As := [.int a1, .int a2, .int a3, .int a4, .int a5]) (rest := []) ⟨hx, hb, hml, hown, hts⟩ (sx_X2_add_e l G ad c I ⟨(by show 0 ≤ (I 1 5).toInt ∧ (I 1 5).toInt ≤ 30; exact hH.1), (by show 0 ≤ (I 1 11).toInt ∧ (I 1 11).toInt ≤ 200; exact hH.2)⟩ a1 a2 a3 a4 a5 _) (cwV 5 hts gX11_holder_X2_add rfl rfl rfl hy_X2_add ⟨Nat.le_of_ble_eq_true rfl, Nat.le_of_ble_eq_true rfl⟩) (z_preV (i := 1) hK hW rfl rfl) rfl rfl hl.1 rfl (lv_room (Nat.le_of_ble_eq_true rfl)) dX11_holder_68 ⟨Nat.le_of_ble_eq_true rfl, Nat.le_of_ble_eq_true rfl⟩) (fun r u1 H locs hp hW hS => ?_)
            obtain ⟨I26, e9, hI26H, fI26, hp⟩ := hp
            rw [e9] at hW
            have f27 := z_fr_sub (L := L_X11_holder_e) z_fr_0 fI26 (by decide)
            refine lv_topi (fun x28 ex28 => ?_)
            rw [← ex28] at hp
            rcases hp with ⟨h29, h30, h31⟩ | ⟨h29, h30, h31⟩
            · have h32 := h29
              exact z_iret hx hb hr hK hS (Nat.le_of_ble_eq_true rfl) (Nat.le_of_ble_eq_true rfl) hlocks dX11_holder_71 (shC c, ad, I26, JX, PC c ad) hW ⟨I26, rfl, ⟨(by show 0 ≤ (I26 1 5).toInt ∧ (I26 1 5).toInt ≤ 30; exact hI26H.1), (by show 0 ≤ (I26 1 11).toInt ∧ (I26 1 11).toInt ≤ 200; exact hI26H.2)⟩, f27, (Or.inl ⟨by omega, by omega, (by show (I26 1 5).toInt = (I 1 5).toInt + 1; omega)⟩)⟩
            · have h33 := h29
              exact z_iret hx hb hr hK hS (Nat.le_of_ble_eq_true rfl) (Nat.le_of_ble_eq_true rfl) hlocks dX11_holder_71 (shC c, ad, I26, JX, PC c ad) hW ⟨I26, rfl, ⟨(by show 0 ≤ (I26 1 5).toInt ∧ (I26 1 5).toInt ≤ 30; exact hI26H.1), (by show 0 ≤ (I26 1 11).toInt ∧ (I26 1 11).toInt ≤ 200; exact hI26H.2)⟩, f27, (Or.inr ⟨by omega, by omega, (by show (I26 1 5).toInt = (I 1 5).toInt; omega)⟩)⟩
          · have h34 := h21
            have z35 := z_l0
            have z36 := z_l99
            refine lv_if_ne (tgt := 57) hx hb dX11_holder_52 (by decide) (fun c37 => absurd (by decide) c37) (fun c37 => ?_)
            refine lv_iconst (v := (-1)) hx hb dX11_holder_55 (by decide) ?_
            exact z_iret hx hb hr hK hS (Nat.le_of_ble_eq_true rfl) (Nat.le_of_ble_eq_true rfl) hlocks dX11_holder_56 (shC c, ad, I, JX, PC c ad) hW ⟨I, rfl, ⟨(by show 0 ≤ (I 1 5).toInt ∧ (I 1 5).toInt ≤ 30; exact hH.1), (by show 0 ≤ (I 1 11).toInt ∧ (I 1 11).toInt ≤ 200; exact hH.2)⟩, z_fr_0, (Or.inr ⟨by omega, by decide, (by show (I 1 5).toInt = (I 1 5).toInt; omega)⟩)⟩
        · have h38 := h16
          have z39 := z_l0
          have z40 := z_l999
          refine lv_if_eq (tgt := 55) hx hb dX11_holder_41 (by decide) (fun c41 => ?_) (fun c41 => absurd (by decide) c41)
          refine lv_iconst (v := (-1)) hx hb dX11_holder_55 (by decide) ?_
          exact z_iret hx hb hr hK hS (Nat.le_of_ble_eq_true rfl) (Nat.le_of_ble_eq_true rfl) hlocks dX11_holder_56 (shC c, ad, I, JX, PC c ad) hW ⟨I, rfl, ⟨(by show 0 ≤ (I 1 5).toInt ∧ (I 1 5).toInt ≤ 30; exact hH.1), (by show 0 ≤ (I 1 11).toInt ∧ (I 1 11).toInt ≤ 200; exact hH.2)⟩, z_fr_0, (Or.inr ⟨by omega, by decide, (by show (I 1 5).toInt = (I 1 5).toInt; omega)⟩)⟩
      · have h42 := h11
        have z43 := z_l1
        have z44 := z_l8
        refine lv_if_ne (tgt := 32) hx hb dX11_holder_27 (by decide) (fun c45 => absurd (by decide) c45) (fun c45 => ?_)
        refine lv_iconst (v := (-1)) hx hb dX11_holder_30 (by decide) ?_
        exact z_iret hx hb hr hK hS (Nat.le_of_ble_eq_true rfl) (Nat.le_of_ble_eq_true rfl) hlocks dX11_holder_31 (shC c, ad, I, JX, PC c ad) hW ⟨I, rfl, ⟨(by show 0 ≤ (I 1 5).toInt ∧ (I 1 5).toInt ≤ 30; exact hH.1), (by show 0 ≤ (I 1 11).toInt ∧ (I 1 11).toInt ≤ 200; exact hH.2)⟩, z_fr_0, (Or.inr ⟨by omega, by decide, (by show (I 1 5).toInt = (I 1 5).toInt; omega)⟩)⟩
    · have h46 := h6
      have z47 := z_l0
      have z48 := z_l9
      refine lv_if_eq (tgt := 30) hx hb dX11_holder_17 (by decide) (fun c49 => ?_) (fun c49 => absurd (by decide) c49)
      refine lv_iconst (v := (-1)) hx hb dX11_holder_30 (by decide) ?_
      exact z_iret hx hb hr hK hS (Nat.le_of_ble_eq_true rfl) (Nat.le_of_ble_eq_true rfl) hlocks dX11_holder_31 (shC c, ad, I, JX, PC c ad) hW ⟨I, rfl, ⟨(by show 0 ≤ (I 1 5).toInt ∧ (I 1 5).toInt ≤ 30; exact hH.1), (by show 0 ≤ (I 1 11).toInt ∧ (I 1 11).toInt ≤ 200; exact hH.2)⟩, z_fr_0, (Or.inr ⟨by omega, by decide, (by show (I 1 5).toInt = (I 1 5).toInt; omega)⟩)⟩
  · have h50 := h1
    have z51 := z_l1
    have z52 := z_l9
    refine lv_if_eq (tgt := 30) hx hb dX11_holder_7 (by decide) (fun c53 => ?_) (fun c53 => absurd (by decide) c53)
    refine lv_iconst (v := (-1)) hx hb dX11_holder_30 (by decide) ?_
    exact z_iret hx hb hr hK hS (Nat.le_of_ble_eq_true rfl) (Nat.le_of_ble_eq_true rfl) hlocks dX11_holder_31 (shC c, ad, I, JX, PC c ad) hW ⟨I, rfl, ⟨(by show 0 ≤ (I 1 5).toInt ∧ (I 1 5).toInt ≤ 30; exact hH.1), (by show 0 ≤ (I 1 11).toInt ∧ (I 1 11).toInt ≤ 200; exact hH.2)⟩, z_fr_0, (Or.inr ⟨by omega, by decide, (by show (I 1 5).toInt = (I 1 5).toInt; omega)⟩)⟩
noncomputable def L_X11_pour_e : z_L := [(31, 999), (32, 999), (33, 999), (34, 999), (36, 999), (30, 8), (35, 999), (37, 999), (38, 999)]
set_option maxHeartbeats 8000000 in
set_option maxRecDepth 100000 in
theorem sx_X11_pour_e (l : Launch) (G : z_G) (ad : Nat → Nat) (c : z_C) (I : z_I) (hP : z_iP I) (hO : z_iO I) (hH : z_iH I) (hB : z_iB I) (hC : z_iC I) (a1 : Int32) (a2 : Int32) (a3 : Int32) (hc : z_okc c) (h10 : c.1 ≤ 10) : z_MS l yX11_pour wsX11_pour { frames := 4, cells := 0, slots := 0, locals := 86 } [.ref (ad 0), .int a1, .int a2, .int a3] G (shC c, ad, I, JX, PC c ad) (fun r u1 => ∃ I1 : z_I, u1 = (shC c, ad, I1, JX, PC c ad) ∧ z_iP I1 ∧ z_iO I1 ∧ z_iH I1 ∧ z_iB I1 ∧ z_iC I1 ∧ z_fr L_X11_pour_e I1 I ∧ (((0 ≤ a1.toInt ∧ a1.toInt < (I 0 8).toInt ∧ 0 ≤ a2.toInt ∧ a2.toInt < (I 1 5).toInt ∧ 0 ≤ a3.toInt ∧ a3.toInt ≤ 99999 ∧ (I 30 8).toInt < 300) ∧ r.toInt = (I 30 8).toInt ∧ (I1 30 8).toInt = (I 30 8).toInt + 1) ∨ (¬ (0 ≤ a1.toInt ∧ a1.toInt < (I 0 8).toInt ∧ 0 ≤ a2.toInt ∧ a2.toInt < (I 1 5).toInt ∧ 0 ≤ a3.toInt ∧ a3.toInt ≤ 99999 ∧ (I 30 8).toInt < 300) ∧ r.toInt = -1 ∧ (I1 30 8).toInt = (I 30 8).toInt))) 0 0 := by
  intro sz
  refine z_headS (cc := cX11_pour) (maxL := 5) (ret := (some .int)) (by decide) rfl (Nat.le_of_ble_eq_true rfl) ?_
  intro p e s m below meth c0 ls hIn hK hsz hW hl hSt
  obtain ⟨hx, hb, hr, hml, hown, hts, hlocks, hname⟩ := hIn
  subst hsz
  have hown : s.vm.findClass RX11 = some m.cls := hown
  have hA : ∀ q : Nat, s.heap.size ≤ q → z_A (shC c, ad, I, JX, PC c ad) s.heap.size q := fun q h => Or.inr h
  generalize hAe : z_A (shC c, ad, I, JX, PC c ad) s.heap.size = A at *
  have hS : va_S A s.heap s.heap [] := va_S.rf
  have hl : lv_has ls 5 [(0, .ref (ad 0)), (1, .int a1), (2, .int a2), (3, .int a3)] := hl
  refine lv_aload_n hx hb dX11_pour_0 rfl (lv_at hl 0 rfl) ?_
  refine lv_iload_n hx hb dX11_pour_1 rfl (lv_at hl 1 rfl) ?_
  refine z_ci hW hS hA (va_runV (As := [.int a1]) (rest := []) ⟨hx, hb, hml, hown, hts⟩ (sx_X11_hasStation_e l G ad c I ⟨(by show 0 ≤ (I 0 0).toInt ∧ (I 0 0).toInt ≤ 719; exact hB.1), (by show 0 ≤ (I 0 8).toInt ∧ (I 0 8).toInt ≤ 10; exact hB.2)⟩ a1 hc h10 _) (cwV 1 hts gX11_pour_X11_hasStation rfl rfl rfl hy_X11_hasStation ⟨Nat.le_of_ble_eq_true rfl, Nat.le_of_ble_eq_true rfl⟩) (z_preV (i := 0) hK hW rfl rfl) rfl rfl hl.1 rfl (lv_room (Nat.le_of_ble_eq_true rfl)) dX11_pour_2 ⟨Nat.le_of_ble_eq_true rfl, Nat.le_of_ble_eq_true rfl⟩) (fun r u1 H locs hp hW hS => ?_)
  obtain ⟨e9, hp⟩ := hp
  rw [e9] at hW
  rcases hp with ⟨rfl, h1⟩ | ⟨rfl, h1⟩
  · have h2 := h1
    have r3 : 0 ≤ (I 0 8).toInt ∧ (I 0 8).toInt ≤ 10 := hB.2
    refine lv_if_eq (tgt := 29) hx hb dX11_pour_5 (by decide) (fun c4 => absurd c4 (by decide)) (fun c4 => ?_)
    refine lv_aload_n hx hb dX11_pour_8 rfl (lv_at hl 0 rfl) ?_
    refine z_get (T := TX11) (N := 13) (ci := 11) (i := 0) (v := .ref (ad 1)) hx hb hts zj_X11_pour_X11 hown hK hW rfl rfl 2 (by decide) (hts (.fieldLink RX11 16 "PetrolBoard" "holders" "LPetrolBoard$Holders;") (me_s (me_l (me_l (me_l (me_l (me_l (me_l (me_l (List.mem_of_getElem? (i := 0) rfl)))))))))) (fun _ h => h) rfl dX11_pour_9 ?_
    refine lv_iload_n hx hb dX11_pour_12 rfl (lv_at hl 2 rfl) ?_
    refine z_ci hW hS hA (va_runV (As := [.int a2]) (rest := []) ⟨hx, hb, hml, hown, hts⟩ (sx_X2_has_e l G ad c I ⟨(by show 0 ≤ (I 1 5).toInt ∧ (I 1 5).toInt ≤ 30; exact hH.1), (by show 0 ≤ (I 1 11).toInt ∧ (I 1 11).toInt ≤ 200; exact hH.2)⟩ a2 _) (cwV 1 hts gX11_pour_X2_has rfl rfl rfl hy_X2_has ⟨Nat.le_of_ble_eq_true rfl, Nat.le_of_ble_eq_true rfl⟩) (z_preV (i := 1) hK hW rfl rfl) rfl rfl hl.1 rfl (lv_room (Nat.le_of_ble_eq_true rfl)) dX11_pour_13 ⟨Nat.le_of_ble_eq_true rfl, Nat.le_of_ble_eq_true rfl⟩) (fun r u1 H locs hp hW hS => ?_)
    obtain ⟨e9, hp⟩ := hp
    rw [e9] at hW
    rcases hp with ⟨rfl, h5⟩ | ⟨rfl, h5⟩
    · have h6 := h5
      have r7 : 0 ≤ (I 1 5).toInt ∧ (I 1 5).toInt ≤ 30 := hH.1
      refine lv_if_eq (tgt := 29) hx hb dX11_pour_16 (by decide) (fun c8 => absurd c8 (by decide)) (fun c8 => ?_)
      refine lv_iload_n hx hb dX11_pour_19 rfl (lv_at hl 3 rfl) ?_
      refine lv_iconst (v := 0) hx hb dX11_pour_20 (by decide) ?_
      refine lv_ldc (v := 99999) hx hb hown (hts (.constant RX11 185 (99999)) (me_s (me_l (me_l (me_l (me_l (me_l (me_l (me_l (List.mem_of_getElem? (i := 1) rfl)))))))))) dX11_pour_21 ?_
      refine z_ci hW hS hA (va_runS (As := [.int a3, .int 0, .int 99999]) (rest := []) ⟨hx, hb, hml, hown, hts⟩ (sx_X11_within_e l G ad c I  a3 0 99999 _) (va_cwS 3 hts gX11_pour_X11_within rfl rfl rfl hy_X11_within.2 ⟨Nat.le_of_ble_eq_true rfl, Nat.le_of_ble_eq_true rfl⟩) (z_preS hK hW) rfl rfl hl.1 rfl (lv_room (Nat.le_of_ble_eq_true rfl)) dX11_pour_23 ⟨Nat.le_of_ble_eq_true rfl, Nat.le_of_ble_eq_true rfl⟩) (fun r u1 H locs hp hW hS => ?_)
      obtain ⟨e9, hp⟩ := hp
      rw [e9] at hW
      rcases hp with ⟨rfl, h9⟩ | ⟨rfl, h9⟩
      · have h11 := h9
        have z12 := z_l0
        have z13 := z_l99999
        refine lv_if_ne (tgt := 31) hx hb dX11_pour_26 (by decide) (fun c14 => ?_) (fun c14 => absurd c14 (by decide))
        refine lv_aload_n hx hb dX11_pour_31 rfl (lv_at hl 0 rfl) ?_
        refine z_get (T := TX11) (N := 13) (ci := 11) (i := 0) (v := .ref (ad 30)) hx hb hts zj_X11_pour_X11 hown hK hW rfl rfl 6 (by decide) (hts (.fieldLink RX11 44 "PetrolBoard" "pours" "LPetrolBoard$Pours;") (me_s (me_l (me_l (me_l (me_l (me_l (me_l (me_l (List.mem_of_getElem? (i := 2) rfl)))))))))) (fun _ h => h) rfl dX11_pour_32 ?_
        refine lv_iload_n hx hb dX11_pour_35 rfl (lv_at hl 1 rfl) ?_
        refine lv_iload_n hx hb dX11_pour_36 rfl (lv_at hl 2 rfl) ?_
        refine lv_iload_n hx hb dX11_pour_37 rfl (lv_at hl 3 rfl) ?_
        refine lv_aload_n hx hb dX11_pour_38 rfl (lv_at hl 0 rfl) ?_
        have r15 : 0 ≤ (I 0 0).toInt ∧ (I 0 0).toInt ≤ 719 := hB.1
        refine z_get (T := TX11) (N := 13) (ci := 11) (i := 0) (v := .int (I 0 0)) hx hb hts zj_X11_pour_X11 hown hK hW rfl rfl 0 (by decide) (hts (.fieldLink RX11 85 "PetrolBoard" "today" "I") (me_s (me_l (me_l (me_l (me_l (me_l (me_l (me_l (List.mem_of_getElem? (i := 3) rfl)))))))))) (fun _ h => h) rfl dX11_pour_39 ?_
        refine z_ci hW hS hA (va_runV (As := [.int a1, .int a2, .int a3, .int (I 0 0)]) (rest := []) ⟨hx, hb, hml, hown, hts⟩ (sx_X8_add_e l G ad c I (by show 0 ≤ (I 30 8).toInt ∧ (I 30 8).toInt ≤ 300; exact hP) a1 a2 a3 (I 0 0) _) (cwV 4 hts gX11_pour_X8_add rfl rfl rfl hy_X8_add ⟨Nat.le_of_ble_eq_true rfl, Nat.le_of_ble_eq_true rfl⟩) (z_preV (i := 30) hK hW rfl rfl) rfl rfl hl.1 rfl (lv_room (Nat.le_of_ble_eq_true rfl)) dX11_pour_42 ⟨Nat.le_of_ble_eq_true rfl, Nat.le_of_ble_eq_true rfl⟩) (fun r u1 H locs hp hW hS => ?_)
        obtain ⟨I16, e9, hI16P, fI16, hp⟩ := hp
        rw [e9] at hW
        have f17 := z_fr_sub (L := L_X11_pour_e) z_fr_0 fI16 (by decide)
        have k18 : 0 ≤ (I16 21 2).toInt ∧ (I16 21 2).toInt ≤ 12 := by rw [fI16 21 2 (by decide)]; exact (by show 0 ≤ (I 21 2).toInt ∧ (I 21 2).toInt ≤ 12; exact hO)
        have k19 : 0 ≤ (I16 1 5).toInt ∧ (I16 1 5).toInt ≤ 30 := by rw [fI16 1 5 (by decide)]; exact (by show 0 ≤ (I 1 5).toInt ∧ (I 1 5).toInt ≤ 30; exact hH.1)
        have k20 : 0 ≤ (I16 1 11).toInt ∧ (I16 1 11).toInt ≤ 200 := by rw [fI16 1 11 (by decide)]; exact (by show 0 ≤ (I 1 11).toInt ∧ (I 1 11).toInt ≤ 200; exact hH.2)
        have k21 : 0 ≤ (I16 0 0).toInt ∧ (I16 0 0).toInt ≤ 719 := by rw [fI16 0 0 (by decide)]; exact (by show 0 ≤ (I 0 0).toInt ∧ (I 0 0).toInt ≤ 719; exact hB.1)
        have k22 : 0 ≤ (I16 0 8).toInt ∧ (I16 0 8).toInt ≤ 10 := by rw [fI16 0 8 (by decide)]; exact (by show 0 ≤ (I 0 8).toInt ∧ (I 0 8).toInt ≤ 10; exact hB.2)
        have k23 : 0 ≤ (I16 26 4).toInt ∧ (I16 26 4).toInt ≤ 512 := by rw [fI16 26 4 (by decide)]; exact (by show 0 ≤ (I 26 4).toInt ∧ (I 26 4).toInt ≤ 512; exact hC)
        refine lv_topi (fun x24 ex24 => ?_)
        rw [← ex24] at hp
        rcases hp with ⟨h25, h26, h27⟩ | ⟨h25, h26, h27⟩
        · have h28 := h25
          refine lv_istore (lv' := [(4, .int x24), (0, .ref (ad 0)), (1, .int a1), (2, .int a2), (3, .int a3)]) hx hb dX11_pour_45 hl (by decide) rfl (fun ls hl => ?_)
          refine lv_aload_n hx hb dX11_pour_47 rfl (lv_at hl 1 rfl) ?_
          refine z_get (T := TX11) (N := 13) (ci := 11) (i := 0) (v := .ref (ad 30)) hx hb hts zj_X11_pour_X11 hown hK hW rfl rfl 6 (by decide) (hts (.fieldLink RX11 44 "PetrolBoard" "pours" "LPetrolBoard$Pours;") (me_s (me_l (me_l (me_l (me_l (me_l (me_l (me_l (List.mem_of_getElem? (i := 2) rfl)))))))))) (fun _ h => h) rfl dX11_pour_48 ?_
          refine lv_iload hx hb dX11_pour_51 (lv_at hl 0 rfl) ?_
          refine z_ci hW hS hA (va_runV (As := [.int x24]) (rest := []) ⟨hx, hb, hml, hown, hts⟩ (sx_X8_has l G ad c I16 (by show 0 ≤ (I16 30 8).toInt ∧ (I16 30 8).toInt ≤ 300; exact hI16P) x24 _) (cwV 1 hts gX11_pour_X8_has rfl rfl rfl hy_X8_has ⟨Nat.le_of_ble_eq_true rfl, Nat.le_of_ble_eq_true rfl⟩) (z_preV (i := 30) hK hW rfl rfl) rfl rfl hl.1 rfl (lv_room (Nat.le_of_ble_eq_true rfl)) dX11_pour_53 ⟨Nat.le_of_ble_eq_true rfl, Nat.le_of_ble_eq_true rfl⟩) (fun r u1 H locs hp hW hS => ?_)
          obtain ⟨e9, hp⟩ := hp
          rw [e9] at hW
          rcases hp with ⟨rfl, h29, h30⟩ | rfl
          · refine lv_if_eq (tgt := 129) hx hb dX11_pour_56 (by decide) (fun c31 => absurd c31 (by decide)) (fun c31 => ?_)
            refine lv_aload_n hx hb dX11_pour_59 rfl (lv_at hl 1 rfl) ?_
            refine z_get (T := TX11) (N := 13) (ci := 11) (i := 0) (v := .ref (ad 30)) hx hb hts zj_X11_pour_X11 hown hK hW rfl rfl 6 (by decide) (hts (.fieldLink RX11 44 "PetrolBoard" "pours" "LPetrolBoard$Pours;") (me_s (me_l (me_l (me_l (me_l (me_l (me_l (me_l (List.mem_of_getElem? (i := 2) rfl)))))))))) (fun _ h => h) rfl dX11_pour_60 ?_
            refine z_get (T := TX8) (N := 9) (ci := 8) (i := 30) (v := .ref (ad 35)) hx hb hts zj_X11_pour_X8 hown hK hW rfl rfl 4 (by decide) (hts (.fieldLink RX11 189 "PetrolBoard$Pours" "tenths" "[I") (me_s (me_l (me_l (me_l (me_l (me_l (me_l (me_l (List.mem_of_getElem? (i := 4) rfl)))))))))) (fun _ h => h) rfl dX11_pour_63 ?_
            refine lv_iload hx hb dX11_pour_66 (lv_at hl 0 rfl) ?_
            refine lv_aload_n hx hb dX11_pour_68 rfl (lv_at hl 1 rfl) ?_
            refine z_get (T := TX11) (N := 13) (ci := 11) (i := 0) (v := .ref (ad 21)) hx hb hts zj_X11_pour_X11 hown hK hW rfl rfl 4 (by decide) (hts (.fieldLink RX11 30 "PetrolBoard" "orderBook" "LPetrolBoard$OrderBook;") (me_s (me_l (me_l (me_l (me_l (me_l (me_l (me_l (List.mem_of_getElem? (i := 5) rfl)))))))))) (fun _ h => h) rfl dX11_pour_69 ?_
            refine lv_iconst (v := 0) hx hb dX11_pour_72 (by decide) ?_
            refine lv_aload_n hx hb dX11_pour_73 rfl (lv_at hl 1 rfl) ?_
            have r32 : 0 ≤ (I16 0 0).toInt ∧ (I16 0 0).toInt ≤ 719 := k21
            refine z_get (T := TX11) (N := 13) (ci := 11) (i := 0) (v := .int (I16 0 0)) hx hb hts zj_X11_pour_X11 hown hK hW rfl rfl 0 (by decide) (hts (.fieldLink RX11 85 "PetrolBoard" "today" "I") (me_s (me_l (me_l (me_l (me_l (me_l (me_l (me_l (List.mem_of_getElem? (i := 3) rfl)))))))))) (fun _ h => h) rfl dX11_pour_74 ?_
            refine lv_bipush (v := 30) hx hb dX11_pour_77 (by decide) ?_
            refine lv_idiv hx hb dX11_pour_79 (by decide) ?_
            refine lv_topi (fun x33 ex33 => ?_)
            have tx33 := z_tdiv ex33 rfl z_l30 (by decide)
            refine lv_aload_n hx hb dX11_pour_80 rfl (lv_at hl 1 rfl) ?_
            refine z_get (T := TX11) (N := 13) (ci := 11) (i := 0) (v := .int (I16 0 0)) hx hb hts zj_X11_pour_X11 hown hK hW rfl rfl 0 (by decide) (hts (.fieldLink RX11 85 "PetrolBoard" "today" "I") (me_s (me_l (me_l (me_l (me_l (me_l (me_l (me_l (List.mem_of_getElem? (i := 3) rfl)))))))))) (fun _ h => h) rfl dX11_pour_81 ?_
            refine z_ci hW hS hA (va_runV (As := [.int 0, .int x33, .int (I16 0 0)]) (rest := [.int x24, .ref (ad 35)]) ⟨hx, hb, hml, hown, hts⟩ (sx_X6_amount l G ad c I16 (by show 0 ≤ (I16 21 2).toInt ∧ (I16 21 2).toInt ≤ 12; exact k18) 0 x33 (I16 0 0) hc _) (cwV 3 hts gX11_pour_X6_amount rfl rfl rfl hy_X6_amount ⟨Nat.le_of_ble_eq_true rfl, Nat.le_of_ble_eq_true rfl⟩) (z_preVS (i := 21) hK hW hS hA hSt rfl rfl) rfl rfl hl.1 rfl (lv_room (Nat.le_of_ble_eq_true rfl)) dX11_pour_84 ⟨Nat.le_of_ble_eq_true rfl, Nat.le_of_ble_eq_true rfl⟩) (fun r u1 H locs hp hW hS => ?_)
            rw [hp] at hW
            refine lv_topi (fun x34 ex34 => ?_)
            refine z_iast (i := 35) hx hb hK hW hS rfl (z_ix rfl (by omega) (by omega)) dX11_pour_87 (fun H locs hz1 hW hS => ?_)
            obtain ⟨I35, eI35⟩ : ∃ K : z_I, K = z_up I16 35 x24.toNatClampNeg x34 := ⟨_, rfl⟩
            rw [← eI35] at hW
            have f36 := z_fr_a f17 (show z_wa L_X11_pour_e 35 = true by decide) eI35
            refine lv_aload_n hx hb dX11_pour_88 rfl (lv_at hl 1 rfl) ?_
            refine z_get (T := TX11) (N := 13) (ci := 11) (i := 0) (v := .ref (ad 30)) hx hb hts zj_X11_pour_X11 hown hK hW rfl rfl 6 (by decide) (hts (.fieldLink RX11 44 "PetrolBoard" "pours" "LPetrolBoard$Pours;") (me_s (me_l (me_l (me_l (me_l (me_l (me_l (me_l (List.mem_of_getElem? (i := 2) rfl)))))))))) (fun _ h => h) rfl dX11_pour_89 ?_
            refine z_get (T := TX8) (N := 9) (ci := 8) (i := 30) (v := .ref (ad 37)) hx hb hts zj_X11_pour_X8 hown hK hW rfl rfl 6 (by decide) (hts (.fieldLink RX11 192 "PetrolBoard$Pours" "dyed" "[I") (me_s (me_l (me_l (me_l (me_l (me_l (me_l (me_l (List.mem_of_getElem? (i := 6) rfl)))))))))) (fun _ h => h) rfl dX11_pour_92 ?_
            refine lv_iload hx hb dX11_pour_95 (lv_at hl 0 rfl) ?_
            refine lv_aload_n hx hb dX11_pour_97 rfl (lv_at hl 1 rfl) ?_
            refine lv_iload_n hx hb dX11_pour_98 rfl (lv_at hl 3 rfl) ?_
            refine z_ci hW hS hA (va_runV (As := [.int a2]) (rest := [.int x24, .ref (ad 37)]) ⟨hx, hb, hml, hown, hts⟩ (sx_X11_isFarmerNow l G ad c I35 ⟨(by show 0 ≤ (I35 1 5).toInt ∧ (I35 1 5).toInt ≤ 30; rw [eI35, z_up_n (by decide)]; exact k19), (by show 0 ≤ (I35 1 11).toInt ∧ (I35 1 11).toInt ≤ 200; rw [eI35, z_up_n (by decide)]; exact k20)⟩ ⟨(by show 0 ≤ (I35 0 0).toInt ∧ (I35 0 0).toInt ≤ 719; rw [eI35, z_up_n (by decide)]; exact k21), (by show 0 ≤ (I35 0 8).toInt ∧ (I35 0 8).toInt ≤ 10; rw [eI35, z_up_n (by decide)]; exact k22)⟩ a2 hc h10 _) (cwV 1 hts gX11_pour_X11_isFarmerNow rfl rfl rfl hy_X11_isFarmerNow ⟨Nat.le_of_ble_eq_true rfl, Nat.le_of_ble_eq_true rfl⟩) (z_preV (i := 0) hK hW rfl rfl) rfl rfl hl.1 rfl (lv_room (Nat.le_of_ble_eq_true rfl)) dX11_pour_99 ⟨Nat.le_of_ble_eq_true rfl, Nat.le_of_ble_eq_true rfl⟩) (fun r u1 H locs hp hW hS => ?_)
            obtain ⟨e9, hp⟩ := hp
            rw [e9] at hW
            rcases hp with rfl | rfl
            · refine lv_if_eq (tgt := 109) hx hb dX11_pour_102 (by decide) (fun c37 => absurd c37 (by decide)) (fun c37 => ?_)
              refine lv_iconst (v := 1) hx hb dX11_pour_105 (by decide) ?_
              refine lv_goto (tgt := 110) hx hb dX11_pour_106 (by decide) ?_
              refine z_iast (i := 37) hx hb hK hW hS rfl (z_ix rfl (by omega) (by omega)) dX11_pour_110 (fun H locs hz1 hW hS => ?_)
              obtain ⟨I38, eI38⟩ : ∃ K : z_I, K = z_up I35 37 x24.toNatClampNeg 1 := ⟨_, rfl⟩
              rw [← eI38] at hW
              have f39 := z_fr_a f36 (show z_wa L_X11_pour_e 37 = true by decide) eI38
              refine lv_aload_n hx hb dX11_pour_111 rfl (lv_at hl 1 rfl) ?_
              refine z_get (T := TX11) (N := 13) (ci := 11) (i := 0) (v := .ref (ad 30)) hx hb hts zj_X11_pour_X11 hown hK hW rfl rfl 6 (by decide) (hts (.fieldLink RX11 44 "PetrolBoard" "pours" "LPetrolBoard$Pours;") (me_s (me_l (me_l (me_l (me_l (me_l (me_l (me_l (List.mem_of_getElem? (i := 2) rfl)))))))))) (fun _ h => h) rfl dX11_pour_112 ?_
              refine z_get (T := TX8) (N := 9) (ci := 8) (i := 30) (v := .ref (ad 38)) hx hb hts zj_X11_pour_X8 hown hK hW rfl rfl 7 (by decide) (hts (.fieldLink RX11 198 "PetrolBoard$Pours" "ownerThen" "[I") (me_s (me_l (me_l (me_l (me_l (me_l (me_l (me_l (List.mem_of_getElem? (i := 7) rfl)))))))))) (fun _ h => h) rfl dX11_pour_115 ?_
              refine lv_iload hx hb dX11_pour_118 (lv_at hl 0 rfl) ?_
              refine lv_aload_n hx hb dX11_pour_120 rfl (lv_at hl 1 rfl) ?_
              refine z_get (T := TX11) (N := 13) (ci := 11) (i := 0) (v := .ref (ad 26)) hx hb hts zj_X11_pour_X11 hown hK hW rfl rfl 5 (by decide) (hts (.fieldLink RX11 37 "PetrolBoard" "coupons" "LPetrolBoard$Coupons;") (me_s (me_l (me_l (me_l (me_l (me_l (me_l (me_l (List.mem_of_getElem? (i := 8) rfl)))))))))) (fun _ h => h) rfl dX11_pour_121 ?_
              refine lv_iload_n hx hb dX11_pour_124 rfl (lv_at hl 4 rfl) ?_
              refine z_ci hW hS hA (va_runV (As := [.int a3]) (rest := [.int x24, .ref (ad 38)]) ⟨hx, hb, hml, hown, hts⟩ (sx_X0_ownerOf l G ad c I38 (by show 0 ≤ (I38 26 4).toInt ∧ (I38 26 4).toInt ≤ 512; rw [eI38, z_up_n (by decide), eI35, z_up_n (by decide)]; exact k23) a3 _) (cwV 1 hts gX11_pour_X0_ownerOf rfl rfl rfl hy_X0_ownerOf ⟨Nat.le_of_ble_eq_true rfl, Nat.le_of_ble_eq_true rfl⟩) (z_preV (i := 26) hK hW rfl rfl) rfl rfl hl.1 rfl (lv_room (Nat.le_of_ble_eq_true rfl)) dX11_pour_125 ⟨Nat.le_of_ble_eq_true rfl, Nat.le_of_ble_eq_true rfl⟩) (fun r u1 H locs hp hW hS => ?_)
              rw [hp] at hW
              refine lv_topi (fun x40 ex40 => ?_)
              refine z_iast (i := 38) hx hb hK hW hS rfl (z_ix rfl (by omega) (by omega)) dX11_pour_128 (fun H locs hz1 hW hS => ?_)
              obtain ⟨I41, eI41⟩ : ∃ K : z_I, K = z_up I38 38 x24.toNatClampNeg x40 := ⟨_, rfl⟩
              rw [← eI41] at hW
              have f42 := z_fr_a f39 (show z_wa L_X11_pour_e 38 = true by decide) eI41
              refine lv_iload hx hb dX11_pour_129 (lv_at hl 0 rfl) ?_
              exact z_iret hx hb hr hK hS (Nat.le_of_ble_eq_true rfl) (Nat.le_of_ble_eq_true rfl) hlocks dX11_pour_131 (shC c, ad, I41, JX, PC c ad) hW ⟨I41, rfl, (by show 0 ≤ (I41 30 8).toInt ∧ (I41 30 8).toInt ≤ 300; rw [eI41, z_up_n (by decide), eI38, z_up_n (by decide), eI35, z_up_n (by decide)]; exact hI16P), (by show 0 ≤ (I41 21 2).toInt ∧ (I41 21 2).toInt ≤ 12; rw [eI41, z_up_n (by decide), eI38, z_up_n (by decide), eI35, z_up_n (by decide)]; exact k18), ⟨(by show 0 ≤ (I41 1 5).toInt ∧ (I41 1 5).toInt ≤ 30; rw [eI41, z_up_n (by decide), eI38, z_up_n (by decide), eI35, z_up_n (by decide)]; exact k19), (by show 0 ≤ (I41 1 11).toInt ∧ (I41 1 11).toInt ≤ 200; rw [eI41, z_up_n (by decide), eI38, z_up_n (by decide), eI35, z_up_n (by decide)]; exact k20)⟩, ⟨(by show 0 ≤ (I41 0 0).toInt ∧ (I41 0 0).toInt ≤ 719; rw [eI41, z_up_n (by decide), eI38, z_up_n (by decide), eI35, z_up_n (by decide)]; exact k21), (by show 0 ≤ (I41 0 8).toInt ∧ (I41 0 8).toInt ≤ 10; rw [eI41, z_up_n (by decide), eI38, z_up_n (by decide), eI35, z_up_n (by decide)]; exact k22)⟩, (by show 0 ≤ (I41 26 4).toInt ∧ (I41 26 4).toInt ≤ 512; rw [eI41, z_up_n (by decide), eI38, z_up_n (by decide), eI35, z_up_n (by decide)]; exact k23), f42, (Or.inl ⟨by omega, by omega, (by have q9 : (I41 30 8) = (I16 30 8) := (by rw [eI41, z_up_n (by decide), eI38, z_up_n (by decide), eI35, z_up_n (by decide)]); show (I41 30 8).toInt = (I 30 8).toInt + 1; rw [q9]; first | done | omega)⟩)⟩
            · refine lv_if_eq (tgt := 109) hx hb dX11_pour_102 (by decide) (fun c43 => ?_) (fun c43 => absurd (by decide) c43)
              refine lv_iconst (v := 0) hx hb dX11_pour_109 (by decide) ?_
              refine z_iast (i := 37) hx hb hK hW hS rfl (z_ix rfl (by omega) (by omega)) dX11_pour_110 (fun H locs hz1 hW hS => ?_)
              obtain ⟨I44, eI44⟩ : ∃ K : z_I, K = z_up I35 37 x24.toNatClampNeg 0 := ⟨_, rfl⟩
              rw [← eI44] at hW
              have f45 := z_fr_a f36 (show z_wa L_X11_pour_e 37 = true by decide) eI44
              refine lv_aload_n hx hb dX11_pour_111 rfl (lv_at hl 1 rfl) ?_
              refine z_get (T := TX11) (N := 13) (ci := 11) (i := 0) (v := .ref (ad 30)) hx hb hts zj_X11_pour_X11 hown hK hW rfl rfl 6 (by decide) (hts (.fieldLink RX11 44 "PetrolBoard" "pours" "LPetrolBoard$Pours;") (me_s (me_l (me_l (me_l (me_l (me_l (me_l (me_l (List.mem_of_getElem? (i := 2) rfl)))))))))) (fun _ h => h) rfl dX11_pour_112 ?_
              refine z_get (T := TX8) (N := 9) (ci := 8) (i := 30) (v := .ref (ad 38)) hx hb hts zj_X11_pour_X8 hown hK hW rfl rfl 7 (by decide) (hts (.fieldLink RX11 198 "PetrolBoard$Pours" "ownerThen" "[I") (me_s (me_l (me_l (me_l (me_l (me_l (me_l (me_l (List.mem_of_getElem? (i := 7) rfl)))))))))) (fun _ h => h) rfl dX11_pour_115 ?_
              refine lv_iload hx hb dX11_pour_118 (lv_at hl 0 rfl) ?_
              refine lv_aload_n hx hb dX11_pour_120 rfl (lv_at hl 1 rfl) ?_
              refine z_get (T := TX11) (N := 13) (ci := 11) (i := 0) (v := .ref (ad 26)) hx hb hts zj_X11_pour_X11 hown hK hW rfl rfl 5 (by decide) (hts (.fieldLink RX11 37 "PetrolBoard" "coupons" "LPetrolBoard$Coupons;") (me_s (me_l (me_l (me_l (me_l (me_l (me_l (me_l (List.mem_of_getElem? (i := 8) rfl)))))))))) (fun _ h => h) rfl dX11_pour_121 ?_
              refine lv_iload_n hx hb dX11_pour_124 rfl (lv_at hl 4 rfl) ?_
              refine z_ci hW hS hA (va_runV (As := [.int a3]) (rest := [.int x24, .ref (ad 38)]) ⟨hx, hb, hml, hown, hts⟩ (sx_X0_ownerOf l G ad c I44 (by show 0 ≤ (I44 26 4).toInt ∧ (I44 26 4).toInt ≤ 512; rw [eI44, z_up_n (by decide), eI35, z_up_n (by decide)]; exact k23) a3 _) (cwV 1 hts gX11_pour_X0_ownerOf rfl rfl rfl hy_X0_ownerOf ⟨Nat.le_of_ble_eq_true rfl, Nat.le_of_ble_eq_true rfl⟩) (z_preV (i := 26) hK hW rfl rfl) rfl rfl hl.1 rfl (lv_room (Nat.le_of_ble_eq_true rfl)) dX11_pour_125 ⟨Nat.le_of_ble_eq_true rfl, Nat.le_of_ble_eq_true rfl⟩) (fun r u1 H locs hp hW hS => ?_)
              rw [hp] at hW
              refine lv_topi (fun x46 ex46 => ?_)
              refine z_iast (i := 38) hx hb hK hW hS rfl (z_ix rfl (by omega) (by omega)) dX11_pour_128 (fun H locs hz1 hW hS => ?_)
              obtain ⟨I47, eI47⟩ : ∃ K : z_I, K = z_up I44 38 x24.toNatClampNeg x46 := ⟨_, rfl⟩
              rw [← eI47] at hW
              have f48 := z_fr_a f45 (show z_wa L_X11_pour_e 38 = true by decide) eI47
              refine lv_iload hx hb dX11_pour_129 (lv_at hl 0 rfl) ?_
              exact z_iret hx hb hr hK hS (Nat.le_of_ble_eq_true rfl) (Nat.le_of_ble_eq_true rfl) hlocks dX11_pour_131 (shC c, ad, I47, JX, PC c ad) hW ⟨I47, rfl, (by show 0 ≤ (I47 30 8).toInt ∧ (I47 30 8).toInt ≤ 300; rw [eI47, z_up_n (by decide), eI44, z_up_n (by decide), eI35, z_up_n (by decide)]; exact hI16P), (by show 0 ≤ (I47 21 2).toInt ∧ (I47 21 2).toInt ≤ 12; rw [eI47, z_up_n (by decide), eI44, z_up_n (by decide), eI35, z_up_n (by decide)]; exact k18), ⟨(by show 0 ≤ (I47 1 5).toInt ∧ (I47 1 5).toInt ≤ 30; rw [eI47, z_up_n (by decide), eI44, z_up_n (by decide), eI35, z_up_n (by decide)]; exact k19), (by show 0 ≤ (I47 1 11).toInt ∧ (I47 1 11).toInt ≤ 200; rw [eI47, z_up_n (by decide), eI44, z_up_n (by decide), eI35, z_up_n (by decide)]; exact k20)⟩, ⟨(by show 0 ≤ (I47 0 0).toInt ∧ (I47 0 0).toInt ≤ 719; rw [eI47, z_up_n (by decide), eI44, z_up_n (by decide), eI35, z_up_n (by decide)]; exact k21), (by show 0 ≤ (I47 0 8).toInt ∧ (I47 0 8).toInt ≤ 10; rw [eI47, z_up_n (by decide), eI44, z_up_n (by decide), eI35, z_up_n (by decide)]; exact k22)⟩, (by show 0 ≤ (I47 26 4).toInt ∧ (I47 26 4).toInt ≤ 512; rw [eI47, z_up_n (by decide), eI44, z_up_n (by decide), eI35, z_up_n (by decide)]; exact k23), f48, (Or.inl ⟨by omega, by omega, (by have q9 : (I47 30 8) = (I16 30 8) := (by rw [eI47, z_up_n (by decide), eI44, z_up_n (by decide), eI35, z_up_n (by decide)]); show (I47 30 8).toInt = (I 30 8).toInt + 1; rw [q9]; first | done | omega)⟩)⟩
          · refine lv_if_eq (tgt := 129) hx hb dX11_pour_56 (by decide) (fun c49 => ?_) (fun c49 => absurd (by decide) c49)
            refine lv_iload hx hb dX11_pour_129 (lv_at hl 0 rfl) ?_
            exact z_iret hx hb hr hK hS (Nat.le_of_ble_eq_true rfl) (Nat.le_of_ble_eq_true rfl) hlocks dX11_pour_131 (shC c, ad, I16, JX, PC c ad) hW ⟨I16, rfl, (by show 0 ≤ (I16 30 8).toInt ∧ (I16 30 8).toInt ≤ 300; exact hI16P), (by show 0 ≤ (I16 21 2).toInt ∧ (I16 21 2).toInt ≤ 12; exact k18), ⟨(by show 0 ≤ (I16 1 5).toInt ∧ (I16 1 5).toInt ≤ 30; exact k19), (by show 0 ≤ (I16 1 11).toInt ∧ (I16 1 11).toInt ≤ 200; exact k20)⟩, ⟨(by show 0 ≤ (I16 0 0).toInt ∧ (I16 0 0).toInt ≤ 719; exact k21), (by show 0 ≤ (I16 0 8).toInt ∧ (I16 0 8).toInt ≤ 10; exact k22)⟩, (by show 0 ≤ (I16 26 4).toInt ∧ (I16 26 4).toInt ≤ 512; exact k23), f17, (Or.inl ⟨by omega, by omega, (by show (I16 30 8).toInt = (I 30 8).toInt + 1; omega)⟩)⟩
        · have h50 := h25
          refine lv_istore (lv' := [(4, .int x24), (0, .ref (ad 0)), (1, .int a1), (2, .int a2), (3, .int a3)]) hx hb dX11_pour_45 hl (by decide) rfl (fun ls hl => ?_)
          refine lv_aload_n hx hb dX11_pour_47 rfl (lv_at hl 1 rfl) ?_
          refine z_get (T := TX11) (N := 13) (ci := 11) (i := 0) (v := .ref (ad 30)) hx hb hts zj_X11_pour_X11 hown hK hW rfl rfl 6 (by decide) (hts (.fieldLink RX11 44 "PetrolBoard" "pours" "LPetrolBoard$Pours;") (me_s (me_l (me_l (me_l (me_l (me_l (me_l (me_l (List.mem_of_getElem? (i := 2) rfl)))))))))) (fun _ h => h) rfl dX11_pour_48 ?_
          refine lv_iload hx hb dX11_pour_51 (lv_at hl 0 rfl) ?_
          refine z_ci hW hS hA (va_runV (As := [.int x24]) (rest := []) ⟨hx, hb, hml, hown, hts⟩ (sx_X8_has l G ad c I16 (by show 0 ≤ (I16 30 8).toInt ∧ (I16 30 8).toInt ≤ 300; exact hI16P) x24 _) (cwV 1 hts gX11_pour_X8_has rfl rfl rfl hy_X8_has ⟨Nat.le_of_ble_eq_true rfl, Nat.le_of_ble_eq_true rfl⟩) (z_preV (i := 30) hK hW rfl rfl) rfl rfl hl.1 rfl (lv_room (Nat.le_of_ble_eq_true rfl)) dX11_pour_53 ⟨Nat.le_of_ble_eq_true rfl, Nat.le_of_ble_eq_true rfl⟩) (fun r u1 H locs hp hW hS => ?_)
          obtain ⟨e9, hp⟩ := hp
          rw [e9] at hW
          rcases hp with ⟨rfl, h51, h52⟩ | rfl
          · refine lv_if_eq (tgt := 129) hx hb dX11_pour_56 (by decide) (fun c53 => absurd c53 (by decide)) (fun c53 => ?_)
            refine lv_aload_n hx hb dX11_pour_59 rfl (lv_at hl 1 rfl) ?_
            refine z_get (T := TX11) (N := 13) (ci := 11) (i := 0) (v := .ref (ad 30)) hx hb hts zj_X11_pour_X11 hown hK hW rfl rfl 6 (by decide) (hts (.fieldLink RX11 44 "PetrolBoard" "pours" "LPetrolBoard$Pours;") (me_s (me_l (me_l (me_l (me_l (me_l (me_l (me_l (List.mem_of_getElem? (i := 2) rfl)))))))))) (fun _ h => h) rfl dX11_pour_60 ?_
            refine z_get (T := TX8) (N := 9) (ci := 8) (i := 30) (v := .ref (ad 35)) hx hb hts zj_X11_pour_X8 hown hK hW rfl rfl 4 (by decide) (hts (.fieldLink RX11 189 "PetrolBoard$Pours" "tenths" "[I") (me_s (me_l (me_l (me_l (me_l (me_l (me_l (me_l (List.mem_of_getElem? (i := 4) rfl)))))))))) (fun _ h => h) rfl dX11_pour_63 ?_
            refine lv_iload hx hb dX11_pour_66 (lv_at hl 0 rfl) ?_
            refine lv_aload_n hx hb dX11_pour_68 rfl (lv_at hl 1 rfl) ?_
            refine z_get (T := TX11) (N := 13) (ci := 11) (i := 0) (v := .ref (ad 21)) hx hb hts zj_X11_pour_X11 hown hK hW rfl rfl 4 (by decide) (hts (.fieldLink RX11 30 "PetrolBoard" "orderBook" "LPetrolBoard$OrderBook;") (me_s (me_l (me_l (me_l (me_l (me_l (me_l (me_l (List.mem_of_getElem? (i := 5) rfl)))))))))) (fun _ h => h) rfl dX11_pour_69 ?_
            refine lv_iconst (v := 0) hx hb dX11_pour_72 (by decide) ?_
            refine lv_aload_n hx hb dX11_pour_73 rfl (lv_at hl 1 rfl) ?_
            have r54 : 0 ≤ (I16 0 0).toInt ∧ (I16 0 0).toInt ≤ 719 := k21
            refine z_get (T := TX11) (N := 13) (ci := 11) (i := 0) (v := .int (I16 0 0)) hx hb hts zj_X11_pour_X11 hown hK hW rfl rfl 0 (by decide) (hts (.fieldLink RX11 85 "PetrolBoard" "today" "I") (me_s (me_l (me_l (me_l (me_l (me_l (me_l (me_l (List.mem_of_getElem? (i := 3) rfl)))))))))) (fun _ h => h) rfl dX11_pour_74 ?_
            refine lv_bipush (v := 30) hx hb dX11_pour_77 (by decide) ?_
            refine lv_idiv hx hb dX11_pour_79 (by decide) ?_
            refine lv_topi (fun x55 ex55 => ?_)
            have tx55 := z_tdiv ex55 rfl z_l30 (by decide)
            refine lv_aload_n hx hb dX11_pour_80 rfl (lv_at hl 1 rfl) ?_
            refine z_get (T := TX11) (N := 13) (ci := 11) (i := 0) (v := .int (I16 0 0)) hx hb hts zj_X11_pour_X11 hown hK hW rfl rfl 0 (by decide) (hts (.fieldLink RX11 85 "PetrolBoard" "today" "I") (me_s (me_l (me_l (me_l (me_l (me_l (me_l (me_l (List.mem_of_getElem? (i := 3) rfl)))))))))) (fun _ h => h) rfl dX11_pour_81 ?_
            refine z_ci hW hS hA (va_runV (As := [.int 0, .int x55, .int (I16 0 0)]) (rest := [.int x24, .ref (ad 35)]) ⟨hx, hb, hml, hown, hts⟩ (sx_X6_amount l G ad c I16 (by show 0 ≤ (I16 21 2).toInt ∧ (I16 21 2).toInt ≤ 12; exact k18) 0 x55 (I16 0 0) hc _) (cwV 3 hts gX11_pour_X6_amount rfl rfl rfl hy_X6_amount ⟨Nat.le_of_ble_eq_true rfl, Nat.le_of_ble_eq_true rfl⟩) (z_preVS (i := 21) hK hW hS hA hSt rfl rfl) rfl rfl hl.1 rfl (lv_room (Nat.le_of_ble_eq_true rfl)) dX11_pour_84 ⟨Nat.le_of_ble_eq_true rfl, Nat.le_of_ble_eq_true rfl⟩) (fun r u1 H locs hp hW hS => ?_)
            rw [hp] at hW
            refine lv_topi (fun x56 ex56 => ?_)
            refine z_iast (i := 35) hx hb hK hW hS rfl (z_ix rfl (by omega) (by omega)) dX11_pour_87 (fun H locs hz1 hW hS => ?_)
            obtain ⟨I57, eI57⟩ : ∃ K : z_I, K = z_up I16 35 x24.toNatClampNeg x56 := ⟨_, rfl⟩
            rw [← eI57] at hW
            have f58 := z_fr_a f17 (show z_wa L_X11_pour_e 35 = true by decide) eI57
            refine lv_aload_n hx hb dX11_pour_88 rfl (lv_at hl 1 rfl) ?_
            refine z_get (T := TX11) (N := 13) (ci := 11) (i := 0) (v := .ref (ad 30)) hx hb hts zj_X11_pour_X11 hown hK hW rfl rfl 6 (by decide) (hts (.fieldLink RX11 44 "PetrolBoard" "pours" "LPetrolBoard$Pours;") (me_s (me_l (me_l (me_l (me_l (me_l (me_l (me_l (List.mem_of_getElem? (i := 2) rfl)))))))))) (fun _ h => h) rfl dX11_pour_89 ?_
            refine z_get (T := TX8) (N := 9) (ci := 8) (i := 30) (v := .ref (ad 37)) hx hb hts zj_X11_pour_X8 hown hK hW rfl rfl 6 (by decide) (hts (.fieldLink RX11 192 "PetrolBoard$Pours" "dyed" "[I") (me_s (me_l (me_l (me_l (me_l (me_l (me_l (me_l (List.mem_of_getElem? (i := 6) rfl)))))))))) (fun _ h => h) rfl dX11_pour_92 ?_
            refine lv_iload hx hb dX11_pour_95 (lv_at hl 0 rfl) ?_
            refine lv_aload_n hx hb dX11_pour_97 rfl (lv_at hl 1 rfl) ?_
            refine lv_iload_n hx hb dX11_pour_98 rfl (lv_at hl 3 rfl) ?_
            refine z_ci hW hS hA (va_runV (As := [.int a2]) (rest := [.int x24, .ref (ad 37)]) ⟨hx, hb, hml, hown, hts⟩ (sx_X11_isFarmerNow l G ad c I57 ⟨(by show 0 ≤ (I57 1 5).toInt ∧ (I57 1 5).toInt ≤ 30; rw [eI57, z_up_n (by decide)]; exact k19), (by show 0 ≤ (I57 1 11).toInt ∧ (I57 1 11).toInt ≤ 200; rw [eI57, z_up_n (by decide)]; exact k20)⟩ ⟨(by show 0 ≤ (I57 0 0).toInt ∧ (I57 0 0).toInt ≤ 719; rw [eI57, z_up_n (by decide)]; exact k21), (by show 0 ≤ (I57 0 8).toInt ∧ (I57 0 8).toInt ≤ 10; rw [eI57, z_up_n (by decide)]; exact k22)⟩ a2 hc h10 _) (cwV 1 hts gX11_pour_X11_isFarmerNow rfl rfl rfl hy_X11_isFarmerNow ⟨Nat.le_of_ble_eq_true rfl, Nat.le_of_ble_eq_true rfl⟩) (z_preV (i := 0) hK hW rfl rfl) rfl rfl hl.1 rfl (lv_room (Nat.le_of_ble_eq_true rfl)) dX11_pour_99 ⟨Nat.le_of_ble_eq_true rfl, Nat.le_of_ble_eq_true rfl⟩) (fun r u1 H locs hp hW hS => ?_)
            obtain ⟨e9, hp⟩ := hp
            rw [e9] at hW
            rcases hp with rfl | rfl
            · refine lv_if_eq (tgt := 109) hx hb dX11_pour_102 (by decide) (fun c59 => absurd c59 (by decide)) (fun c59 => ?_)
              refine lv_iconst (v := 1) hx hb dX11_pour_105 (by decide) ?_
              refine lv_goto (tgt := 110) hx hb dX11_pour_106 (by decide) ?_
              refine z_iast (i := 37) hx hb hK hW hS rfl (z_ix rfl (by omega) (by omega)) dX11_pour_110 (fun H locs hz1 hW hS => ?_)
              obtain ⟨I60, eI60⟩ : ∃ K : z_I, K = z_up I57 37 x24.toNatClampNeg 1 := ⟨_, rfl⟩
              rw [← eI60] at hW
              have f61 := z_fr_a f58 (show z_wa L_X11_pour_e 37 = true by decide) eI60
              refine lv_aload_n hx hb dX11_pour_111 rfl (lv_at hl 1 rfl) ?_
              refine z_get (T := TX11) (N := 13) (ci := 11) (i := 0) (v := .ref (ad 30)) hx hb hts zj_X11_pour_X11 hown hK hW rfl rfl 6 (by decide) (hts (.fieldLink RX11 44 "PetrolBoard" "pours" "LPetrolBoard$Pours;") (me_s (me_l (me_l (me_l (me_l (me_l (me_l (me_l (List.mem_of_getElem? (i := 2) rfl)))))))))) (fun _ h => h) rfl dX11_pour_112 ?_
              refine z_get (T := TX8) (N := 9) (ci := 8) (i := 30) (v := .ref (ad 38)) hx hb hts zj_X11_pour_X8 hown hK hW rfl rfl 7 (by decide) (hts (.fieldLink RX11 198 "PetrolBoard$Pours" "ownerThen" "[I") (me_s (me_l (me_l (me_l (me_l (me_l (me_l (me_l (List.mem_of_getElem? (i := 7) rfl)))))))))) (fun _ h => h) rfl dX11_pour_115 ?_
              refine lv_iload hx hb dX11_pour_118 (lv_at hl 0 rfl) ?_
              refine lv_aload_n hx hb dX11_pour_120 rfl (lv_at hl 1 rfl) ?_
              refine z_get (T := TX11) (N := 13) (ci := 11) (i := 0) (v := .ref (ad 26)) hx hb hts zj_X11_pour_X11 hown hK hW rfl rfl 5 (by decide) (hts (.fieldLink RX11 37 "PetrolBoard" "coupons" "LPetrolBoard$Coupons;") (me_s (me_l (me_l (me_l (me_l (me_l (me_l (me_l (List.mem_of_getElem? (i := 8) rfl)))))))))) (fun _ h => h) rfl dX11_pour_121 ?_
              refine lv_iload_n hx hb dX11_pour_124 rfl (lv_at hl 4 rfl) ?_
              refine z_ci hW hS hA (va_runV (As := [.int a3]) (rest := [.int x24, .ref (ad 38)]) ⟨hx, hb, hml, hown, hts⟩ (sx_X0_ownerOf l G ad c I60 (by show 0 ≤ (I60 26 4).toInt ∧ (I60 26 4).toInt ≤ 512; rw [eI60, z_up_n (by decide), eI57, z_up_n (by decide)]; exact k23) a3 _) (cwV 1 hts gX11_pour_X0_ownerOf rfl rfl rfl hy_X0_ownerOf ⟨Nat.le_of_ble_eq_true rfl, Nat.le_of_ble_eq_true rfl⟩) (z_preV (i := 26) hK hW rfl rfl) rfl rfl hl.1 rfl (lv_room (Nat.le_of_ble_eq_true rfl)) dX11_pour_125 ⟨Nat.le_of_ble_eq_true rfl, Nat.le_of_ble_eq_true rfl⟩) (fun r u1 H locs hp hW hS => ?_)
              rw [hp] at hW
              refine lv_topi (fun x62 ex62 => ?_)
              refine z_iast (i := 38) hx hb hK hW hS rfl (z_ix rfl (by omega) (by omega)) dX11_pour_128 (fun H locs hz1 hW hS => ?_)
              obtain ⟨I63, eI63⟩ : ∃ K : z_I, K = z_up I60 38 x24.toNatClampNeg x62 := ⟨_, rfl⟩
              rw [← eI63] at hW
              have f64 := z_fr_a f61 (show z_wa L_X11_pour_e 38 = true by decide) eI63
              refine lv_iload hx hb dX11_pour_129 (lv_at hl 0 rfl) ?_
              exact z_iret hx hb hr hK hS (Nat.le_of_ble_eq_true rfl) (Nat.le_of_ble_eq_true rfl) hlocks dX11_pour_131 (shC c, ad, I63, JX, PC c ad) hW ⟨I63, rfl, (by show 0 ≤ (I63 30 8).toInt ∧ (I63 30 8).toInt ≤ 300; rw [eI63, z_up_n (by decide), eI60, z_up_n (by decide), eI57, z_up_n (by decide)]; exact hI16P), (by show 0 ≤ (I63 21 2).toInt ∧ (I63 21 2).toInt ≤ 12; rw [eI63, z_up_n (by decide), eI60, z_up_n (by decide), eI57, z_up_n (by decide)]; exact k18), ⟨(by show 0 ≤ (I63 1 5).toInt ∧ (I63 1 5).toInt ≤ 30; rw [eI63, z_up_n (by decide), eI60, z_up_n (by decide), eI57, z_up_n (by decide)]; exact k19), (by show 0 ≤ (I63 1 11).toInt ∧ (I63 1 11).toInt ≤ 200; rw [eI63, z_up_n (by decide), eI60, z_up_n (by decide), eI57, z_up_n (by decide)]; exact k20)⟩, ⟨(by show 0 ≤ (I63 0 0).toInt ∧ (I63 0 0).toInt ≤ 719; rw [eI63, z_up_n (by decide), eI60, z_up_n (by decide), eI57, z_up_n (by decide)]; exact k21), (by show 0 ≤ (I63 0 8).toInt ∧ (I63 0 8).toInt ≤ 10; rw [eI63, z_up_n (by decide), eI60, z_up_n (by decide), eI57, z_up_n (by decide)]; exact k22)⟩, (by show 0 ≤ (I63 26 4).toInt ∧ (I63 26 4).toInt ≤ 512; rw [eI63, z_up_n (by decide), eI60, z_up_n (by decide), eI57, z_up_n (by decide)]; exact k23), f64, (Or.inr ⟨by omega, by omega, (by have q9 : (I63 30 8) = (I16 30 8) := (by rw [eI63, z_up_n (by decide), eI60, z_up_n (by decide), eI57, z_up_n (by decide)]); show (I63 30 8).toInt = (I 30 8).toInt; rw [q9]; first | done | omega)⟩)⟩
            · refine lv_if_eq (tgt := 109) hx hb dX11_pour_102 (by decide) (fun c65 => ?_) (fun c65 => absurd (by decide) c65)
              refine lv_iconst (v := 0) hx hb dX11_pour_109 (by decide) ?_
              refine z_iast (i := 37) hx hb hK hW hS rfl (z_ix rfl (by omega) (by omega)) dX11_pour_110 (fun H locs hz1 hW hS => ?_)
              obtain ⟨I66, eI66⟩ : ∃ K : z_I, K = z_up I57 37 x24.toNatClampNeg 0 := ⟨_, rfl⟩
              rw [← eI66] at hW
              have f67 := z_fr_a f58 (show z_wa L_X11_pour_e 37 = true by decide) eI66
              refine lv_aload_n hx hb dX11_pour_111 rfl (lv_at hl 1 rfl) ?_
              refine z_get (T := TX11) (N := 13) (ci := 11) (i := 0) (v := .ref (ad 30)) hx hb hts zj_X11_pour_X11 hown hK hW rfl rfl 6 (by decide) (hts (.fieldLink RX11 44 "PetrolBoard" "pours" "LPetrolBoard$Pours;") (me_s (me_l (me_l (me_l (me_l (me_l (me_l (me_l (List.mem_of_getElem? (i := 2) rfl)))))))))) (fun _ h => h) rfl dX11_pour_112 ?_
              refine z_get (T := TX8) (N := 9) (ci := 8) (i := 30) (v := .ref (ad 38)) hx hb hts zj_X11_pour_X8 hown hK hW rfl rfl 7 (by decide) (hts (.fieldLink RX11 198 "PetrolBoard$Pours" "ownerThen" "[I") (me_s (me_l (me_l (me_l (me_l (me_l (me_l (me_l (List.mem_of_getElem? (i := 7) rfl)))))))))) (fun _ h => h) rfl dX11_pour_115 ?_
              refine lv_iload hx hb dX11_pour_118 (lv_at hl 0 rfl) ?_
              refine lv_aload_n hx hb dX11_pour_120 rfl (lv_at hl 1 rfl) ?_
              refine z_get (T := TX11) (N := 13) (ci := 11) (i := 0) (v := .ref (ad 26)) hx hb hts zj_X11_pour_X11 hown hK hW rfl rfl 5 (by decide) (hts (.fieldLink RX11 37 "PetrolBoard" "coupons" "LPetrolBoard$Coupons;") (me_s (me_l (me_l (me_l (me_l (me_l (me_l (me_l (List.mem_of_getElem? (i := 8) rfl)))))))))) (fun _ h => h) rfl dX11_pour_121 ?_
              refine lv_iload_n hx hb dX11_pour_124 rfl (lv_at hl 4 rfl) ?_
              refine z_ci hW hS hA (va_runV (As := [.int a3]) (rest := [.int x24, .ref (ad 38)]) ⟨hx, hb, hml, hown, hts⟩ (sx_X0_ownerOf l G ad c I66 (by show 0 ≤ (I66 26 4).toInt ∧ (I66 26 4).toInt ≤ 512; rw [eI66, z_up_n (by decide), eI57, z_up_n (by decide)]; exact k23) a3 _) (cwV 1 hts gX11_pour_X0_ownerOf rfl rfl rfl hy_X0_ownerOf ⟨Nat.le_of_ble_eq_true rfl, Nat.le_of_ble_eq_true rfl⟩) (z_preV (i := 26) hK hW rfl rfl) rfl rfl hl.1 rfl (lv_room (Nat.le_of_ble_eq_true rfl)) dX11_pour_125 ⟨Nat.le_of_ble_eq_true rfl, Nat.le_of_ble_eq_true rfl⟩) (fun r u1 H locs hp hW hS => ?_)
              rw [hp] at hW
              refine lv_topi (fun x68 ex68 => ?_)
              refine z_iast (i := 38) hx hb hK hW hS rfl (z_ix rfl (by omega) (by omega)) dX11_pour_128 (fun H locs hz1 hW hS => ?_)
              obtain ⟨I69, eI69⟩ : ∃ K : z_I, K = z_up I66 38 x24.toNatClampNeg x68 := ⟨_, rfl⟩
              rw [← eI69] at hW
              have f70 := z_fr_a f67 (show z_wa L_X11_pour_e 38 = true by decide) eI69
              refine lv_iload hx hb dX11_pour_129 (lv_at hl 0 rfl) ?_
              exact z_iret hx hb hr hK hS (Nat.le_of_ble_eq_true rfl) (Nat.le_of_ble_eq_true rfl) hlocks dX11_pour_131 (shC c, ad, I69, JX, PC c ad) hW ⟨I69, rfl, (by show 0 ≤ (I69 30 8).toInt ∧ (I69 30 8).toInt ≤ 300; rw [eI69, z_up_n (by decide), eI66, z_up_n (by decide), eI57, z_up_n (by decide)]; exact hI16P), (by show 0 ≤ (I69 21 2).toInt ∧ (I69 21 2).toInt ≤ 12; rw [eI69, z_up_n (by decide), eI66, z_up_n (by decide), eI57, z_up_n (by decide)]; exact k18), ⟨(by show 0 ≤ (I69 1 5).toInt ∧ (I69 1 5).toInt ≤ 30; rw [eI69, z_up_n (by decide), eI66, z_up_n (by decide), eI57, z_up_n (by decide)]; exact k19), (by show 0 ≤ (I69 1 11).toInt ∧ (I69 1 11).toInt ≤ 200; rw [eI69, z_up_n (by decide), eI66, z_up_n (by decide), eI57, z_up_n (by decide)]; exact k20)⟩, ⟨(by show 0 ≤ (I69 0 0).toInt ∧ (I69 0 0).toInt ≤ 719; rw [eI69, z_up_n (by decide), eI66, z_up_n (by decide), eI57, z_up_n (by decide)]; exact k21), (by show 0 ≤ (I69 0 8).toInt ∧ (I69 0 8).toInt ≤ 10; rw [eI69, z_up_n (by decide), eI66, z_up_n (by decide), eI57, z_up_n (by decide)]; exact k22)⟩, (by show 0 ≤ (I69 26 4).toInt ∧ (I69 26 4).toInt ≤ 512; rw [eI69, z_up_n (by decide), eI66, z_up_n (by decide), eI57, z_up_n (by decide)]; exact k23), f70, (Or.inr ⟨by omega, by omega, (by have q9 : (I69 30 8) = (I16 30 8) := (by rw [eI69, z_up_n (by decide), eI66, z_up_n (by decide), eI57, z_up_n (by decide)]); show (I69 30 8).toInt = (I 30 8).toInt; rw [q9]; first | done | omega)⟩)⟩
          · refine lv_if_eq (tgt := 129) hx hb dX11_pour_56 (by decide) (fun c71 => ?_) (fun c71 => absurd (by decide) c71)
            refine lv_iload hx hb dX11_pour_129 (lv_at hl 0 rfl) ?_
            exact z_iret hx hb hr hK hS (Nat.le_of_ble_eq_true rfl) (Nat.le_of_ble_eq_true rfl) hlocks dX11_pour_131 (shC c, ad, I16, JX, PC c ad) hW ⟨I16, rfl, (by show 0 ≤ (I16 30 8).toInt ∧ (I16 30 8).toInt ≤ 300; exact hI16P), (by show 0 ≤ (I16 21 2).toInt ∧ (I16 21 2).toInt ≤ 12; exact k18), ⟨(by show 0 ≤ (I16 1 5).toInt ∧ (I16 1 5).toInt ≤ 30; exact k19), (by show 0 ≤ (I16 1 11).toInt ∧ (I16 1 11).toInt ≤ 200; exact k20)⟩, ⟨(by show 0 ≤ (I16 0 0).toInt ∧ (I16 0 0).toInt ≤ 719; exact k21), (by show 0 ≤ (I16 0 8).toInt ∧ (I16 0 8).toInt ≤ 10; exact k22)⟩, (by show 0 ≤ (I16 26 4).toInt ∧ (I16 26 4).toInt ≤ 512; exact k23), f17, (Or.inr ⟨by omega, by omega, (by show (I16 30 8).toInt = (I 30 8).toInt; omega)⟩)⟩
      · have h72 := h9
        have z73 := z_l0
        have z74 := z_l99999
        refine lv_if_ne (tgt := 31) hx hb dX11_pour_26 (by decide) (fun c75 => absurd (by decide) c75) (fun c75 => ?_)
        refine lv_iconst (v := (-1)) hx hb dX11_pour_29 (by decide) ?_
        exact z_iret hx hb hr hK hS (Nat.le_of_ble_eq_true rfl) (Nat.le_of_ble_eq_true rfl) hlocks dX11_pour_30 (shC c, ad, I, JX, PC c ad) hW ⟨I, rfl, (by show 0 ≤ (I 30 8).toInt ∧ (I 30 8).toInt ≤ 300; exact hP), (by show 0 ≤ (I 21 2).toInt ∧ (I 21 2).toInt ≤ 12; exact hO), ⟨(by show 0 ≤ (I 1 5).toInt ∧ (I 1 5).toInt ≤ 30; exact hH.1), (by show 0 ≤ (I 1 11).toInt ∧ (I 1 11).toInt ≤ 200; exact hH.2)⟩, ⟨(by show 0 ≤ (I 0 0).toInt ∧ (I 0 0).toInt ≤ 719; exact hB.1), (by show 0 ≤ (I 0 8).toInt ∧ (I 0 8).toInt ≤ 10; exact hB.2)⟩, (by show 0 ≤ (I 26 4).toInt ∧ (I 26 4).toInt ≤ 512; exact hC), z_fr_0, (Or.inr ⟨by omega, by decide, (by show (I 30 8).toInt = (I 30 8).toInt; omega)⟩)⟩
    · have h76 := h5
      have r77 : 0 ≤ (I 1 5).toInt ∧ (I 1 5).toInt ≤ 30 := hH.1
      refine lv_if_eq (tgt := 29) hx hb dX11_pour_16 (by decide) (fun c78 => ?_) (fun c78 => absurd (by decide) c78)
      refine lv_iconst (v := (-1)) hx hb dX11_pour_29 (by decide) ?_
      exact z_iret hx hb hr hK hS (Nat.le_of_ble_eq_true rfl) (Nat.le_of_ble_eq_true rfl) hlocks dX11_pour_30 (shC c, ad, I, JX, PC c ad) hW ⟨I, rfl, (by show 0 ≤ (I 30 8).toInt ∧ (I 30 8).toInt ≤ 300; exact hP), (by show 0 ≤ (I 21 2).toInt ∧ (I 21 2).toInt ≤ 12; exact hO), ⟨(by show 0 ≤ (I 1 5).toInt ∧ (I 1 5).toInt ≤ 30; exact hH.1), (by show 0 ≤ (I 1 11).toInt ∧ (I 1 11).toInt ≤ 200; exact hH.2)⟩, ⟨(by show 0 ≤ (I 0 0).toInt ∧ (I 0 0).toInt ≤ 719; exact hB.1), (by show 0 ≤ (I 0 8).toInt ∧ (I 0 8).toInt ≤ 10; exact hB.2)⟩, (by show 0 ≤ (I 26 4).toInt ∧ (I 26 4).toInt ≤ 512; exact hC), z_fr_0, (Or.inr ⟨by omega, by decide, (by show (I 30 8).toInt = (I 30 8).toInt; omega)⟩)⟩
  · have h79 := h1
    have r80 : 0 ≤ (I 0 8).toInt ∧ (I 0 8).toInt ≤ 10 := hB.2
    refine lv_if_eq (tgt := 29) hx hb dX11_pour_5 (by decide) (fun c81 => ?_) (fun c81 => absurd (by decide) c81)
    refine lv_iconst (v := (-1)) hx hb dX11_pour_29 (by decide) ?_
    exact z_iret hx hb hr hK hS (Nat.le_of_ble_eq_true rfl) (Nat.le_of_ble_eq_true rfl) hlocks dX11_pour_30 (shC c, ad, I, JX, PC c ad) hW ⟨I, rfl, (by show 0 ≤ (I 30 8).toInt ∧ (I 30 8).toInt ≤ 300; exact hP), (by show 0 ≤ (I 21 2).toInt ∧ (I 21 2).toInt ≤ 12; exact hO), ⟨(by show 0 ≤ (I 1 5).toInt ∧ (I 1 5).toInt ≤ 30; exact hH.1), (by show 0 ≤ (I 1 11).toInt ∧ (I 1 11).toInt ≤ 200; exact hH.2)⟩, ⟨(by show 0 ≤ (I 0 0).toInt ∧ (I 0 0).toInt ≤ 719; exact hB.1), (by show 0 ≤ (I 0 8).toInt ∧ (I 0 8).toInt ≤ 10; exact hB.2)⟩, (by show 0 ≤ (I 26 4).toInt ∧ (I 26 4).toInt ≤ 512; exact hC), z_fr_0, (Or.inr ⟨by omega, by decide, (by show (I 30 8).toInt = (I 30 8).toInt; omega)⟩)⟩
set_option maxHeartbeats 8000000 in
set_option maxRecDepth 100000 in
theorem sx_X12_within_e (l : Launch) (G : z_G) (ad : Nat → Nat) (I : z_I) (J : z_J) (a1 : Int32) (a2 : Int32) (a3 : Int32) : z_M l yX12_within wsX12_within { frames := 1, cells := 0, slots := 0, locals := 12 } [.int a1, .int a2, .int a3] G (shM, ad, I, J, PM ad) (fun r u1 => u1 = (shM, ad, I, J, PM ad) ∧ ((r = 1 ∧ a2.toInt ≤ a1.toInt ∧ a1.toInt ≤ a3.toInt) ∨ (r = 0 ∧ ¬ (a2.toInt ≤ a1.toInt ∧ a1.toInt ≤ a3.toInt)))) 0 0 := by
  intro sz
  refine z_headQ (cc := cX12_within) (maxL := 3) (ret := (some .boolean)) (by decide) rfl (Nat.le_of_ble_eq_true rfl) ?_
  intro p e s m below meth c0 ls hIn hK hsz hW hl
  obtain ⟨hx, hb, hr, hml, hown, hts, hlocks, hname⟩ := hIn
  subst hsz
  have hown : s.vm.findClass RX12 = some m.cls := hown
  have hA : ∀ q : Nat, s.heap.size ≤ q → z_A (shM, ad, I, J, PM ad) s.heap.size q := fun q h => Or.inr h
  generalize hAe : z_A (shM, ad, I, J, PM ad) s.heap.size = A at *
  have hS : va_S A s.heap s.heap [] := va_S.rf
  have hl : lv_has ls 3 [(0, .int a1), (1, .int a2), (2, .int a3)] := hl
  refine lv_iload_n hx hb dX12_within_0 rfl (lv_at hl 0 rfl) ?_
  refine lv_iload_n hx hb dX12_within_1 rfl (lv_at hl 1 rfl) ?_
  refine lv_icmp_lt (tgt := 14) hx hb dX12_within_2 (by decide) (fun c1 => ?_) (fun c1 => ?_)
  · have g2 := z_f_lt rfl rfl c1
    have b3 := Int32.toInt_lt a1
    have b4 := Int32.toInt_lt a2
    refine lv_iconst (v := 0) hx hb dX12_within_14 (by decide) ?_
    exact z_zret hx hb hr (by decide) hK hS (Nat.le_of_ble_eq_true rfl) (Nat.le_of_ble_eq_true rfl) hlocks dX12_within_15 (shM, ad, I, J, PM ad) hW ⟨rfl, (Or.inr ⟨rfl, by omega⟩)⟩
  · have g5 := z_f_nlt rfl rfl c1
    have b6 := Int32.toInt_lt a1
    have b7 := Int32.toInt_lt a2
    refine lv_iload_n hx hb dX12_within_5 rfl (lv_at hl 0 rfl) ?_
    refine lv_iload_n hx hb dX12_within_6 rfl (lv_at hl 2 rfl) ?_
    refine lv_icmp_gt (tgt := 14) hx hb dX12_within_7 (by decide) (fun c8 => ?_) (fun c8 => ?_)
    · have g9 := z_f_gt rfl rfl c8
      have b10 := Int32.toInt_lt a3
      refine lv_iconst (v := 0) hx hb dX12_within_14 (by decide) ?_
      exact z_zret hx hb hr (by decide) hK hS (Nat.le_of_ble_eq_true rfl) (Nat.le_of_ble_eq_true rfl) hlocks dX12_within_15 (shM, ad, I, J, PM ad) hW ⟨rfl, (Or.inr ⟨rfl, by omega⟩)⟩
    · have g11 := z_f_ngt rfl rfl c8
      have b12 := Int32.toInt_lt a3
      refine lv_iconst (v := 1) hx hb dX12_within_10 (by decide) ?_
      refine lv_goto (tgt := 15) hx hb dX12_within_11 (by decide) ?_
      exact z_zret hx hb hr (by decide) hK hS (Nat.le_of_ble_eq_true rfl) (Nat.le_of_ble_eq_true rfl) hlocks dX12_within_15 (shM, ad, I, J, PM ad) hW ⟨rfl, (Or.inl ⟨rfl, by omega⟩)⟩
set_option maxHeartbeats 8000000 in
set_option maxRecDepth 100000 in
theorem sx_X12_isHolder_e (l : Launch) (G : z_G) (ad : Nat → Nat) (I : z_I) (J : z_J) (hma : z_ima I) (a1 : Int32) : z_M l yX12_isHolder wsX12_isHolder { frames := 1, cells := 0, slots := 0, locals := 12 } [.ref (ad 0), .int a1] G (shM, ad, I, J, PM ad) (fun r u1 => u1 = (shM, ad, I, J, PM ad) ∧ ((r = 1 ∧ 0 ≤ a1.toInt ∧ a1.toInt < (I 0 1).toInt) ∨ (r = 0 ∧ ¬ (0 ≤ a1.toInt ∧ a1.toInt < (I 0 1).toInt)))) 0 0 := by
  intro sz
  refine z_headQ (cc := cX12_isHolder) (maxL := 2) (ret := (some .boolean)) (by decide) rfl (Nat.le_of_ble_eq_true rfl) ?_
  intro p e s m below meth c0 ls hIn hK hsz hW hl
  obtain ⟨hx, hb, hr, hml, hown, hts, hlocks, hname⟩ := hIn
  subst hsz
  have hown : s.vm.findClass RX12 = some m.cls := hown
  have hA : ∀ q : Nat, s.heap.size ≤ q → z_A (shM, ad, I, J, PM ad) s.heap.size q := fun q h => Or.inr h
  generalize hAe : z_A (shM, ad, I, J, PM ad) s.heap.size = A at *
  have hS : va_S A s.heap s.heap [] := va_S.rf
  have hl : lv_has ls 2 [(0, .ref (ad 0)), (1, .int a1)] := hl
  refine lv_iload_n hx hb dX12_isHolder_0 rfl (lv_at hl 1 rfl) ?_
  refine lv_if_lt (tgt := 16) hx hb dX12_isHolder_1 (by decide) (fun c1 => ?_) (fun c1 => ?_)
  · have g2 := z_f_lt rfl z_l0 c1
    have b3 := Int32.toInt_lt a1
    refine lv_iconst (v := 0) hx hb dX12_isHolder_16 (by decide) ?_
    exact z_zret hx hb hr (by decide) hK hS (Nat.le_of_ble_eq_true rfl) (Nat.le_of_ble_eq_true rfl) hlocks dX12_isHolder_17 (shM, ad, I, J, PM ad) hW ⟨rfl, (Or.inr ⟨rfl, by omega⟩)⟩
  · have g4 := z_f_nlt rfl z_l0 c1
    have b5 := Int32.toInt_lt a1
    refine lv_iload_n hx hb dX12_isHolder_4 rfl (lv_at hl 1 rfl) ?_
    refine lv_aload_n hx hb dX12_isHolder_5 rfl (lv_at hl 0 rfl) ?_
    have r6 : 0 ≤ (I 0 1).toInt ∧ (I 0 1).toInt ≤ 30 := hma.2.1
    refine z_get (T := TX12) (N := 96) (ci := 12) (i := 0) (v := .int (I 0 1)) hx hb hts zj_X12_isHolder_X12 hown hK hW rfl rfl 1 (by decide) (hts (.fieldLink RX12 229 "PetrolBoardModel" "holders" "I") (me_s (me_l (List.mem_of_getElem? (i := 0) rfl)))) (fun _ h => h) rfl dX12_isHolder_6 ?_
    refine lv_icmp_ge (tgt := 16) hx hb dX12_isHolder_9 (by decide) (fun c7 => ?_) (fun c7 => ?_)
    · have g8 := z_f_ge rfl rfl c7
      refine lv_iconst (v := 0) hx hb dX12_isHolder_16 (by decide) ?_
      exact z_zret hx hb hr (by decide) hK hS (Nat.le_of_ble_eq_true rfl) (Nat.le_of_ble_eq_true rfl) hlocks dX12_isHolder_17 (shM, ad, I, J, PM ad) hW ⟨rfl, (Or.inr ⟨rfl, by omega⟩)⟩
    · have g9 := z_f_nge rfl rfl c7
      refine lv_iconst (v := 1) hx hb dX12_isHolder_12 (by decide) ?_
      refine lv_goto (tgt := 17) hx hb dX12_isHolder_13 (by decide) ?_
      exact z_zret hx hb hr (by decide) hK hS (Nat.le_of_ble_eq_true rfl) (Nat.le_of_ble_eq_true rfl) hlocks dX12_isHolder_17 (shM, ad, I, J, PM ad) hW ⟨rfl, (Or.inl ⟨rfl, by omega⟩)⟩
set_option maxHeartbeats 8000000 in
set_option maxRecDepth 100000 in
theorem sx_X12_isStation_e (l : Launch) (G : z_G) (ad : Nat → Nat) (I : z_I) (J : z_J) (hms : z_ims I) (a1 : Int32) : z_M l yX12_isStation wsX12_isStation { frames := 1, cells := 0, slots := 0, locals := 12 } [.ref (ad 0), .int a1] G (shM, ad, I, J, PM ad) (fun r u1 => u1 = (shM, ad, I, J, PM ad) ∧ ((r = 1 ∧ 0 ≤ a1.toInt ∧ a1.toInt < (I 0 54).toInt) ∨ (r = 0 ∧ ¬ (0 ≤ a1.toInt ∧ a1.toInt < (I 0 54).toInt)))) 0 0 := by
  intro sz
  refine z_headQ (cc := cX12_isStation) (maxL := 2) (ret := (some .boolean)) (by decide) rfl (Nat.le_of_ble_eq_true rfl) ?_
  intro p e s m below meth c0 ls hIn hK hsz hW hl
  obtain ⟨hx, hb, hr, hml, hown, hts, hlocks, hname⟩ := hIn
  subst hsz
  have hown : s.vm.findClass RX12 = some m.cls := hown
  have hA : ∀ q : Nat, s.heap.size ≤ q → z_A (shM, ad, I, J, PM ad) s.heap.size q := fun q h => Or.inr h
  generalize hAe : z_A (shM, ad, I, J, PM ad) s.heap.size = A at *
  have hS : va_S A s.heap s.heap [] := va_S.rf
  have hl : lv_has ls 2 [(0, .ref (ad 0)), (1, .int a1)] := hl
  refine lv_iload_n hx hb dX12_isStation_0 rfl (lv_at hl 1 rfl) ?_
  refine lv_if_lt (tgt := 16) hx hb dX12_isStation_1 (by decide) (fun c1 => ?_) (fun c1 => ?_)
  · have g2 := z_f_lt rfl z_l0 c1
    have b3 := Int32.toInt_lt a1
    refine lv_iconst (v := 0) hx hb dX12_isStation_16 (by decide) ?_
    exact z_zret hx hb hr (by decide) hK hS (Nat.le_of_ble_eq_true rfl) (Nat.le_of_ble_eq_true rfl) hlocks dX12_isStation_17 (shM, ad, I, J, PM ad) hW ⟨rfl, (Or.inr ⟨rfl, by omega⟩)⟩
  · have g4 := z_f_nlt rfl z_l0 c1
    have b5 := Int32.toInt_lt a1
    refine lv_iload_n hx hb dX12_isStation_4 rfl (lv_at hl 1 rfl) ?_
    refine lv_aload_n hx hb dX12_isStation_5 rfl (lv_at hl 0 rfl) ?_
    have r6 : 0 ≤ (I 0 54).toInt ∧ (I 0 54).toInt ≤ 10 := hms.1
    refine z_get (T := TX12) (N := 96) (ci := 12) (i := 0) (v := .int (I 0 54)) hx hb hts zj_X12_isStation_X12 hown hK hW rfl rfl 54 (by decide) (hts (.fieldLink RX12 461 "PetrolBoardModel" "stations" "I") (me_s (me_l (List.mem_of_getElem? (i := 0) rfl)))) (fun _ h => h) rfl dX12_isStation_6 ?_
    refine lv_icmp_ge (tgt := 16) hx hb dX12_isStation_9 (by decide) (fun c7 => ?_) (fun c7 => ?_)
    · have g8 := z_f_ge rfl rfl c7
      refine lv_iconst (v := 0) hx hb dX12_isStation_16 (by decide) ?_
      exact z_zret hx hb hr (by decide) hK hS (Nat.le_of_ble_eq_true rfl) (Nat.le_of_ble_eq_true rfl) hlocks dX12_isStation_17 (shM, ad, I, J, PM ad) hW ⟨rfl, (Or.inr ⟨rfl, by omega⟩)⟩
    · have g9 := z_f_nge rfl rfl c7
      refine lv_iconst (v := 1) hx hb dX12_isStation_12 (by decide) ?_
      refine lv_goto (tgt := 17) hx hb dX12_isStation_13 (by decide) ?_
      exact z_zret hx hb hr (by decide) hK hS (Nat.le_of_ble_eq_true rfl) (Nat.le_of_ble_eq_true rfl) hlocks dX12_isStation_17 (shM, ad, I, J, PM ad) hW ⟨rfl, (Or.inl ⟨rfl, by omega⟩)⟩
noncomputable def L_X12_holder_e : z_L := [(0, 1), (1, 999), (2, 999), (3, 999), (4, 999), (5, 999)]
set_option maxHeartbeats 8000000 in
set_option maxRecDepth 100000 in
theorem sx_X12_holder_e (l : Launch) (G : z_G) (ad : Nat → Nat) (I : z_I) (J : z_J) (hma : z_ima I) (a1 : Int32) (a2 : Int32) (a3 : Int32) (a4 : Int32) (a5 : Int32) : z_M l yX12_holder wsX12_holder { frames := 2, cells := 0, slots := 0, locals := 34 } [.ref (ad 0), .int a1, .int a2, .int a3, .int a4, .int a5] G (shM, ad, I, J, PM ad) (fun r u1 => ∃ (I1 : z_I) (J1 : z_J), u1 = (shM, ad, I1, J1, PM ad) ∧ z_ima I1 ∧ z_fr L_X12_holder_e I1 I ∧ (((1 ≤ a1.toInt ∧ a1.toInt ≤ 9 ∧ 0 ≤ a2.toInt ∧ a2.toInt ≤ 9 ∧ 1 ≤ a3.toInt ∧ a3.toInt ≤ 8 ∧ 0 ≤ a4.toInt ∧ a4.toInt ≤ 999 ∧ 0 ≤ a5.toInt ∧ a5.toInt ≤ 99 ∧ (I 0 1).toInt < 30) ∧ r.toInt = (I 0 1).toInt ∧ (I1 0 1).toInt = (I 0 1).toInt + 1) ∨ (¬ (1 ≤ a1.toInt ∧ a1.toInt ≤ 9 ∧ 0 ≤ a2.toInt ∧ a2.toInt ≤ 9 ∧ 1 ≤ a3.toInt ∧ a3.toInt ≤ 8 ∧ 0 ≤ a4.toInt ∧ a4.toInt ≤ 999 ∧ 0 ≤ a5.toInt ∧ a5.toInt ≤ 99 ∧ (I 0 1).toInt < 30) ∧ r.toInt = -1 ∧ (I1 0 1).toInt = (I 0 1).toInt))) 0 0 := by
  intro sz
  refine z_headQ (cc := cX12_holder) (maxL := 6) (ret := (some .int)) (by decide) rfl (Nat.le_of_ble_eq_true rfl) ?_
  intro p e s m below meth c0 ls hIn hK hsz hW hl
  obtain ⟨hx, hb, hr, hml, hown, hts, hlocks, hname⟩ := hIn
  subst hsz
  have hown : s.vm.findClass RX12 = some m.cls := hown
  have hA : ∀ q : Nat, s.heap.size ≤ q → z_A (shM, ad, I, J, PM ad) s.heap.size q := fun q h => Or.inr h
  generalize hAe : z_A (shM, ad, I, J, PM ad) s.heap.size = A at *
  have hS : va_S A s.heap s.heap [] := va_S.rf
  have hl : lv_has ls 6 [(0, .ref (ad 0)), (1, .int a1), (2, .int a2), (3, .int a3), (4, .int a4), (5, .int a5)] := hl
  refine lv_iload_n hx hb dX12_holder_0 rfl (lv_at hl 1 rfl) ?_
  refine lv_iconst (v := 1) hx hb dX12_holder_1 (by decide) ?_
  refine lv_bipush (v := 9) hx hb dX12_holder_2 (by decide) ?_
  refine z_ci hW hS hA (va_runS (As := [.int a1, .int 1, .int 9]) (rest := []) ⟨hx, hb, hml, hown, hts⟩ (sx_X12_within_e l G ad I J  a1 1 9 _) (va_cwS 3 hts gX12_holder_X12_within rfl rfl rfl hy_X12_within.2 ⟨Nat.le_of_ble_eq_true rfl, Nat.le_of_ble_eq_true rfl⟩) (z_preS hK hW) rfl rfl hl.1 rfl (lv_room (Nat.le_of_ble_eq_true rfl)) dX12_holder_4 ⟨Nat.le_of_ble_eq_true rfl, Nat.le_of_ble_eq_true rfl⟩) (fun r u1 H locs hp hW hS => ?_)
  obtain ⟨e9, hp⟩ := hp
  rw [e9] at hW
  rcases hp with ⟨rfl, h1⟩ | ⟨rfl, h1⟩
  · have h2 := h1
    have z3 := z_l1
    have z4 := z_l9
    refine lv_if_eq (tgt := 62) hx hb dX12_holder_7 (by decide) (fun c5 => absurd c5 (by decide)) (fun c5 => ?_)
    refine lv_iload_n hx hb dX12_holder_10 rfl (lv_at hl 2 rfl) ?_
    refine lv_iconst (v := 0) hx hb dX12_holder_11 (by decide) ?_
    refine lv_bipush (v := 9) hx hb dX12_holder_12 (by decide) ?_
    refine z_ci hW hS hA (va_runS (As := [.int a2, .int 0, .int 9]) (rest := []) ⟨hx, hb, hml, hown, hts⟩ (sx_X12_within_e l G ad I J  a2 0 9 _) (va_cwS 3 hts gX12_holder_X12_within rfl rfl rfl hy_X12_within.2 ⟨Nat.le_of_ble_eq_true rfl, Nat.le_of_ble_eq_true rfl⟩) (z_preS hK hW) rfl rfl hl.1 rfl (lv_room (Nat.le_of_ble_eq_true rfl)) dX12_holder_14 ⟨Nat.le_of_ble_eq_true rfl, Nat.le_of_ble_eq_true rfl⟩) (fun r u1 H locs hp hW hS => ?_)
    obtain ⟨e9, hp⟩ := hp
    rw [e9] at hW
    rcases hp with ⟨rfl, h6⟩ | ⟨rfl, h6⟩
    · have h7 := h6
      have z8 := z_l0
      have z9 := z_l9
      refine lv_if_eq (tgt := 62) hx hb dX12_holder_17 (by decide) (fun c10 => absurd c10 (by decide)) (fun c10 => ?_)
      refine lv_iload_n hx hb dX12_holder_20 rfl (lv_at hl 3 rfl) ?_
      refine lv_iconst (v := 1) hx hb dX12_holder_21 (by decide) ?_
      refine lv_bipush (v := 8) hx hb dX12_holder_22 (by decide) ?_
      refine z_ci hW hS hA (va_runS (As := [.int a3, .int 1, .int 8]) (rest := []) ⟨hx, hb, hml, hown, hts⟩ (sx_X12_within_e l G ad I J  a3 1 8 _) (va_cwS 3 hts gX12_holder_X12_within rfl rfl rfl hy_X12_within.2 ⟨Nat.le_of_ble_eq_true rfl, Nat.le_of_ble_eq_true rfl⟩) (z_preS hK hW) rfl rfl hl.1 rfl (lv_room (Nat.le_of_ble_eq_true rfl)) dX12_holder_24 ⟨Nat.le_of_ble_eq_true rfl, Nat.le_of_ble_eq_true rfl⟩) (fun r u1 H locs hp hW hS => ?_)
      obtain ⟨e9, hp⟩ := hp
      rw [e9] at hW
      rcases hp with ⟨rfl, h11⟩ | ⟨rfl, h11⟩
      · have h12 := h11
        have z13 := z_l1
        have z14 := z_l8
        refine lv_if_eq (tgt := 62) hx hb dX12_holder_27 (by decide) (fun c15 => absurd c15 (by decide)) (fun c15 => ?_)
        refine lv_iload hx hb dX12_holder_30 (lv_at hl 4 rfl) ?_
        refine lv_iconst (v := 0) hx hb dX12_holder_32 (by decide) ?_
        refine lv_sipush (v := 999) hx hb dX12_holder_33 (by decide) ?_
        refine z_ci hW hS hA (va_runS (As := [.int a4, .int 0, .int 999]) (rest := []) ⟨hx, hb, hml, hown, hts⟩ (sx_X12_within_e l G ad I J  a4 0 999 _) (va_cwS 3 hts gX12_holder_X12_within rfl rfl rfl hy_X12_within.2 ⟨Nat.le_of_ble_eq_true rfl, Nat.le_of_ble_eq_true rfl⟩) (z_preS hK hW) rfl rfl hl.1 rfl (lv_room (Nat.le_of_ble_eq_true rfl)) dX12_holder_36 ⟨Nat.le_of_ble_eq_true rfl, Nat.le_of_ble_eq_true rfl⟩) (fun r u1 H locs hp hW hS => ?_)
        obtain ⟨e9, hp⟩ := hp
        rw [e9] at hW
        rcases hp with ⟨rfl, h16⟩ | ⟨rfl, h16⟩
        · have h17 := h16
          have z18 := z_l0
          have z19 := z_l999
          refine lv_if_eq (tgt := 62) hx hb dX12_holder_39 (by decide) (fun c20 => absurd c20 (by decide)) (fun c20 => ?_)
          refine lv_iload hx hb dX12_holder_42 (lv_at hl 5 rfl) ?_
          refine lv_iconst (v := 0) hx hb dX12_holder_44 (by decide) ?_
          refine lv_bipush (v := 99) hx hb dX12_holder_45 (by decide) ?_
          refine z_ci hW hS hA (va_runS (As := [.int a5, .int 0, .int 99]) (rest := []) ⟨hx, hb, hml, hown, hts⟩ (sx_X12_within_e l G ad I J  a5 0 99 _) (va_cwS 3 hts gX12_holder_X12_within rfl rfl rfl hy_X12_within.2 ⟨Nat.le_of_ble_eq_true rfl, Nat.le_of_ble_eq_true rfl⟩) (z_preS hK hW) rfl rfl hl.1 rfl (lv_room (Nat.le_of_ble_eq_true rfl)) dX12_holder_47 ⟨Nat.le_of_ble_eq_true rfl, Nat.le_of_ble_eq_true rfl⟩) (fun r u1 H locs hp hW hS => ?_)
          obtain ⟨e9, hp⟩ := hp
          rw [e9] at hW
          rcases hp with ⟨rfl, h21⟩ | ⟨rfl, h21⟩
          · have h22 := h21
            have z23 := z_l0
            have z24 := z_l99
            refine lv_if_eq (tgt := 62) hx hb dX12_holder_50 (by decide) (fun c25 => absurd c25 (by decide)) (fun c25 => ?_)
            refine lv_aload_n hx hb dX12_holder_53 rfl (lv_at hl 0 rfl) ?_
            have r26 : 0 ≤ (I 0 1).toInt ∧ (I 0 1).toInt ≤ 30 := hma.2.1
            refine z_get (T := TX12) (N := 96) (ci := 12) (i := 0) (v := .int (I 0 1)) hx hb hts zj_X12_holder_X12 hown hK hW rfl rfl 1 (by decide) (hts (.fieldLink RX12 229 "PetrolBoardModel" "holders" "I") (me_s (me_l (List.mem_of_getElem? (i := 0) rfl)))) (fun _ h => h) rfl dX12_holder_54 ?_
            refine lv_bipush (v := 30) hx hb dX12_holder_57 (by decide) ?_
            refine lv_icmp_ne (tgt := 64) hx hb dX12_holder_59 (by decide) (fun c27 => ?_) (fun c27 => ?_)
            · have g28 := z_f_ne rfl z_l30 c27
              refine lv_aload_n hx hb dX12_holder_64 rfl (lv_at hl 0 rfl) ?_
              refine z_get (T := TX12) (N := 96) (ci := 12) (i := 0) (v := .ref (ad 1)) hx hb hts zj_X12_holder_X12 hown hK hW rfl rfl 3 (by decide) (hts (.fieldLink RX12 7 "PetrolBoardModel" "sizeOf" "[I") (me_s (me_l (List.mem_of_getElem? (i := 1) rfl)))) (fun _ h => h) rfl dX12_holder_65 ?_
              refine lv_aload_n hx hb dX12_holder_68 rfl (lv_at hl 0 rfl) ?_
              refine z_get (T := TX12) (N := 96) (ci := 12) (i := 0) (v := .int (I 0 1)) hx hb hts zj_X12_holder_X12 hown hK hW rfl rfl 1 (by decide) (hts (.fieldLink RX12 229 "PetrolBoardModel" "holders" "I") (me_s (me_l (List.mem_of_getElem? (i := 0) rfl)))) (fun _ h => h) rfl dX12_holder_69 ?_
              refine lv_iload_n hx hb dX12_holder_72 rfl (lv_at hl 1 rfl) ?_
              refine z_iast (i := 1) hx hb hK hW hS rfl (z_ix rfl (by omega) (by omega)) dX12_holder_73 (fun H locs hz1 hW hS => ?_)
              obtain ⟨I29, eI29⟩ : ∃ K : z_I, K = z_up I 1 (I 0 1).toNatClampNeg a1 := ⟨_, rfl⟩
              rw [← eI29] at hW
              have f30 := z_fr_a z_fr_0 (show z_wa L_X12_holder_e 1 = true by decide) eI29
              refine lv_aload_n hx hb dX12_holder_74 rfl (lv_at hl 0 rfl) ?_
              refine z_get (T := TX12) (N := 96) (ci := 12) (i := 0) (v := .ref (ad 2)) hx hb hts zj_X12_holder_X12 hown hK hW rfl rfl 4 (by decide) (hts (.fieldLink RX12 13 "PetrolBoardModel" "townOf" "[I") (me_s (me_l (List.mem_of_getElem? (i := 2) rfl)))) (fun _ h => h) rfl dX12_holder_75 ?_
              refine lv_aload_n hx hb dX12_holder_78 rfl (lv_at hl 0 rfl) ?_
              refine z_get (T := TX12) (N := 96) (ci := 12) (i := 0) (v := .int (I 0 1)) hx hb hts zj_X12_holder_X12 hown hK hW rfl rfl 1 (by decide) (hts (.fieldLink RX12 229 "PetrolBoardModel" "holders" "I") (me_s (me_l (List.mem_of_getElem? (i := 0) rfl)))) (fun _ h => h) (congrArg Value.int (by rw [eI29, z_up_n (by decide)])) dX12_holder_79 ?_
              refine lv_iload_n hx hb dX12_holder_82 rfl (lv_at hl 2 rfl) ?_
              refine z_iast (i := 2) hx hb hK hW hS rfl (z_ix rfl (by omega) (by omega)) dX12_holder_83 (fun H locs hz1 hW hS => ?_)
              obtain ⟨I31, eI31⟩ : ∃ K : z_I, K = z_up I29 2 (I 0 1).toNatClampNeg a2 := ⟨_, rfl⟩
              rw [← eI31] at hW
              have f32 := z_fr_a f30 (show z_wa L_X12_holder_e 2 = true by decide) eI31
              refine lv_aload_n hx hb dX12_holder_84 rfl (lv_at hl 0 rfl) ?_
              refine z_get (T := TX12) (N := 96) (ci := 12) (i := 0) (v := .ref (ad 3)) hx hb hts zj_X12_holder_X12 hown hK hW rfl rfl 5 (by decide) (hts (.fieldLink RX12 16 "PetrolBoardModel" "seatsOf" "[I") (me_s (me_l (List.mem_of_getElem? (i := 3) rfl)))) (fun _ h => h) rfl dX12_holder_85 ?_
              refine lv_aload_n hx hb dX12_holder_88 rfl (lv_at hl 0 rfl) ?_
              refine z_get (T := TX12) (N := 96) (ci := 12) (i := 0) (v := .int (I 0 1)) hx hb hts zj_X12_holder_X12 hown hK hW rfl rfl 1 (by decide) (hts (.fieldLink RX12 229 "PetrolBoardModel" "holders" "I") (me_s (me_l (List.mem_of_getElem? (i := 0) rfl)))) (fun _ h => h) (congrArg Value.int (by rw [eI31, z_up_n (by decide), eI29, z_up_n (by decide)])) dX12_holder_89 ?_
              refine lv_iload_n hx hb dX12_holder_92 rfl (lv_at hl 3 rfl) ?_
              refine z_iast (i := 3) hx hb hK hW hS rfl (z_ix rfl (by omega) (by omega)) dX12_holder_93 (fun H locs hz1 hW hS => ?_)
              obtain ⟨I33, eI33⟩ : ∃ K : z_I, K = z_up I31 3 (I 0 1).toNatClampNeg a3 := ⟨_, rfl⟩
              rw [← eI33] at hW
              have f34 := z_fr_a f32 (show z_wa L_X12_holder_e 3 = true by decide) eI33
              refine lv_aload_n hx hb dX12_holder_94 rfl (lv_at hl 0 rfl) ?_
              refine z_get (T := TX12) (N := 96) (ci := 12) (i := 0) (v := .ref (ad 4)) hx hb hts zj_X12_holder_X12 hown hK hW rfl rfl 6 (by decide) (hts (.fieldLink RX12 19 "PetrolBoardModel" "bidOf" "[I") (me_s (me_l (List.mem_of_getElem? (i := 4) rfl)))) (fun _ h => h) rfl dX12_holder_95 ?_
              refine lv_aload_n hx hb dX12_holder_98 rfl (lv_at hl 0 rfl) ?_
              refine z_get (T := TX12) (N := 96) (ci := 12) (i := 0) (v := .int (I 0 1)) hx hb hts zj_X12_holder_X12 hown hK hW rfl rfl 1 (by decide) (hts (.fieldLink RX12 229 "PetrolBoardModel" "holders" "I") (me_s (me_l (List.mem_of_getElem? (i := 0) rfl)))) (fun _ h => h) (congrArg Value.int (by rw [eI33, z_up_n (by decide), eI31, z_up_n (by decide), eI29, z_up_n (by decide)])) dX12_holder_99 ?_
              refine lv_iload hx hb dX12_holder_102 (lv_at hl 4 rfl) ?_
              refine z_iast (i := 4) hx hb hK hW hS rfl (z_ix rfl (by omega) (by omega)) dX12_holder_104 (fun H locs hz1 hW hS => ?_)
              obtain ⟨I35, eI35⟩ : ∃ K : z_I, K = z_up I33 4 (I 0 1).toNatClampNeg a4 := ⟨_, rfl⟩
              rw [← eI35] at hW
              have f36 := z_fr_a f34 (show z_wa L_X12_holder_e 4 = true by decide) eI35
              refine lv_aload_n hx hb dX12_holder_105 rfl (lv_at hl 0 rfl) ?_
              refine z_get (T := TX12) (N := 96) (ci := 12) (i := 0) (v := .ref (ad 5)) hx hb hts zj_X12_holder_X12 hown hK hW rfl rfl 7 (by decide) (hts (.fieldLink RX12 22 "PetrolBoardModel" "needOf" "[I") (me_s (me_l (List.mem_of_getElem? (i := 5) rfl)))) (fun _ h => h) rfl dX12_holder_106 ?_
              refine lv_aload_n hx hb dX12_holder_109 rfl (lv_at hl 0 rfl) ?_
              refine z_get (T := TX12) (N := 96) (ci := 12) (i := 0) (v := .int (I 0 1)) hx hb hts zj_X12_holder_X12 hown hK hW rfl rfl 1 (by decide) (hts (.fieldLink RX12 229 "PetrolBoardModel" "holders" "I") (me_s (me_l (List.mem_of_getElem? (i := 0) rfl)))) (fun _ h => h) (congrArg Value.int (by rw [eI35, z_up_n (by decide), eI33, z_up_n (by decide), eI31, z_up_n (by decide), eI29, z_up_n (by decide)])) dX12_holder_110 ?_
              refine lv_iload hx hb dX12_holder_113 (lv_at hl 5 rfl) ?_
              refine z_iast (i := 5) hx hb hK hW hS rfl (z_ix rfl (by omega) (by omega)) dX12_holder_115 (fun H locs hz1 hW hS => ?_)
              obtain ⟨I37, eI37⟩ : ∃ K : z_I, K = z_up I35 5 (I 0 1).toNatClampNeg a5 := ⟨_, rfl⟩
              rw [← eI37] at hW
              have f38 := z_fr_a f36 (show z_wa L_X12_holder_e 5 = true by decide) eI37
              refine lv_aload_n hx hb dX12_holder_116 rfl (lv_at hl 0 rfl) ?_
              refine lv_dup hx hb dX12_holder_117 rfl ?_
              refine z_get (T := TX12) (N := 96) (ci := 12) (i := 0) (v := .int (I 0 1)) hx hb hts zj_X12_holder_X12 hown hK hW rfl rfl 1 (by decide) (hts (.fieldLink RX12 229 "PetrolBoardModel" "holders" "I") (me_s (me_l (List.mem_of_getElem? (i := 0) rfl)))) (fun _ h => h) (congrArg Value.int (by rw [eI37, z_up_n (by decide), eI35, z_up_n (by decide), eI33, z_up_n (by decide), eI31, z_up_n (by decide), eI29, z_up_n (by decide)])) dX12_holder_118 ?_
              refine lv_iconst (v := 1) hx hb dX12_holder_121 (by decide) ?_
              refine lv_iadd hx hb dX12_holder_122 ?_
              refine lv_topi (fun x39 ex39 => ?_)
              have tx39 : x39.toInt = (I 0 1).toInt + 1 := z_tadd ex39 rfl z_l1 (by omega) (by omega)
              refine z_put (T := TX12) (N := 96) (ci := 12) (i := 0) (v := .int x39) (I1 := z_up I37 0 1 x39) (J1 := J) (P1 := PM ad) hx hb hts zj_X12_holder_X12 tyX12 tyX12_ok nmX12 hown hK hW hS rfl rfl 1 (by decide) (hts (.fieldLink RX12 229 "PetrolBoardModel" "holders" "I") (me_s (me_l (List.mem_of_getElem? (i := 0) rfl)))) (fun _ h => h) rfl rfl rfl (by first | rfl | exact congrArg _ z_up_s) (fun a b h ty => z_vI h ty) dX12_holder_123 (fun H locs hz1 hW hS => ?_)
              obtain ⟨I40, eI40⟩ : ∃ K : z_I, K = z_up I37 0 1 x39 := ⟨_, rfl⟩
              rw [← eI40] at hW
              have f41 := z_fr_k f38 (show z_wr L_X12_holder_e 0 1 = true by decide) eI40
              refine lv_aload_n hx hb dX12_holder_126 rfl (lv_at hl 0 rfl) ?_
              refine z_get (T := TX12) (N := 96) (ci := 12) (i := 0) (v := .int x39) hx hb hts zj_X12_holder_X12 hown hK hW rfl rfl 1 (by decide) (hts (.fieldLink RX12 229 "PetrolBoardModel" "holders" "I") (me_s (me_l (List.mem_of_getElem? (i := 0) rfl)))) (fun _ h => h) (congrArg Value.int (by rw [eI40, z_up_s])) dX12_holder_127 ?_
              refine lv_iconst (v := 1) hx hb dX12_holder_130 (by decide) ?_
              refine lv_isub hx hb dX12_holder_131 ?_
              refine lv_topi (fun x42 ex42 => ?_)
              have tx42 : x42.toInt = x39.toInt - 1 := z_tsub ex42 rfl z_l1 (by omega) (by omega)
              exact z_iret hx hb hr hK hS (Nat.le_of_ble_eq_true rfl) (Nat.le_of_ble_eq_true rfl) hlocks dX12_holder_132 (shM, ad, I40, J, PM ad) hW ⟨I40, J, rfl, ⟨(by show 0 ≤ (I40 0 0).toInt ∧ (I40 0 0).toInt ≤ 719; rw [eI40, z_up_k (by decide), eI37, z_up_n (by decide), eI35, z_up_n (by decide), eI33, z_up_n (by decide), eI31, z_up_n (by decide), eI29, z_up_n (by decide)]; exact hma.1), (by show 0 ≤ (I40 0 1).toInt ∧ (I40 0 1).toInt ≤ 30; rw [eI40, z_up_s]; omega), (by show 0 ≤ (I40 0 2).toInt ∧ (I40 0 2).toInt ≤ 200; rw [eI40, z_up_k (by decide), eI37, z_up_n (by decide), eI35, z_up_n (by decide), eI33, z_up_n (by decide), eI31, z_up_n (by decide), eI29, z_up_n (by decide)]; exact hma.2.2)⟩, f41, (Or.inl ⟨by omega, by omega, (by have q9 : (I40 0 1) = x39 := (by rw [eI40, z_up_s]); show (I40 0 1).toInt = (I 0 1).toInt + 1; rw [q9]; first | done | omega)⟩)⟩
            · have g43 := z_f_eq rfl z_l30 c27
              refine lv_iconst (v := (-1)) hx hb dX12_holder_62 (by decide) ?_
              exact z_iret hx hb hr hK hS (Nat.le_of_ble_eq_true rfl) (Nat.le_of_ble_eq_true rfl) hlocks dX12_holder_63 (shM, ad, I, J, PM ad) hW ⟨I, J, rfl, ⟨(by show 0 ≤ (I 0 0).toInt ∧ (I 0 0).toInt ≤ 719; exact hma.1), (by show 0 ≤ (I 0 1).toInt ∧ (I 0 1).toInt ≤ 30; exact hma.2.1), (by show 0 ≤ (I 0 2).toInt ∧ (I 0 2).toInt ≤ 200; exact hma.2.2)⟩, z_fr_0, (Or.inr ⟨by omega, by decide, (by show (I 0 1).toInt = (I 0 1).toInt; omega)⟩)⟩
          · have h44 := h21
            have z45 := z_l0
            have z46 := z_l99
            refine lv_if_eq (tgt := 62) hx hb dX12_holder_50 (by decide) (fun c47 => ?_) (fun c47 => absurd (by decide) c47)
            refine lv_iconst (v := (-1)) hx hb dX12_holder_62 (by decide) ?_
            exact z_iret hx hb hr hK hS (Nat.le_of_ble_eq_true rfl) (Nat.le_of_ble_eq_true rfl) hlocks dX12_holder_63 (shM, ad, I, J, PM ad) hW ⟨I, J, rfl, ⟨(by show 0 ≤ (I 0 0).toInt ∧ (I 0 0).toInt ≤ 719; exact hma.1), (by show 0 ≤ (I 0 1).toInt ∧ (I 0 1).toInt ≤ 30; exact hma.2.1), (by show 0 ≤ (I 0 2).toInt ∧ (I 0 2).toInt ≤ 200; exact hma.2.2)⟩, z_fr_0, (Or.inr ⟨by omega, by decide, (by show (I 0 1).toInt = (I 0 1).toInt; omega)⟩)⟩
        · have h48 := h16
          have z49 := z_l0
          have z50 := z_l999
          refine lv_if_eq (tgt := 62) hx hb dX12_holder_39 (by decide) (fun c51 => ?_) (fun c51 => absurd (by decide) c51)
          refine lv_iconst (v := (-1)) hx hb dX12_holder_62 (by decide) ?_
          exact z_iret hx hb hr hK hS (Nat.le_of_ble_eq_true rfl) (Nat.le_of_ble_eq_true rfl) hlocks dX12_holder_63 (shM, ad, I, J, PM ad) hW ⟨I, J, rfl, ⟨(by show 0 ≤ (I 0 0).toInt ∧ (I 0 0).toInt ≤ 719; exact hma.1), (by show 0 ≤ (I 0 1).toInt ∧ (I 0 1).toInt ≤ 30; exact hma.2.1), (by show 0 ≤ (I 0 2).toInt ∧ (I 0 2).toInt ≤ 200; exact hma.2.2)⟩, z_fr_0, (Or.inr ⟨by omega, by decide, (by show (I 0 1).toInt = (I 0 1).toInt; omega)⟩)⟩
      · have h52 := h11
        have z53 := z_l1
        have z54 := z_l8
        refine lv_if_eq (tgt := 62) hx hb dX12_holder_27 (by decide) (fun c55 => ?_) (fun c55 => absurd (by decide) c55)
        refine lv_iconst (v := (-1)) hx hb dX12_holder_62 (by decide) ?_
        exact z_iret hx hb hr hK hS (Nat.le_of_ble_eq_true rfl) (Nat.le_of_ble_eq_true rfl) hlocks dX12_holder_63 (shM, ad, I, J, PM ad) hW ⟨I, J, rfl, ⟨(by show 0 ≤ (I 0 0).toInt ∧ (I 0 0).toInt ≤ 719; exact hma.1), (by show 0 ≤ (I 0 1).toInt ∧ (I 0 1).toInt ≤ 30; exact hma.2.1), (by show 0 ≤ (I 0 2).toInt ∧ (I 0 2).toInt ≤ 200; exact hma.2.2)⟩, z_fr_0, (Or.inr ⟨by omega, by decide, (by show (I 0 1).toInt = (I 0 1).toInt; omega)⟩)⟩
    · have h56 := h6
      have z57 := z_l0
      have z58 := z_l9
      refine lv_if_eq (tgt := 62) hx hb dX12_holder_17 (by decide) (fun c59 => ?_) (fun c59 => absurd (by decide) c59)
      refine lv_iconst (v := (-1)) hx hb dX12_holder_62 (by decide) ?_
      exact z_iret hx hb hr hK hS (Nat.le_of_ble_eq_true rfl) (Nat.le_of_ble_eq_true rfl) hlocks dX12_holder_63 (shM, ad, I, J, PM ad) hW ⟨I, J, rfl, ⟨(by show 0 ≤ (I 0 0).toInt ∧ (I 0 0).toInt ≤ 719; exact hma.1), (by show 0 ≤ (I 0 1).toInt ∧ (I 0 1).toInt ≤ 30; exact hma.2.1), (by show 0 ≤ (I 0 2).toInt ∧ (I 0 2).toInt ≤ 200; exact hma.2.2)⟩, z_fr_0, (Or.inr ⟨by omega, by decide, (by show (I 0 1).toInt = (I 0 1).toInt; omega)⟩)⟩
  · have h60 := h1
    have z61 := z_l1
    have z62 := z_l9
    refine lv_if_eq (tgt := 62) hx hb dX12_holder_7 (by decide) (fun c63 => ?_) (fun c63 => absurd (by decide) c63)
    refine lv_iconst (v := (-1)) hx hb dX12_holder_62 (by decide) ?_
    exact z_iret hx hb hr hK hS (Nat.le_of_ble_eq_true rfl) (Nat.le_of_ble_eq_true rfl) hlocks dX12_holder_63 (shM, ad, I, J, PM ad) hW ⟨I, J, rfl, ⟨(by show 0 ≤ (I 0 0).toInt ∧ (I 0 0).toInt ≤ 719; exact hma.1), (by show 0 ≤ (I 0 1).toInt ∧ (I 0 1).toInt ≤ 30; exact hma.2.1), (by show 0 ≤ (I 0 2).toInt ∧ (I 0 2).toInt ≤ 200; exact hma.2.2)⟩, z_fr_0, (Or.inr ⟨by omega, by decide, (by show (I 0 1).toInt = (I 0 1).toInt; omega)⟩)⟩
noncomputable def L_X12_station_e : z_L := [(0, 54)]
set_option maxHeartbeats 8000000 in
set_option maxRecDepth 100000 in
theorem sx_X12_station_e (l : Launch) (G : z_G) (ad : Nat → Nat) (I : z_I) (J : z_J) (hms : z_ims I) : z_M l yX12_station wsX12_station { frames := 1, cells := 0, slots := 0, locals := 12 } [.ref (ad 0)] G (shM, ad, I, J, PM ad) (fun r u1 => ∃ (I1 : z_I) (J1 : z_J), u1 = (shM, ad, I1, J1, PM ad) ∧ z_ims I1 ∧ z_fr L_X12_station_e I1 I ∧ ((((I 0 54).toInt < 10) ∧ r.toInt = (I 0 54).toInt ∧ (I1 0 54).toInt = (I 0 54).toInt + 1) ∨ (¬ ((I 0 54).toInt < 10) ∧ r.toInt = -1 ∧ (I1 0 54).toInt = (I 0 54).toInt))) 0 0 := by
  intro sz
  refine z_headQ (cc := cX12_station) (maxL := 1) (ret := (some .int)) (by decide) rfl (Nat.le_of_ble_eq_true rfl) ?_
  intro p e s m below meth c0 ls hIn hK hsz hW hl
  obtain ⟨hx, hb, hr, hml, hown, hts, hlocks, hname⟩ := hIn
  subst hsz
  have hown : s.vm.findClass RX12 = some m.cls := hown
  have hA : ∀ q : Nat, s.heap.size ≤ q → z_A (shM, ad, I, J, PM ad) s.heap.size q := fun q h => Or.inr h
  generalize hAe : z_A (shM, ad, I, J, PM ad) s.heap.size = A at *
  have hS : va_S A s.heap s.heap [] := va_S.rf
  have hl : lv_has ls 1 [(0, .ref (ad 0))] := hl
  refine lv_aload_n hx hb dX12_station_0 rfl (lv_at hl 0 rfl) ?_
  have r1 : 0 ≤ (I 0 54).toInt ∧ (I 0 54).toInt ≤ 10 := hms.1
  refine z_get (T := TX12) (N := 96) (ci := 12) (i := 0) (v := .int (I 0 54)) hx hb hts zj_X12_station_X12 hown hK hW rfl rfl 54 (by decide) (hts (.fieldLink RX12 461 "PetrolBoardModel" "stations" "I") (me_s (me_l (List.mem_of_getElem? (i := 0) rfl)))) (fun _ h => h) rfl dX12_station_1 ?_
  refine lv_bipush (v := 10) hx hb dX12_station_4 (by decide) ?_
  refine lv_icmp_ne (tgt := 11) hx hb dX12_station_6 (by decide) (fun c2 => ?_) (fun c2 => ?_)
  · have g3 := z_f_ne rfl z_l10 c2
    refine lv_aload_n hx hb dX12_station_11 rfl (lv_at hl 0 rfl) ?_
    refine lv_dup hx hb dX12_station_12 rfl ?_
    refine z_get (T := TX12) (N := 96) (ci := 12) (i := 0) (v := .int (I 0 54)) hx hb hts zj_X12_station_X12 hown hK hW rfl rfl 54 (by decide) (hts (.fieldLink RX12 461 "PetrolBoardModel" "stations" "I") (me_s (me_l (List.mem_of_getElem? (i := 0) rfl)))) (fun _ h => h) rfl dX12_station_13 ?_
    refine lv_iconst (v := 1) hx hb dX12_station_16 (by decide) ?_
    refine lv_iadd hx hb dX12_station_17 ?_
    refine lv_topi (fun x4 ex4 => ?_)
    have tx4 : x4.toInt = (I 0 54).toInt + 1 := z_tadd ex4 rfl z_l1 (by omega) (by omega)
    refine z_put (T := TX12) (N := 96) (ci := 12) (i := 0) (v := .int x4) (I1 := z_up I 0 54 x4) (J1 := J) (P1 := PM ad) hx hb hts zj_X12_station_X12 tyX12 tyX12_ok nmX12 hown hK hW hS rfl rfl 54 (by decide) (hts (.fieldLink RX12 461 "PetrolBoardModel" "stations" "I") (me_s (me_l (List.mem_of_getElem? (i := 0) rfl)))) (fun _ h => h) rfl rfl rfl (by first | rfl | exact congrArg _ z_up_s) (fun a b h ty => z_vI h ty) dX12_station_18 (fun H locs hz1 hW hS => ?_)
    obtain ⟨I5, eI5⟩ : ∃ K : z_I, K = z_up I 0 54 x4 := ⟨_, rfl⟩
    rw [← eI5] at hW
    have f6 := z_fr_k z_fr_0 (show z_wr L_X12_station_e 0 54 = true by decide) eI5
    refine lv_aload_n hx hb dX12_station_21 rfl (lv_at hl 0 rfl) ?_
    refine z_get (T := TX12) (N := 96) (ci := 12) (i := 0) (v := .int x4) hx hb hts zj_X12_station_X12 hown hK hW rfl rfl 54 (by decide) (hts (.fieldLink RX12 461 "PetrolBoardModel" "stations" "I") (me_s (me_l (List.mem_of_getElem? (i := 0) rfl)))) (fun _ h => h) (congrArg Value.int (by rw [eI5, z_up_s])) dX12_station_22 ?_
    refine lv_iconst (v := 1) hx hb dX12_station_25 (by decide) ?_
    refine lv_isub hx hb dX12_station_26 ?_
    refine lv_topi (fun x7 ex7 => ?_)
    have tx7 : x7.toInt = x4.toInt - 1 := z_tsub ex7 rfl z_l1 (by omega) (by omega)
    exact z_iret hx hb hr hK hS (Nat.le_of_ble_eq_true rfl) (Nat.le_of_ble_eq_true rfl) hlocks dX12_station_27 (shM, ad, I5, J, PM ad) hW ⟨I5, J, rfl, ⟨(by show 0 ≤ (I5 0 54).toInt ∧ (I5 0 54).toInt ≤ 10; rw [eI5, z_up_s]; omega), (by show 0 ≤ (I5 0 55).toInt ∧ (I5 0 55).toInt ≤ 300; rw [eI5, z_up_k (by decide)]; exact hms.2)⟩, f6, (Or.inl ⟨by omega, by omega, (by have q9 : (I5 0 54) = x4 := (by rw [eI5, z_up_s]); show (I5 0 54).toInt = (I 0 54).toInt + 1; rw [q9]; first | done | omega)⟩)⟩
  · have g8 := z_f_eq rfl z_l10 c2
    refine lv_iconst (v := (-1)) hx hb dX12_station_9 (by decide) ?_
    exact z_iret hx hb hr hK hS (Nat.le_of_ble_eq_true rfl) (Nat.le_of_ble_eq_true rfl) hlocks dX12_station_10 (shM, ad, I, J, PM ad) hW ⟨I, J, rfl, ⟨(by show 0 ≤ (I 0 54).toInt ∧ (I 0 54).toInt ≤ 10; exact hms.1), (by show 0 ≤ (I 0 55).toInt ∧ (I 0 55).toInt ≤ 300; exact hms.2)⟩, z_fr_0, (Or.inr ⟨by omega, by decide, (by show (I 0 54).toInt = (I 0 54).toInt; omega)⟩)⟩
noncomputable def L_X12_pour_e : z_L := [(34, 999), (35, 999), (36, 999), (37, 999), (38, 999), (39, 999), (40, 999), (42, 999), (41, 999), (0, 56), (0, 55)]
set_option maxHeartbeats 8000000 in
set_option maxRecDepth 100000 in
theorem sx_X12_pour_e (l : Launch) (G : z_G) (ad : Nat → Nat) (I : z_I) (J : z_J) (hma : z_ima I) (hms : z_ims I) (hApc : z_rg 36 0 99999 I) (hmb : z_imb I) (hAtf : z_rg 11 0 288 I) (hAtm : z_rg 12 0 24 I) (a1 : Int32) (a2 : Int32) (a3 : Int32) : z_M l yX12_pour wsX12_pour { frames := 3, cells := 0, slots := 0, locals := 62 } [.ref (ad 0), .int a1, .int a2, .int a3] G (shM, ad, I, J, PM ad) (fun r u1 => ∃ (I1 : z_I) (J1 : z_J), u1 = (shM, ad, I1, J1, PM ad) ∧ z_ima I1 ∧ z_ims I1 ∧ z_rg 36 0 99999 I1 ∧ z_imb I1 ∧ z_rg 11 0 288 I1 ∧ z_rg 12 0 24 I1 ∧ z_fr L_X12_pour_e I1 I ∧ (((0 ≤ a1.toInt ∧ a1.toInt < (I 0 54).toInt ∧ 0 ≤ a2.toInt ∧ a2.toInt < (I 0 1).toInt ∧ 0 ≤ a3.toInt ∧ a3.toInt ≤ 99999 ∧ (I 0 55).toInt < 300) ∧ r.toInt = (I 0 55).toInt ∧ (I1 0 55).toInt = (I 0 55).toInt + 1) ∨ (¬ (0 ≤ a1.toInt ∧ a1.toInt < (I 0 54).toInt ∧ 0 ≤ a2.toInt ∧ a2.toInt < (I 0 1).toInt ∧ 0 ≤ a3.toInt ∧ a3.toInt ≤ 99999 ∧ (I 0 55).toInt < 300) ∧ r.toInt = -1 ∧ (I1 0 55).toInt = (I 0 55).toInt))) 0 0 := by
  intro sz
  refine z_headQ (cc := cX12_pour) (maxL := 4) (ret := (some .int)) (by decide) rfl (Nat.le_of_ble_eq_true rfl) ?_
  intro p e s m below meth c0 ls hIn hK hsz hW hl
  obtain ⟨hx, hb, hr, hml, hown, hts, hlocks, hname⟩ := hIn
  subst hsz
  have hown : s.vm.findClass RX12 = some m.cls := hown
  have hA : ∀ q : Nat, s.heap.size ≤ q → z_A (shM, ad, I, J, PM ad) s.heap.size q := fun q h => Or.inr h
  generalize hAe : z_A (shM, ad, I, J, PM ad) s.heap.size = A at *
  have hS : va_S A s.heap s.heap [] := va_S.rf
  have hl : lv_has ls 4 [(0, .ref (ad 0)), (1, .int a1), (2, .int a2), (3, .int a3)] := hl
  refine lv_aload_n hx hb dX12_pour_0 rfl (lv_at hl 0 rfl) ?_
  refine lv_iload_n hx hb dX12_pour_1 rfl (lv_at hl 1 rfl) ?_
  refine z_ci hW hS hA (va_runV (As := [.int a1]) (rest := []) ⟨hx, hb, hml, hown, hts⟩ (sx_X12_isStation_e l G ad I J ⟨(by show 0 ≤ (I 0 54).toInt ∧ (I 0 54).toInt ≤ 10; exact hms.1), (by show 0 ≤ (I 0 55).toInt ∧ (I 0 55).toInt ≤ 300; exact hms.2)⟩ a1 _) (cwV 1 hts gX12_pour_X12_isStation rfl rfl rfl hy_X12_isStation ⟨Nat.le_of_ble_eq_true rfl, Nat.le_of_ble_eq_true rfl⟩) (z_preV (i := 0) hK hW rfl rfl) rfl rfl hl.1 rfl (lv_room (Nat.le_of_ble_eq_true rfl)) dX12_pour_2 ⟨Nat.le_of_ble_eq_true rfl, Nat.le_of_ble_eq_true rfl⟩) (fun r u1 H locs hp hW hS => ?_)
  obtain ⟨e9, hp⟩ := hp
  rw [e9] at hW
  rcases hp with ⟨rfl, h1⟩ | ⟨rfl, h1⟩
  · have h2 := h1
    have r3 : 0 ≤ (I 0 54).toInt ∧ (I 0 54).toInt ≤ 10 := hms.1
    refine lv_if_eq (tgt := 37) hx hb dX12_pour_5 (by decide) (fun c4 => absurd c4 (by decide)) (fun c4 => ?_)
    refine lv_aload_n hx hb dX12_pour_8 rfl (lv_at hl 0 rfl) ?_
    refine lv_iload_n hx hb dX12_pour_9 rfl (lv_at hl 2 rfl) ?_
    refine z_ci hW hS hA (va_runV (As := [.int a2]) (rest := []) ⟨hx, hb, hml, hown, hts⟩ (sx_X12_isHolder_e l G ad I J ⟨(by show 0 ≤ (I 0 0).toInt ∧ (I 0 0).toInt ≤ 719; exact hma.1), (by show 0 ≤ (I 0 1).toInt ∧ (I 0 1).toInt ≤ 30; exact hma.2.1), (by show 0 ≤ (I 0 2).toInt ∧ (I 0 2).toInt ≤ 200; exact hma.2.2)⟩ a2 _) (cwV 1 hts gX12_pour_X12_isHolder rfl rfl rfl hy_X12_isHolder ⟨Nat.le_of_ble_eq_true rfl, Nat.le_of_ble_eq_true rfl⟩) (z_preV (i := 0) hK hW rfl rfl) rfl rfl hl.1 rfl (lv_room (Nat.le_of_ble_eq_true rfl)) dX12_pour_10 ⟨Nat.le_of_ble_eq_true rfl, Nat.le_of_ble_eq_true rfl⟩) (fun r u1 H locs hp hW hS => ?_)
    obtain ⟨e9, hp⟩ := hp
    rw [e9] at hW
    rcases hp with ⟨rfl, h5⟩ | ⟨rfl, h5⟩
    · have h6 := h5
      have r7 : 0 ≤ (I 0 1).toInt ∧ (I 0 1).toInt ≤ 30 := hma.2.1
      refine lv_if_eq (tgt := 37) hx hb dX12_pour_13 (by decide) (fun c8 => absurd c8 (by decide)) (fun c8 => ?_)
      refine lv_iload_n hx hb dX12_pour_16 rfl (lv_at hl 3 rfl) ?_
      refine lv_iconst (v := 0) hx hb dX12_pour_17 (by decide) ?_
      refine lv_ldcw (v := 99999) hx hb hown (hts (.constant RX12 467 (99999)) (me_s (me_l (me_l (List.mem_of_getElem? (i := 0) rfl))))) dX12_pour_18 ?_
      refine z_ci hW hS hA (va_runS (As := [.int a3, .int 0, .int 99999]) (rest := []) ⟨hx, hb, hml, hown, hts⟩ (sx_X12_within_e l G ad I J  a3 0 99999 _) (va_cwS 3 hts gX12_pour_X12_within rfl rfl rfl hy_X12_within.2 ⟨Nat.le_of_ble_eq_true rfl, Nat.le_of_ble_eq_true rfl⟩) (z_preS hK hW) rfl rfl hl.1 rfl (lv_room (Nat.le_of_ble_eq_true rfl)) dX12_pour_21 ⟨Nat.le_of_ble_eq_true rfl, Nat.le_of_ble_eq_true rfl⟩) (fun r u1 H locs hp hW hS => ?_)
      obtain ⟨e9, hp⟩ := hp
      rw [e9] at hW
      rcases hp with ⟨rfl, h9⟩ | ⟨rfl, h9⟩
      · have h11 := h9
        have z12 := z_l0
        have z13 := z_l99999
        refine lv_if_eq (tgt := 37) hx hb dX12_pour_24 (by decide) (fun c14 => absurd c14 (by decide)) (fun c14 => ?_)
        refine lv_aload_n hx hb dX12_pour_27 rfl (lv_at hl 0 rfl) ?_
        have r15 : 0 ≤ (I 0 55).toInt ∧ (I 0 55).toInt ≤ 300 := hms.2
        refine z_get (T := TX12) (N := 96) (ci := 12) (i := 0) (v := .int (I 0 55)) hx hb hts zj_X12_pour_X12 hown hK hW rfl rfl 55 (by decide) (hts (.fieldLink RX12 468 "PetrolBoardModel" "pours" "I") (me_s (me_l (me_l (List.mem_of_getElem? (i := 1) rfl))))) (fun _ h => h) rfl dX12_pour_28 ?_
        refine lv_sipush (v := 300) hx hb dX12_pour_31 (by decide) ?_
        refine lv_icmp_ne (tgt := 39) hx hb dX12_pour_34 (by decide) (fun c16 => ?_) (fun c16 => ?_)
        · have g17 := z_f_ne rfl z_l300 c16
          refine lv_aload_n hx hb dX12_pour_39 rfl (lv_at hl 0 rfl) ?_
          refine z_get (T := TX12) (N := 96) (ci := 12) (i := 0) (v := .ref (ad 34)) hx hb hts zj_X12_pour_X12 hown hK hW rfl rfl 57 (by decide) (hts (.fieldLink RX12 118 "PetrolBoardModel" "pourAt" "[I") (me_s (me_l (me_l (List.mem_of_getElem? (i := 2) rfl))))) (fun _ h => h) rfl dX12_pour_40 ?_
          refine lv_aload_n hx hb dX12_pour_43 rfl (lv_at hl 0 rfl) ?_
          refine z_get (T := TX12) (N := 96) (ci := 12) (i := 0) (v := .int (I 0 55)) hx hb hts zj_X12_pour_X12 hown hK hW rfl rfl 55 (by decide) (hts (.fieldLink RX12 468 "PetrolBoardModel" "pours" "I") (me_s (me_l (me_l (List.mem_of_getElem? (i := 1) rfl))))) (fun _ h => h) rfl dX12_pour_44 ?_
          refine lv_iload_n hx hb dX12_pour_47 rfl (lv_at hl 1 rfl) ?_
          refine z_iast (i := 34) hx hb hK hW hS rfl (z_ix rfl (by omega) (by omega)) dX12_pour_48 (fun H locs hz1 hW hS => ?_)
          obtain ⟨I18, eI18⟩ : ∃ K : z_I, K = z_up I 34 (I 0 55).toNatClampNeg a1 := ⟨_, rfl⟩
          rw [← eI18] at hW
          have f19 := z_fr_a z_fr_0 (show z_wa L_X12_pour_e 34 = true by decide) eI18
          have a20 := z_rg_n hApc (by decide) eI18
          have a21 := z_rg_n hAtf (by decide) eI18
          have a22 := z_rg_n hAtm (by decide) eI18
          refine lv_aload_n hx hb dX12_pour_49 rfl (lv_at hl 0 rfl) ?_
          refine z_get (T := TX12) (N := 96) (ci := 12) (i := 0) (v := .ref (ad 35)) hx hb hts zj_X12_pour_X12 hown hK hW rfl rfl 58 (by decide) (hts (.fieldLink RX12 121 "PetrolBoardModel" "pourWho" "[I") (me_s (me_l (me_l (List.mem_of_getElem? (i := 3) rfl))))) (fun _ h => h) rfl dX12_pour_50 ?_
          refine lv_aload_n hx hb dX12_pour_53 rfl (lv_at hl 0 rfl) ?_
          refine z_get (T := TX12) (N := 96) (ci := 12) (i := 0) (v := .int (I 0 55)) hx hb hts zj_X12_pour_X12 hown hK hW rfl rfl 55 (by decide) (hts (.fieldLink RX12 468 "PetrolBoardModel" "pours" "I") (me_s (me_l (me_l (List.mem_of_getElem? (i := 1) rfl))))) (fun _ h => h) (congrArg Value.int (by rw [eI18, z_up_n (by decide)])) dX12_pour_54 ?_
          refine lv_iload_n hx hb dX12_pour_57 rfl (lv_at hl 2 rfl) ?_
          refine z_iast (i := 35) hx hb hK hW hS rfl (z_ix rfl (by omega) (by omega)) dX12_pour_58 (fun H locs hz1 hW hS => ?_)
          obtain ⟨I23, eI23⟩ : ∃ K : z_I, K = z_up I18 35 (I 0 55).toNatClampNeg a2 := ⟨_, rfl⟩
          rw [← eI23] at hW
          have f24 := z_fr_a f19 (show z_wa L_X12_pour_e 35 = true by decide) eI23
          have a25 := z_rg_n a20 (by decide) eI23
          have a26 := z_rg_n a21 (by decide) eI23
          have a27 := z_rg_n a22 (by decide) eI23
          refine lv_aload_n hx hb dX12_pour_59 rfl (lv_at hl 0 rfl) ?_
          refine z_get (T := TX12) (N := 96) (ci := 12) (i := 0) (v := .ref (ad 36)) hx hb hts zj_X12_pour_X12 hown hK hW rfl rfl 59 (by decide) (hts (.fieldLink RX12 124 "PetrolBoardModel" "pourCoupon" "[I") (me_s (me_l (me_l (List.mem_of_getElem? (i := 4) rfl))))) (fun _ h => h) rfl dX12_pour_60 ?_
          refine lv_aload_n hx hb dX12_pour_63 rfl (lv_at hl 0 rfl) ?_
          refine z_get (T := TX12) (N := 96) (ci := 12) (i := 0) (v := .int (I 0 55)) hx hb hts zj_X12_pour_X12 hown hK hW rfl rfl 55 (by decide) (hts (.fieldLink RX12 468 "PetrolBoardModel" "pours" "I") (me_s (me_l (me_l (List.mem_of_getElem? (i := 1) rfl))))) (fun _ h => h) (congrArg Value.int (by rw [eI23, z_up_n (by decide), eI18, z_up_n (by decide)])) dX12_pour_64 ?_
          refine lv_iload_n hx hb dX12_pour_67 rfl (lv_at hl 3 rfl) ?_
          refine z_iast (i := 36) hx hb hK hW hS rfl (z_ix rfl (by omega) (by omega)) dX12_pour_68 (fun H locs hz1 hW hS => ?_)
          obtain ⟨I28, eI28⟩ : ∃ K : z_I, K = z_up I23 36 (I 0 55).toNatClampNeg a3 := ⟨_, rfl⟩
          rw [← eI28] at hW
          have f29 := z_fr_a f24 (show z_wa L_X12_pour_e 36 = true by decide) eI28
          have a30 := z_rg_a a25 (by omega) eI28
          have a31 := z_rg_n a26 (by decide) eI28
          have a32 := z_rg_n a27 (by decide) eI28
          refine lv_aload_n hx hb dX12_pour_69 rfl (lv_at hl 0 rfl) ?_
          refine z_get (T := TX12) (N := 96) (ci := 12) (i := 0) (v := .ref (ad 37)) hx hb hts zj_X12_pour_X12 hown hK hW rfl rfl 60 (by decide) (hts (.fieldLink RX12 127 "PetrolBoardModel" "pourDay" "[I") (me_s (me_l (me_l (List.mem_of_getElem? (i := 5) rfl))))) (fun _ h => h) rfl dX12_pour_70 ?_
          refine lv_aload_n hx hb dX12_pour_73 rfl (lv_at hl 0 rfl) ?_
          refine z_get (T := TX12) (N := 96) (ci := 12) (i := 0) (v := .int (I 0 55)) hx hb hts zj_X12_pour_X12 hown hK hW rfl rfl 55 (by decide) (hts (.fieldLink RX12 468 "PetrolBoardModel" "pours" "I") (me_s (me_l (me_l (List.mem_of_getElem? (i := 1) rfl))))) (fun _ h => h) (congrArg Value.int (by rw [eI28, z_up_n (by decide), eI23, z_up_n (by decide), eI18, z_up_n (by decide)])) dX12_pour_74 ?_
          refine lv_aload_n hx hb dX12_pour_77 rfl (lv_at hl 0 rfl) ?_
          have r33 : 0 ≤ (I 0 0).toInt ∧ (I 0 0).toInt ≤ 719 := hma.1
          refine z_get (T := TX12) (N := 96) (ci := 12) (i := 0) (v := .int (I 0 0)) hx hb hts zj_X12_pour_X12 hown hK hW rfl rfl 0 (by decide) (hts (.fieldLink RX12 232 "PetrolBoardModel" "today" "I") (me_s (me_l (me_l (List.mem_of_getElem? (i := 6) rfl))))) (fun _ h => h) (congrArg Value.int (by rw [eI28, z_up_n (by decide), eI23, z_up_n (by decide), eI18, z_up_n (by decide)])) dX12_pour_78 ?_
          refine z_iast (i := 37) hx hb hK hW hS rfl (z_ix rfl (by omega) (by omega)) dX12_pour_81 (fun H locs hz1 hW hS => ?_)
          obtain ⟨I34, eI34⟩ : ∃ K : z_I, K = z_up I28 37 (I 0 55).toNatClampNeg (I 0 0) := ⟨_, rfl⟩
          rw [← eI34] at hW
          have f35 := z_fr_a f29 (show z_wa L_X12_pour_e 37 = true by decide) eI34
          have a36 := z_rg_n a30 (by decide) eI34
          have a37 := z_rg_n a31 (by decide) eI34
          have a38 := z_rg_n a32 (by decide) eI34
          refine lv_aload_n hx hb dX12_pour_82 rfl (lv_at hl 0 rfl) ?_
          refine z_get (T := TX12) (N := 96) (ci := 12) (i := 0) (v := .ref (ad 38)) hx hb hts zj_X12_pour_X12 hown hK hW rfl rfl 61 (by decide) (hts (.fieldLink RX12 130 "PetrolBoardModel" "pourTenths" "[I") (me_s (me_l (me_l (List.mem_of_getElem? (i := 7) rfl))))) (fun _ h => h) rfl dX12_pour_83 ?_
          refine lv_aload_n hx hb dX12_pour_86 rfl (lv_at hl 0 rfl) ?_
          refine z_get (T := TX12) (N := 96) (ci := 12) (i := 0) (v := .int (I 0 55)) hx hb hts zj_X12_pour_X12 hown hK hW rfl rfl 55 (by decide) (hts (.fieldLink RX12 468 "PetrolBoardModel" "pours" "I") (me_s (me_l (me_l (List.mem_of_getElem? (i := 1) rfl))))) (fun _ h => h) (congrArg Value.int (by rw [eI34, z_up_n (by decide), eI28, z_up_n (by decide), eI23, z_up_n (by decide), eI18, z_up_n (by decide)])) dX12_pour_87 ?_
          refine lv_aload_n hx hb dX12_pour_90 rfl (lv_at hl 0 rfl) ?_
          refine lv_aload_n hx hb dX12_pour_91 rfl (lv_at hl 0 rfl) ?_
          refine z_get (T := TX12) (N := 96) (ci := 12) (i := 0) (v := .int (I 0 0)) hx hb hts zj_X12_pour_X12 hown hK hW rfl rfl 0 (by decide) (hts (.fieldLink RX12 232 "PetrolBoardModel" "today" "I") (me_s (me_l (me_l (List.mem_of_getElem? (i := 6) rfl))))) (fun _ h => h) (congrArg Value.int (by rw [eI34, z_up_n (by decide), eI28, z_up_n (by decide), eI23, z_up_n (by decide), eI18, z_up_n (by decide)])) dX12_pour_92 ?_
          refine lv_bipush (v := 30) hx hb dX12_pour_95 (by decide) ?_
          refine lv_idiv hx hb dX12_pour_97 (by decide) ?_
          refine lv_topi (fun x39 ex39 => ?_)
          have tx39 := z_tdiv ex39 rfl z_l30 (by decide)
          refine lv_aload_n hx hb dX12_pour_98 rfl (lv_at hl 0 rfl) ?_
          refine z_get (T := TX12) (N := 96) (ci := 12) (i := 0) (v := .int (I 0 0)) hx hb hts zj_X12_pour_X12 hown hK hW rfl rfl 0 (by decide) (hts (.fieldLink RX12 232 "PetrolBoardModel" "today" "I") (me_s (me_l (me_l (List.mem_of_getElem? (i := 6) rfl))))) (fun _ h => h) (congrArg Value.int (by rw [eI34, z_up_n (by decide), eI28, z_up_n (by decide), eI23, z_up_n (by decide), eI18, z_up_n (by decide)])) dX12_pour_99 ?_
          refine lv_iconst (v := 3) hx hb dX12_pour_102 (by decide) ?_
          refine z_ci hW hS hA (va_runV (As := [.int x39, .int (I 0 0), .int 3]) (rest := [.int (I 0 55), .ref (ad 38)]) ⟨hx, hb, hml, hown, hts⟩ (sx_X12_number l G ad I34 J ⟨(by show 0 ≤ (I34 0 13).toInt ∧ (I34 0 13).toInt ≤ 12; rw [eI34, z_up_n (by decide), eI28, z_up_n (by decide), eI23, z_up_n (by decide), eI18, z_up_n (by decide)]; exact hmb.1), (by show 0 ≤ (I34 0 14).toInt ∧ (I34 0 14).toInt ≤ 288; rw [eI34, z_up_n (by decide), eI28, z_up_n (by decide), eI23, z_up_n (by decide), eI18, z_up_n (by decide)]; exact hmb.2)⟩ a37 a38 x39 (I 0 0) 3 _) (cwV 3 hts gX12_pour_X12_number rfl rfl rfl hy_X12_number ⟨Nat.le_of_ble_eq_true rfl, Nat.le_of_ble_eq_true rfl⟩) (z_preV (i := 0) hK hW rfl rfl) rfl rfl hl.1 rfl (lv_room (Nat.le_of_ble_eq_true rfl)) dX12_pour_103 ⟨Nat.le_of_ble_eq_true rfl, Nat.le_of_ble_eq_true rfl⟩) (fun r u1 H locs hp hW hS => ?_)
          rw [hp] at hW
          refine lv_topi (fun x40 ex40 => ?_)
          refine z_iast (i := 38) hx hb hK hW hS rfl (z_ix rfl (by omega) (by omega)) dX12_pour_106 (fun H locs hz1 hW hS => ?_)
          obtain ⟨I41, eI41⟩ : ∃ K : z_I, K = z_up I34 38 (I 0 55).toNatClampNeg x40 := ⟨_, rfl⟩
          rw [← eI41] at hW
          have f42 := z_fr_a f35 (show z_wa L_X12_pour_e 38 = true by decide) eI41
          have a43 := z_rg_n a36 (by decide) eI41
          have a44 := z_rg_n a37 (by decide) eI41
          have a45 := z_rg_n a38 (by decide) eI41
          refine lv_aload_n hx hb dX12_pour_107 rfl (lv_at hl 0 rfl) ?_
          refine z_get (T := TX12) (N := 96) (ci := 12) (i := 0) (v := .ref (ad 39)) hx hb hts zj_X12_pour_X12 hown hK hW rfl rfl 62 (by decide) (hts (.fieldLink RX12 133 "PetrolBoardModel" "pourOwner" "[I") (me_s (me_l (me_l (List.mem_of_getElem? (i := 8) rfl))))) (fun _ h => h) rfl dX12_pour_108 ?_
          refine lv_aload_n hx hb dX12_pour_111 rfl (lv_at hl 0 rfl) ?_
          refine z_get (T := TX12) (N := 96) (ci := 12) (i := 0) (v := .int (I 0 55)) hx hb hts zj_X12_pour_X12 hown hK hW rfl rfl 55 (by decide) (hts (.fieldLink RX12 468 "PetrolBoardModel" "pours" "I") (me_s (me_l (me_l (List.mem_of_getElem? (i := 1) rfl))))) (fun _ h => h) (congrArg Value.int (by rw [eI41, z_up_n (by decide), eI34, z_up_n (by decide), eI28, z_up_n (by decide), eI23, z_up_n (by decide), eI18, z_up_n (by decide)])) dX12_pour_112 ?_
          refine lv_aload_n hx hb dX12_pour_115 rfl (lv_at hl 0 rfl) ?_
          refine lv_iload_n hx hb dX12_pour_116 rfl (lv_at hl 3 rfl) ?_
          refine z_ci hW hS hA (va_runV (As := [.int a3]) (rest := [.int (I 0 55), .ref (ad 39)]) ⟨hx, hb, hml, hown, hts⟩ (sx_X12_isCoupon l G ad I41 J  a3 _) (cwV 1 hts gX12_pour_X12_isCoupon rfl rfl rfl hy_X12_isCoupon ⟨Nat.le_of_ble_eq_true rfl, Nat.le_of_ble_eq_true rfl⟩) (z_preV (i := 0) hK hW rfl rfl) rfl rfl hl.1 rfl (lv_room (Nat.le_of_ble_eq_true rfl)) dX12_pour_117 ⟨Nat.le_of_ble_eq_true rfl, Nat.le_of_ble_eq_true rfl⟩) (fun r u1 H locs hp hW hS => ?_)
          obtain ⟨e9, hp⟩ := hp
          rw [e9] at hW
          rcases hp with ⟨rfl, h46, h47⟩ | rfl
          · refine lv_if_eq (tgt := 131) hx hb dX12_pour_120 (by decide) (fun c48 => absurd c48 (by decide)) (fun c48 => ?_)
            refine lv_aload_n hx hb dX12_pour_123 rfl (lv_at hl 0 rfl) ?_
            refine lv_iload_n hx hb dX12_pour_124 rfl (lv_at hl 3 rfl) ?_
            refine z_ci hW hS hA (va_runV (As := [.int a3]) (rest := [.int (I 0 55), .ref (ad 39)]) ⟨hx, hb, hml, hown, hts⟩ (sx_X12_heldBy l G ad I41 J a3 (by omega) _) (cwV 1 hts gX12_pour_X12_heldBy rfl rfl rfl hy_X12_heldBy ⟨Nat.le_of_ble_eq_true rfl, Nat.le_of_ble_eq_true rfl⟩) (z_preV (i := 0) hK hW rfl rfl) rfl rfl hl.1 rfl (lv_room (Nat.le_of_ble_eq_true rfl)) dX12_pour_125 ⟨Nat.le_of_ble_eq_true rfl, Nat.le_of_ble_eq_true rfl⟩) (fun r u1 H locs hp hW hS => ?_)
            rw [hp] at hW
            refine lv_topi (fun x49 ex49 => ?_)
            refine lv_goto (tgt := 132) hx hb dX12_pour_128 (by decide) ?_
            refine z_iast (i := 39) hx hb hK hW hS rfl (z_ix rfl (by omega) (by omega)) dX12_pour_132 (fun H locs hz1 hW hS => ?_)
            obtain ⟨I50, eI50⟩ : ∃ K : z_I, K = z_up I41 39 (I 0 55).toNatClampNeg x49 := ⟨_, rfl⟩
            rw [← eI50] at hW
            have f51 := z_fr_a f42 (show z_wa L_X12_pour_e 39 = true by decide) eI50
            have a52 := z_rg_n a43 (by decide) eI50
            have a53 := z_rg_n a44 (by decide) eI50
            have a54 := z_rg_n a45 (by decide) eI50
            refine lv_aload_n hx hb dX12_pour_133 rfl (lv_at hl 0 rfl) ?_
            refine z_get (T := TX12) (N := 96) (ci := 12) (i := 0) (v := .ref (ad 40)) hx hb hts zj_X12_pour_X12 hown hK hW rfl rfl 63 (by decide) (hts (.fieldLink RX12 136 "PetrolBoardModel" "pourJudged" "[I") (me_s (me_l (me_l (List.mem_of_getElem? (i := 9) rfl))))) (fun _ h => h) rfl dX12_pour_134 ?_
            refine lv_aload_n hx hb dX12_pour_137 rfl (lv_at hl 0 rfl) ?_
            refine z_get (T := TX12) (N := 96) (ci := 12) (i := 0) (v := .int (I 0 55)) hx hb hts zj_X12_pour_X12 hown hK hW rfl rfl 55 (by decide) (hts (.fieldLink RX12 468 "PetrolBoardModel" "pours" "I") (me_s (me_l (me_l (List.mem_of_getElem? (i := 1) rfl))))) (fun _ h => h) (congrArg Value.int (by rw [eI50, z_up_n (by decide), eI41, z_up_n (by decide), eI34, z_up_n (by decide), eI28, z_up_n (by decide), eI23, z_up_n (by decide), eI18, z_up_n (by decide)])) dX12_pour_138 ?_
            refine lv_iconst (v := (-1)) hx hb dX12_pour_141 (by decide) ?_
            refine z_iast (i := 40) hx hb hK hW hS rfl (z_ix rfl (by omega) (by omega)) dX12_pour_142 (fun H locs hz1 hW hS => ?_)
            obtain ⟨I55, eI55⟩ : ∃ K : z_I, K = z_up I50 40 (I 0 55).toNatClampNeg (-1) := ⟨_, rfl⟩
            rw [← eI55] at hW
            have f56 := z_fr_a f51 (show z_wa L_X12_pour_e 40 = true by decide) eI55
            have a57 := z_rg_n a52 (by decide) eI55
            have a58 := z_rg_n a53 (by decide) eI55
            have a59 := z_rg_n a54 (by decide) eI55
            refine lv_aload_n hx hb dX12_pour_143 rfl (lv_at hl 0 rfl) ?_
            refine z_get (T := TX12) (N := 96) (ci := 12) (i := 0) (v := .ref (ad 42)) hx hb hts zj_X12_pour_X12 hown hK hW rfl rfl 65 (by decide) (hts (.fieldLink RX12 142 "PetrolBoardModel" "pourDyed" "[Z") (me_s (me_l (me_l (List.mem_of_getElem? (i := 10) rfl))))) (fun _ h => h) rfl dX12_pour_144 ?_
            refine lv_aload_n hx hb dX12_pour_147 rfl (lv_at hl 0 rfl) ?_
            refine z_get (T := TX12) (N := 96) (ci := 12) (i := 0) (v := .int (I 0 55)) hx hb hts zj_X12_pour_X12 hown hK hW rfl rfl 55 (by decide) (hts (.fieldLink RX12 468 "PetrolBoardModel" "pours" "I") (me_s (me_l (me_l (List.mem_of_getElem? (i := 1) rfl))))) (fun _ h => h) (congrArg Value.int (by rw [eI55, z_up_n (by decide), eI50, z_up_n (by decide), eI41, z_up_n (by decide), eI34, z_up_n (by decide), eI28, z_up_n (by decide), eI23, z_up_n (by decide), eI18, z_up_n (by decide)])) dX12_pour_148 ?_
            refine lv_aload_n hx hb dX12_pour_151 rfl (lv_at hl 0 rfl) ?_
            refine lv_iload_n hx hb dX12_pour_152 rfl (lv_at hl 2 rfl) ?_
            refine lv_aload_n hx hb dX12_pour_153 rfl (lv_at hl 0 rfl) ?_
            refine z_get (T := TX12) (N := 96) (ci := 12) (i := 0) (v := .int (I 0 0)) hx hb hts zj_X12_pour_X12 hown hK hW rfl rfl 0 (by decide) (hts (.fieldLink RX12 232 "PetrolBoardModel" "today" "I") (me_s (me_l (me_l (List.mem_of_getElem? (i := 6) rfl))))) (fun _ h => h) (congrArg Value.int (by rw [eI55, z_up_n (by decide), eI50, z_up_n (by decide), eI41, z_up_n (by decide), eI34, z_up_n (by decide), eI28, z_up_n (by decide), eI23, z_up_n (by decide), eI18, z_up_n (by decide)])) dX12_pour_154 ?_
            refine lv_aload_n hx hb dX12_pour_157 rfl (lv_at hl 0 rfl) ?_
            refine z_get (T := TX12) (N := 96) (ci := 12) (i := 0) (v := .int (I 0 0)) hx hb hts zj_X12_pour_X12 hown hK hW rfl rfl 0 (by decide) (hts (.fieldLink RX12 232 "PetrolBoardModel" "today" "I") (me_s (me_l (me_l (List.mem_of_getElem? (i := 6) rfl))))) (fun _ h => h) (congrArg Value.int (by rw [eI55, z_up_n (by decide), eI50, z_up_n (by decide), eI41, z_up_n (by decide), eI34, z_up_n (by decide), eI28, z_up_n (by decide), eI23, z_up_n (by decide), eI18, z_up_n (by decide)])) dX12_pour_158 ?_
            refine z_ci hW hS hA (va_runV (As := [.int a2, .int (I 0 0), .int (I 0 0)]) (rest := [.int (I 0 55), .ref (ad 42)]) ⟨hx, hb, hml, hown, hts⟩ (sx_X12_kindOn l G ad I55 J ⟨(by show 0 ≤ (I55 0 0).toInt ∧ (I55 0 0).toInt ≤ 719; rw [eI55, z_up_n (by decide), eI50, z_up_n (by decide), eI41, z_up_n (by decide), eI34, z_up_n (by decide), eI28, z_up_n (by decide), eI23, z_up_n (by decide), eI18, z_up_n (by decide)]; exact hma.1), (by show 0 ≤ (I55 0 1).toInt ∧ (I55 0 1).toInt ≤ 30; rw [eI55, z_up_n (by decide), eI50, z_up_n (by decide), eI41, z_up_n (by decide), eI34, z_up_n (by decide), eI28, z_up_n (by decide), eI23, z_up_n (by decide), eI18, z_up_n (by decide)]; exact hma.2.1), (by show 0 ≤ (I55 0 2).toInt ∧ (I55 0 2).toInt ≤ 200; rw [eI55, z_up_n (by decide), eI50, z_up_n (by decide), eI41, z_up_n (by decide), eI34, z_up_n (by decide), eI28, z_up_n (by decide), eI23, z_up_n (by decide), eI18, z_up_n (by decide)]; exact hma.2.2)⟩ a2 (I 0 0) (I 0 0) _) (cwV 3 hts gX12_pour_X12_kindOn rfl rfl rfl hy_X12_kindOn ⟨Nat.le_of_ble_eq_true rfl, Nat.le_of_ble_eq_true rfl⟩) (z_preV (i := 0) hK hW rfl rfl) rfl rfl hl.1 rfl (lv_room (Nat.le_of_ble_eq_true rfl)) dX12_pour_161 ⟨Nat.le_of_ble_eq_true rfl, Nat.le_of_ble_eq_true rfl⟩) (fun r u1 H locs hp hW hS => ?_)
            rw [hp] at hW
            refine lv_topi (fun x60 ex60 => ?_)
            refine lv_iconst (v := 2) hx hb dX12_pour_164 (by decide) ?_
            refine lv_icmp_ne (tgt := 172) hx hb dX12_pour_165 (by decide) (fun c61 => ?_) (fun c61 => ?_)
            · have g62 := z_f_ne rfl z_l2 c61
              have b63 := Int32.toInt_lt x60
              refine lv_iconst (v := 0) hx hb dX12_pour_172 (by decide) ?_
              refine z_zast (i := 42) hx hb hK hW hS rfl (z_ix rfl (by omega) (by omega)) dX12_pour_173 (fun H locs hz1 hW hS => ?_)
              obtain ⟨I64, eI64⟩ : ∃ K : z_I, K = z_up I55 42 (I 0 55).toNatClampNeg (vp_nar .boolean 0) := ⟨_, rfl⟩
              rw [← eI64] at hW
              have f65 := z_fr_a f56 (show z_wa L_X12_pour_e 42 = true by decide) eI64
              have a66 := z_rg_n a57 (by decide) eI64
              have a67 := z_rg_n a58 (by decide) eI64
              have a68 := z_rg_n a59 (by decide) eI64
              refine lv_aload_n hx hb dX12_pour_174 rfl (lv_at hl 0 rfl) ?_
              refine z_get (T := TX12) (N := 96) (ci := 12) (i := 0) (v := .ref (ad 41)) hx hb hts zj_X12_pour_X12 hown hK hW rfl rfl 64 (by decide) (hts (.fieldLink RX12 139 "PetrolBoardModel" "pourCome" "[I") (me_s (me_l (me_l (List.mem_of_getElem? (i := 11) rfl))))) (fun _ h => h) rfl dX12_pour_175 ?_
              refine lv_aload_n hx hb dX12_pour_178 rfl (lv_at hl 0 rfl) ?_
              refine z_get (T := TX12) (N := 96) (ci := 12) (i := 0) (v := .int (I 0 55)) hx hb hts zj_X12_pour_X12 hown hK hW rfl rfl 55 (by decide) (hts (.fieldLink RX12 468 "PetrolBoardModel" "pours" "I") (me_s (me_l (me_l (List.mem_of_getElem? (i := 1) rfl))))) (fun _ h => h) (congrArg Value.int (by rw [eI64, z_up_n (by decide), eI55, z_up_n (by decide), eI50, z_up_n (by decide), eI41, z_up_n (by decide), eI34, z_up_n (by decide), eI28, z_up_n (by decide), eI23, z_up_n (by decide), eI18, z_up_n (by decide)])) dX12_pour_179 ?_
              refine lv_aload_n hx hb dX12_pour_182 rfl (lv_at hl 0 rfl) ?_
              refine z_get (T := TX12) (N := 96) (ci := 12) (i := 0) (v := .int (I 0 56)) hx hb hts zj_X12_pour_X12 hown hK hW rfl rfl 56 (by decide) (hts (.fieldLink RX12 471 "PetrolBoardModel" "comes" "I") (me_s (me_l (me_l (List.mem_of_getElem? (i := 12) rfl))))) (fun _ h => h) (congrArg Value.int (by rw [eI64, z_up_n (by decide), eI55, z_up_n (by decide), eI50, z_up_n (by decide), eI41, z_up_n (by decide), eI34, z_up_n (by decide), eI28, z_up_n (by decide), eI23, z_up_n (by decide), eI18, z_up_n (by decide)])) dX12_pour_183 ?_
              refine z_iast (i := 41) hx hb hK hW hS rfl (z_ix rfl (by omega) (by omega)) dX12_pour_186 (fun H locs hz1 hW hS => ?_)
              obtain ⟨I69, eI69⟩ : ∃ K : z_I, K = z_up I64 41 (I 0 55).toNatClampNeg (I 0 56) := ⟨_, rfl⟩
              rw [← eI69] at hW
              have f70 := z_fr_a f65 (show z_wa L_X12_pour_e 41 = true by decide) eI69
              have a71 := z_rg_n a66 (by decide) eI69
              have a72 := z_rg_n a67 (by decide) eI69
              have a73 := z_rg_n a68 (by decide) eI69
              refine lv_aload_n hx hb dX12_pour_187 rfl (lv_at hl 0 rfl) ?_
              refine lv_dup hx hb dX12_pour_188 rfl ?_
              refine z_get (T := TX12) (N := 96) (ci := 12) (i := 0) (v := .int (I 0 56)) hx hb hts zj_X12_pour_X12 hown hK hW rfl rfl 56 (by decide) (hts (.fieldLink RX12 471 "PetrolBoardModel" "comes" "I") (me_s (me_l (me_l (List.mem_of_getElem? (i := 12) rfl))))) (fun _ h => h) (congrArg Value.int (by rw [eI69, z_up_n (by decide), eI64, z_up_n (by decide), eI55, z_up_n (by decide), eI50, z_up_n (by decide), eI41, z_up_n (by decide), eI34, z_up_n (by decide), eI28, z_up_n (by decide), eI23, z_up_n (by decide), eI18, z_up_n (by decide)])) dX12_pour_189 ?_
              refine lv_iconst (v := 1) hx hb dX12_pour_192 (by decide) ?_
              refine lv_iadd hx hb dX12_pour_193 ?_
              refine lv_topi (fun x74 ex74 => ?_)
              refine z_put (T := TX12) (N := 96) (ci := 12) (i := 0) (v := .int x74) (I1 := z_up I69 0 56 x74) (J1 := J) (P1 := PM ad) hx hb hts zj_X12_pour_X12 tyX12 tyX12_ok nmX12 hown hK hW hS rfl rfl 56 (by decide) (hts (.fieldLink RX12 471 "PetrolBoardModel" "comes" "I") (me_s (me_l (me_l (List.mem_of_getElem? (i := 12) rfl))))) (fun _ h => h) rfl rfl rfl (by first | rfl | exact congrArg _ z_up_s) (fun a b h ty => z_vI h ty) dX12_pour_194 (fun H locs hz1 hW hS => ?_)
              obtain ⟨I75, eI75⟩ : ∃ K : z_I, K = z_up I69 0 56 x74 := ⟨_, rfl⟩
              rw [← eI75] at hW
              have f76 := z_fr_k f70 (show z_wr L_X12_pour_e 0 56 = true by decide) eI75
              have a77 := z_rg_n a71 (by decide) eI75
              have a78 := z_rg_n a72 (by decide) eI75
              have a79 := z_rg_n a73 (by decide) eI75
              refine lv_aload_n hx hb dX12_pour_197 rfl (lv_at hl 0 rfl) ?_
              refine lv_dup hx hb dX12_pour_198 rfl ?_
              refine z_get (T := TX12) (N := 96) (ci := 12) (i := 0) (v := .int (I 0 55)) hx hb hts zj_X12_pour_X12 hown hK hW rfl rfl 55 (by decide) (hts (.fieldLink RX12 468 "PetrolBoardModel" "pours" "I") (me_s (me_l (me_l (List.mem_of_getElem? (i := 1) rfl))))) (fun _ h => h) (congrArg Value.int (by rw [eI75, z_up_k (by decide), eI69, z_up_n (by decide), eI64, z_up_n (by decide), eI55, z_up_n (by decide), eI50, z_up_n (by decide), eI41, z_up_n (by decide), eI34, z_up_n (by decide), eI28, z_up_n (by decide), eI23, z_up_n (by decide), eI18, z_up_n (by decide)])) dX12_pour_199 ?_
              refine lv_iconst (v := 1) hx hb dX12_pour_202 (by decide) ?_
              refine lv_iadd hx hb dX12_pour_203 ?_
              refine lv_topi (fun x80 ex80 => ?_)
              have tx80 : x80.toInt = (I 0 55).toInt + 1 := z_tadd ex80 rfl z_l1 (by omega) (by omega)
              refine z_put (T := TX12) (N := 96) (ci := 12) (i := 0) (v := .int x80) (I1 := z_up I75 0 55 x80) (J1 := J) (P1 := PM ad) hx hb hts zj_X12_pour_X12 tyX12 tyX12_ok nmX12 hown hK hW hS rfl rfl 55 (by decide) (hts (.fieldLink RX12 468 "PetrolBoardModel" "pours" "I") (me_s (me_l (me_l (List.mem_of_getElem? (i := 1) rfl))))) (fun _ h => h) rfl rfl rfl (by first | rfl | exact congrArg _ z_up_s) (fun a b h ty => z_vI h ty) dX12_pour_204 (fun H locs hz1 hW hS => ?_)
              obtain ⟨I81, eI81⟩ : ∃ K : z_I, K = z_up I75 0 55 x80 := ⟨_, rfl⟩
              rw [← eI81] at hW
              have f82 := z_fr_k f76 (show z_wr L_X12_pour_e 0 55 = true by decide) eI81
              have a83 := z_rg_n a77 (by decide) eI81
              have a84 := z_rg_n a78 (by decide) eI81
              have a85 := z_rg_n a79 (by decide) eI81
              refine lv_aload_n hx hb dX12_pour_207 rfl (lv_at hl 0 rfl) ?_
              refine z_get (T := TX12) (N := 96) (ci := 12) (i := 0) (v := .int x80) hx hb hts zj_X12_pour_X12 hown hK hW rfl rfl 55 (by decide) (hts (.fieldLink RX12 468 "PetrolBoardModel" "pours" "I") (me_s (me_l (me_l (List.mem_of_getElem? (i := 1) rfl))))) (fun _ h => h) (congrArg Value.int (by rw [eI81, z_up_s])) dX12_pour_208 ?_
              refine lv_iconst (v := 1) hx hb dX12_pour_211 (by decide) ?_
              refine lv_isub hx hb dX12_pour_212 ?_
              refine lv_topi (fun x86 ex86 => ?_)
              have tx86 : x86.toInt = x80.toInt - 1 := z_tsub ex86 rfl z_l1 (by omega) (by omega)
              exact z_iret hx hb hr hK hS (Nat.le_of_ble_eq_true rfl) (Nat.le_of_ble_eq_true rfl) hlocks dX12_pour_213 (shM, ad, I81, J, PM ad) hW ⟨I81, J, rfl, ⟨(by show 0 ≤ (I81 0 0).toInt ∧ (I81 0 0).toInt ≤ 719; rw [eI81, z_up_k (by decide), eI75, z_up_k (by decide), eI69, z_up_n (by decide), eI64, z_up_n (by decide), eI55, z_up_n (by decide), eI50, z_up_n (by decide), eI41, z_up_n (by decide), eI34, z_up_n (by decide), eI28, z_up_n (by decide), eI23, z_up_n (by decide), eI18, z_up_n (by decide)]; exact hma.1), (by show 0 ≤ (I81 0 1).toInt ∧ (I81 0 1).toInt ≤ 30; rw [eI81, z_up_k (by decide), eI75, z_up_k (by decide), eI69, z_up_n (by decide), eI64, z_up_n (by decide), eI55, z_up_n (by decide), eI50, z_up_n (by decide), eI41, z_up_n (by decide), eI34, z_up_n (by decide), eI28, z_up_n (by decide), eI23, z_up_n (by decide), eI18, z_up_n (by decide)]; exact hma.2.1), (by show 0 ≤ (I81 0 2).toInt ∧ (I81 0 2).toInt ≤ 200; rw [eI81, z_up_k (by decide), eI75, z_up_k (by decide), eI69, z_up_n (by decide), eI64, z_up_n (by decide), eI55, z_up_n (by decide), eI50, z_up_n (by decide), eI41, z_up_n (by decide), eI34, z_up_n (by decide), eI28, z_up_n (by decide), eI23, z_up_n (by decide), eI18, z_up_n (by decide)]; exact hma.2.2)⟩, ⟨(by show 0 ≤ (I81 0 54).toInt ∧ (I81 0 54).toInt ≤ 10; rw [eI81, z_up_k (by decide), eI75, z_up_k (by decide), eI69, z_up_n (by decide), eI64, z_up_n (by decide), eI55, z_up_n (by decide), eI50, z_up_n (by decide), eI41, z_up_n (by decide), eI34, z_up_n (by decide), eI28, z_up_n (by decide), eI23, z_up_n (by decide), eI18, z_up_n (by decide)]; exact hms.1), (by show 0 ≤ (I81 0 55).toInt ∧ (I81 0 55).toInt ≤ 300; rw [eI81, z_up_s]; omega)⟩, a83, ⟨(by show 0 ≤ (I81 0 13).toInt ∧ (I81 0 13).toInt ≤ 12; rw [eI81, z_up_k (by decide), eI75, z_up_k (by decide), eI69, z_up_n (by decide), eI64, z_up_n (by decide), eI55, z_up_n (by decide), eI50, z_up_n (by decide), eI41, z_up_n (by decide), eI34, z_up_n (by decide), eI28, z_up_n (by decide), eI23, z_up_n (by decide), eI18, z_up_n (by decide)]; exact hmb.1), (by show 0 ≤ (I81 0 14).toInt ∧ (I81 0 14).toInt ≤ 288; rw [eI81, z_up_k (by decide), eI75, z_up_k (by decide), eI69, z_up_n (by decide), eI64, z_up_n (by decide), eI55, z_up_n (by decide), eI50, z_up_n (by decide), eI41, z_up_n (by decide), eI34, z_up_n (by decide), eI28, z_up_n (by decide), eI23, z_up_n (by decide), eI18, z_up_n (by decide)]; exact hmb.2)⟩, a84, a85, f82, (Or.inl ⟨by omega, by omega, (by have q9 : (I81 0 55) = x80 := (by rw [eI81, z_up_s]); show (I81 0 55).toInt = (I 0 55).toInt + 1; rw [q9]; first | done | omega)⟩)⟩
            · have g87 := z_f_eq rfl z_l2 c61
              have b88 := Int32.toInt_lt x60
              refine lv_iconst (v := 1) hx hb dX12_pour_168 (by decide) ?_
              refine lv_goto (tgt := 173) hx hb dX12_pour_169 (by decide) ?_
              refine z_zast (i := 42) hx hb hK hW hS rfl (z_ix rfl (by omega) (by omega)) dX12_pour_173 (fun H locs hz1 hW hS => ?_)
              obtain ⟨I89, eI89⟩ : ∃ K : z_I, K = z_up I55 42 (I 0 55).toNatClampNeg (vp_nar .boolean 1) := ⟨_, rfl⟩
              rw [← eI89] at hW
              have f90 := z_fr_a f56 (show z_wa L_X12_pour_e 42 = true by decide) eI89
              have a91 := z_rg_n a57 (by decide) eI89
              have a92 := z_rg_n a58 (by decide) eI89
              have a93 := z_rg_n a59 (by decide) eI89
              refine lv_aload_n hx hb dX12_pour_174 rfl (lv_at hl 0 rfl) ?_
              refine z_get (T := TX12) (N := 96) (ci := 12) (i := 0) (v := .ref (ad 41)) hx hb hts zj_X12_pour_X12 hown hK hW rfl rfl 64 (by decide) (hts (.fieldLink RX12 139 "PetrolBoardModel" "pourCome" "[I") (me_s (me_l (me_l (List.mem_of_getElem? (i := 11) rfl))))) (fun _ h => h) rfl dX12_pour_175 ?_
              refine lv_aload_n hx hb dX12_pour_178 rfl (lv_at hl 0 rfl) ?_
              refine z_get (T := TX12) (N := 96) (ci := 12) (i := 0) (v := .int (I 0 55)) hx hb hts zj_X12_pour_X12 hown hK hW rfl rfl 55 (by decide) (hts (.fieldLink RX12 468 "PetrolBoardModel" "pours" "I") (me_s (me_l (me_l (List.mem_of_getElem? (i := 1) rfl))))) (fun _ h => h) (congrArg Value.int (by rw [eI89, z_up_n (by decide), eI55, z_up_n (by decide), eI50, z_up_n (by decide), eI41, z_up_n (by decide), eI34, z_up_n (by decide), eI28, z_up_n (by decide), eI23, z_up_n (by decide), eI18, z_up_n (by decide)])) dX12_pour_179 ?_
              refine lv_aload_n hx hb dX12_pour_182 rfl (lv_at hl 0 rfl) ?_
              refine z_get (T := TX12) (N := 96) (ci := 12) (i := 0) (v := .int (I 0 56)) hx hb hts zj_X12_pour_X12 hown hK hW rfl rfl 56 (by decide) (hts (.fieldLink RX12 471 "PetrolBoardModel" "comes" "I") (me_s (me_l (me_l (List.mem_of_getElem? (i := 12) rfl))))) (fun _ h => h) (congrArg Value.int (by rw [eI89, z_up_n (by decide), eI55, z_up_n (by decide), eI50, z_up_n (by decide), eI41, z_up_n (by decide), eI34, z_up_n (by decide), eI28, z_up_n (by decide), eI23, z_up_n (by decide), eI18, z_up_n (by decide)])) dX12_pour_183 ?_
              refine z_iast (i := 41) hx hb hK hW hS rfl (z_ix rfl (by omega) (by omega)) dX12_pour_186 (fun H locs hz1 hW hS => ?_)
              obtain ⟨I94, eI94⟩ : ∃ K : z_I, K = z_up I89 41 (I 0 55).toNatClampNeg (I 0 56) := ⟨_, rfl⟩
              rw [← eI94] at hW
              have f95 := z_fr_a f90 (show z_wa L_X12_pour_e 41 = true by decide) eI94
              have a96 := z_rg_n a91 (by decide) eI94
              have a97 := z_rg_n a92 (by decide) eI94
              have a98 := z_rg_n a93 (by decide) eI94
              refine lv_aload_n hx hb dX12_pour_187 rfl (lv_at hl 0 rfl) ?_
              refine lv_dup hx hb dX12_pour_188 rfl ?_
              refine z_get (T := TX12) (N := 96) (ci := 12) (i := 0) (v := .int (I 0 56)) hx hb hts zj_X12_pour_X12 hown hK hW rfl rfl 56 (by decide) (hts (.fieldLink RX12 471 "PetrolBoardModel" "comes" "I") (me_s (me_l (me_l (List.mem_of_getElem? (i := 12) rfl))))) (fun _ h => h) (congrArg Value.int (by rw [eI94, z_up_n (by decide), eI89, z_up_n (by decide), eI55, z_up_n (by decide), eI50, z_up_n (by decide), eI41, z_up_n (by decide), eI34, z_up_n (by decide), eI28, z_up_n (by decide), eI23, z_up_n (by decide), eI18, z_up_n (by decide)])) dX12_pour_189 ?_
              refine lv_iconst (v := 1) hx hb dX12_pour_192 (by decide) ?_
              refine lv_iadd hx hb dX12_pour_193 ?_
              refine lv_topi (fun x99 ex99 => ?_)
              refine z_put (T := TX12) (N := 96) (ci := 12) (i := 0) (v := .int x99) (I1 := z_up I94 0 56 x99) (J1 := J) (P1 := PM ad) hx hb hts zj_X12_pour_X12 tyX12 tyX12_ok nmX12 hown hK hW hS rfl rfl 56 (by decide) (hts (.fieldLink RX12 471 "PetrolBoardModel" "comes" "I") (me_s (me_l (me_l (List.mem_of_getElem? (i := 12) rfl))))) (fun _ h => h) rfl rfl rfl (by first | rfl | exact congrArg _ z_up_s) (fun a b h ty => z_vI h ty) dX12_pour_194 (fun H locs hz1 hW hS => ?_)
              obtain ⟨I100, eI100⟩ : ∃ K : z_I, K = z_up I94 0 56 x99 := ⟨_, rfl⟩
              rw [← eI100] at hW
              have f101 := z_fr_k f95 (show z_wr L_X12_pour_e 0 56 = true by decide) eI100
              have a102 := z_rg_n a96 (by decide) eI100
              have a103 := z_rg_n a97 (by decide) eI100
              have a104 := z_rg_n a98 (by decide) eI100
              refine lv_aload_n hx hb dX12_pour_197 rfl (lv_at hl 0 rfl) ?_
              refine lv_dup hx hb dX12_pour_198 rfl ?_
              refine z_get (T := TX12) (N := 96) (ci := 12) (i := 0) (v := .int (I 0 55)) hx hb hts zj_X12_pour_X12 hown hK hW rfl rfl 55 (by decide) (hts (.fieldLink RX12 468 "PetrolBoardModel" "pours" "I") (me_s (me_l (me_l (List.mem_of_getElem? (i := 1) rfl))))) (fun _ h => h) (congrArg Value.int (by rw [eI100, z_up_k (by decide), eI94, z_up_n (by decide), eI89, z_up_n (by decide), eI55, z_up_n (by decide), eI50, z_up_n (by decide), eI41, z_up_n (by decide), eI34, z_up_n (by decide), eI28, z_up_n (by decide), eI23, z_up_n (by decide), eI18, z_up_n (by decide)])) dX12_pour_199 ?_
              refine lv_iconst (v := 1) hx hb dX12_pour_202 (by decide) ?_
              refine lv_iadd hx hb dX12_pour_203 ?_
              refine lv_topi (fun x105 ex105 => ?_)
              have tx105 : x105.toInt = (I 0 55).toInt + 1 := z_tadd ex105 rfl z_l1 (by omega) (by omega)
              refine z_put (T := TX12) (N := 96) (ci := 12) (i := 0) (v := .int x105) (I1 := z_up I100 0 55 x105) (J1 := J) (P1 := PM ad) hx hb hts zj_X12_pour_X12 tyX12 tyX12_ok nmX12 hown hK hW hS rfl rfl 55 (by decide) (hts (.fieldLink RX12 468 "PetrolBoardModel" "pours" "I") (me_s (me_l (me_l (List.mem_of_getElem? (i := 1) rfl))))) (fun _ h => h) rfl rfl rfl (by first | rfl | exact congrArg _ z_up_s) (fun a b h ty => z_vI h ty) dX12_pour_204 (fun H locs hz1 hW hS => ?_)
              obtain ⟨I106, eI106⟩ : ∃ K : z_I, K = z_up I100 0 55 x105 := ⟨_, rfl⟩
              rw [← eI106] at hW
              have f107 := z_fr_k f101 (show z_wr L_X12_pour_e 0 55 = true by decide) eI106
              have a108 := z_rg_n a102 (by decide) eI106
              have a109 := z_rg_n a103 (by decide) eI106
              have a110 := z_rg_n a104 (by decide) eI106
              refine lv_aload_n hx hb dX12_pour_207 rfl (lv_at hl 0 rfl) ?_
              refine z_get (T := TX12) (N := 96) (ci := 12) (i := 0) (v := .int x105) hx hb hts zj_X12_pour_X12 hown hK hW rfl rfl 55 (by decide) (hts (.fieldLink RX12 468 "PetrolBoardModel" "pours" "I") (me_s (me_l (me_l (List.mem_of_getElem? (i := 1) rfl))))) (fun _ h => h) (congrArg Value.int (by rw [eI106, z_up_s])) dX12_pour_208 ?_
              refine lv_iconst (v := 1) hx hb dX12_pour_211 (by decide) ?_
              refine lv_isub hx hb dX12_pour_212 ?_
              refine lv_topi (fun x111 ex111 => ?_)
              have tx111 : x111.toInt = x105.toInt - 1 := z_tsub ex111 rfl z_l1 (by omega) (by omega)
              exact z_iret hx hb hr hK hS (Nat.le_of_ble_eq_true rfl) (Nat.le_of_ble_eq_true rfl) hlocks dX12_pour_213 (shM, ad, I106, J, PM ad) hW ⟨I106, J, rfl, ⟨(by show 0 ≤ (I106 0 0).toInt ∧ (I106 0 0).toInt ≤ 719; rw [eI106, z_up_k (by decide), eI100, z_up_k (by decide), eI94, z_up_n (by decide), eI89, z_up_n (by decide), eI55, z_up_n (by decide), eI50, z_up_n (by decide), eI41, z_up_n (by decide), eI34, z_up_n (by decide), eI28, z_up_n (by decide), eI23, z_up_n (by decide), eI18, z_up_n (by decide)]; exact hma.1), (by show 0 ≤ (I106 0 1).toInt ∧ (I106 0 1).toInt ≤ 30; rw [eI106, z_up_k (by decide), eI100, z_up_k (by decide), eI94, z_up_n (by decide), eI89, z_up_n (by decide), eI55, z_up_n (by decide), eI50, z_up_n (by decide), eI41, z_up_n (by decide), eI34, z_up_n (by decide), eI28, z_up_n (by decide), eI23, z_up_n (by decide), eI18, z_up_n (by decide)]; exact hma.2.1), (by show 0 ≤ (I106 0 2).toInt ∧ (I106 0 2).toInt ≤ 200; rw [eI106, z_up_k (by decide), eI100, z_up_k (by decide), eI94, z_up_n (by decide), eI89, z_up_n (by decide), eI55, z_up_n (by decide), eI50, z_up_n (by decide), eI41, z_up_n (by decide), eI34, z_up_n (by decide), eI28, z_up_n (by decide), eI23, z_up_n (by decide), eI18, z_up_n (by decide)]; exact hma.2.2)⟩, ⟨(by show 0 ≤ (I106 0 54).toInt ∧ (I106 0 54).toInt ≤ 10; rw [eI106, z_up_k (by decide), eI100, z_up_k (by decide), eI94, z_up_n (by decide), eI89, z_up_n (by decide), eI55, z_up_n (by decide), eI50, z_up_n (by decide), eI41, z_up_n (by decide), eI34, z_up_n (by decide), eI28, z_up_n (by decide), eI23, z_up_n (by decide), eI18, z_up_n (by decide)]; exact hms.1), (by show 0 ≤ (I106 0 55).toInt ∧ (I106 0 55).toInt ≤ 300; rw [eI106, z_up_s]; omega)⟩, a108, ⟨(by show 0 ≤ (I106 0 13).toInt ∧ (I106 0 13).toInt ≤ 12; rw [eI106, z_up_k (by decide), eI100, z_up_k (by decide), eI94, z_up_n (by decide), eI89, z_up_n (by decide), eI55, z_up_n (by decide), eI50, z_up_n (by decide), eI41, z_up_n (by decide), eI34, z_up_n (by decide), eI28, z_up_n (by decide), eI23, z_up_n (by decide), eI18, z_up_n (by decide)]; exact hmb.1), (by show 0 ≤ (I106 0 14).toInt ∧ (I106 0 14).toInt ≤ 288; rw [eI106, z_up_k (by decide), eI100, z_up_k (by decide), eI94, z_up_n (by decide), eI89, z_up_n (by decide), eI55, z_up_n (by decide), eI50, z_up_n (by decide), eI41, z_up_n (by decide), eI34, z_up_n (by decide), eI28, z_up_n (by decide), eI23, z_up_n (by decide), eI18, z_up_n (by decide)]; exact hmb.2)⟩, a109, a110, f107, (Or.inl ⟨by omega, by omega, (by have q9 : (I106 0 55) = x105 := (by rw [eI106, z_up_s]); show (I106 0 55).toInt = (I 0 55).toInt + 1; rw [q9]; first | done | omega)⟩)⟩
          · refine lv_if_eq (tgt := 131) hx hb dX12_pour_120 (by decide) (fun c112 => ?_) (fun c112 => absurd (by decide) c112)
            refine lv_iconst (v := (-1)) hx hb dX12_pour_131 (by decide) ?_
            refine z_iast (i := 39) hx hb hK hW hS rfl (z_ix rfl (by omega) (by omega)) dX12_pour_132 (fun H locs hz1 hW hS => ?_)
            obtain ⟨I113, eI113⟩ : ∃ K : z_I, K = z_up I41 39 (I 0 55).toNatClampNeg (-1) := ⟨_, rfl⟩
            rw [← eI113] at hW
            have f114 := z_fr_a f42 (show z_wa L_X12_pour_e 39 = true by decide) eI113
            have a115 := z_rg_n a43 (by decide) eI113
            have a116 := z_rg_n a44 (by decide) eI113
            have a117 := z_rg_n a45 (by decide) eI113
            refine lv_aload_n hx hb dX12_pour_133 rfl (lv_at hl 0 rfl) ?_
            refine z_get (T := TX12) (N := 96) (ci := 12) (i := 0) (v := .ref (ad 40)) hx hb hts zj_X12_pour_X12 hown hK hW rfl rfl 63 (by decide) (hts (.fieldLink RX12 136 "PetrolBoardModel" "pourJudged" "[I") (me_s (me_l (me_l (List.mem_of_getElem? (i := 9) rfl))))) (fun _ h => h) rfl dX12_pour_134 ?_
            refine lv_aload_n hx hb dX12_pour_137 rfl (lv_at hl 0 rfl) ?_
            refine z_get (T := TX12) (N := 96) (ci := 12) (i := 0) (v := .int (I 0 55)) hx hb hts zj_X12_pour_X12 hown hK hW rfl rfl 55 (by decide) (hts (.fieldLink RX12 468 "PetrolBoardModel" "pours" "I") (me_s (me_l (me_l (List.mem_of_getElem? (i := 1) rfl))))) (fun _ h => h) (congrArg Value.int (by rw [eI113, z_up_n (by decide), eI41, z_up_n (by decide), eI34, z_up_n (by decide), eI28, z_up_n (by decide), eI23, z_up_n (by decide), eI18, z_up_n (by decide)])) dX12_pour_138 ?_
            refine lv_iconst (v := (-1)) hx hb dX12_pour_141 (by decide) ?_
            refine z_iast (i := 40) hx hb hK hW hS rfl (z_ix rfl (by omega) (by omega)) dX12_pour_142 (fun H locs hz1 hW hS => ?_)
            obtain ⟨I118, eI118⟩ : ∃ K : z_I, K = z_up I113 40 (I 0 55).toNatClampNeg (-1) := ⟨_, rfl⟩
            rw [← eI118] at hW
            have f119 := z_fr_a f114 (show z_wa L_X12_pour_e 40 = true by decide) eI118
            have a120 := z_rg_n a115 (by decide) eI118
            have a121 := z_rg_n a116 (by decide) eI118
            have a122 := z_rg_n a117 (by decide) eI118
            refine lv_aload_n hx hb dX12_pour_143 rfl (lv_at hl 0 rfl) ?_
            refine z_get (T := TX12) (N := 96) (ci := 12) (i := 0) (v := .ref (ad 42)) hx hb hts zj_X12_pour_X12 hown hK hW rfl rfl 65 (by decide) (hts (.fieldLink RX12 142 "PetrolBoardModel" "pourDyed" "[Z") (me_s (me_l (me_l (List.mem_of_getElem? (i := 10) rfl))))) (fun _ h => h) rfl dX12_pour_144 ?_
            refine lv_aload_n hx hb dX12_pour_147 rfl (lv_at hl 0 rfl) ?_
            refine z_get (T := TX12) (N := 96) (ci := 12) (i := 0) (v := .int (I 0 55)) hx hb hts zj_X12_pour_X12 hown hK hW rfl rfl 55 (by decide) (hts (.fieldLink RX12 468 "PetrolBoardModel" "pours" "I") (me_s (me_l (me_l (List.mem_of_getElem? (i := 1) rfl))))) (fun _ h => h) (congrArg Value.int (by rw [eI118, z_up_n (by decide), eI113, z_up_n (by decide), eI41, z_up_n (by decide), eI34, z_up_n (by decide), eI28, z_up_n (by decide), eI23, z_up_n (by decide), eI18, z_up_n (by decide)])) dX12_pour_148 ?_
            refine lv_aload_n hx hb dX12_pour_151 rfl (lv_at hl 0 rfl) ?_
            refine lv_iload_n hx hb dX12_pour_152 rfl (lv_at hl 2 rfl) ?_
            refine lv_aload_n hx hb dX12_pour_153 rfl (lv_at hl 0 rfl) ?_
            refine z_get (T := TX12) (N := 96) (ci := 12) (i := 0) (v := .int (I 0 0)) hx hb hts zj_X12_pour_X12 hown hK hW rfl rfl 0 (by decide) (hts (.fieldLink RX12 232 "PetrolBoardModel" "today" "I") (me_s (me_l (me_l (List.mem_of_getElem? (i := 6) rfl))))) (fun _ h => h) (congrArg Value.int (by rw [eI118, z_up_n (by decide), eI113, z_up_n (by decide), eI41, z_up_n (by decide), eI34, z_up_n (by decide), eI28, z_up_n (by decide), eI23, z_up_n (by decide), eI18, z_up_n (by decide)])) dX12_pour_154 ?_
            refine lv_aload_n hx hb dX12_pour_157 rfl (lv_at hl 0 rfl) ?_
            refine z_get (T := TX12) (N := 96) (ci := 12) (i := 0) (v := .int (I 0 0)) hx hb hts zj_X12_pour_X12 hown hK hW rfl rfl 0 (by decide) (hts (.fieldLink RX12 232 "PetrolBoardModel" "today" "I") (me_s (me_l (me_l (List.mem_of_getElem? (i := 6) rfl))))) (fun _ h => h) (congrArg Value.int (by rw [eI118, z_up_n (by decide), eI113, z_up_n (by decide), eI41, z_up_n (by decide), eI34, z_up_n (by decide), eI28, z_up_n (by decide), eI23, z_up_n (by decide), eI18, z_up_n (by decide)])) dX12_pour_158 ?_
            refine z_ci hW hS hA (va_runV (As := [.int a2, .int (I 0 0), .int (I 0 0)]) (rest := [.int (I 0 55), .ref (ad 42)]) ⟨hx, hb, hml, hown, hts⟩ (sx_X12_kindOn l G ad I118 J ⟨(by show 0 ≤ (I118 0 0).toInt ∧ (I118 0 0).toInt ≤ 719; rw [eI118, z_up_n (by decide), eI113, z_up_n (by decide), eI41, z_up_n (by decide), eI34, z_up_n (by decide), eI28, z_up_n (by decide), eI23, z_up_n (by decide), eI18, z_up_n (by decide)]; exact hma.1), (by show 0 ≤ (I118 0 1).toInt ∧ (I118 0 1).toInt ≤ 30; rw [eI118, z_up_n (by decide), eI113, z_up_n (by decide), eI41, z_up_n (by decide), eI34, z_up_n (by decide), eI28, z_up_n (by decide), eI23, z_up_n (by decide), eI18, z_up_n (by decide)]; exact hma.2.1), (by show 0 ≤ (I118 0 2).toInt ∧ (I118 0 2).toInt ≤ 200; rw [eI118, z_up_n (by decide), eI113, z_up_n (by decide), eI41, z_up_n (by decide), eI34, z_up_n (by decide), eI28, z_up_n (by decide), eI23, z_up_n (by decide), eI18, z_up_n (by decide)]; exact hma.2.2)⟩ a2 (I 0 0) (I 0 0) _) (cwV 3 hts gX12_pour_X12_kindOn rfl rfl rfl hy_X12_kindOn ⟨Nat.le_of_ble_eq_true rfl, Nat.le_of_ble_eq_true rfl⟩) (z_preV (i := 0) hK hW rfl rfl) rfl rfl hl.1 rfl (lv_room (Nat.le_of_ble_eq_true rfl)) dX12_pour_161 ⟨Nat.le_of_ble_eq_true rfl, Nat.le_of_ble_eq_true rfl⟩) (fun r u1 H locs hp hW hS => ?_)
            rw [hp] at hW
            refine lv_topi (fun x123 ex123 => ?_)
            refine lv_iconst (v := 2) hx hb dX12_pour_164 (by decide) ?_
            refine lv_icmp_ne (tgt := 172) hx hb dX12_pour_165 (by decide) (fun c124 => ?_) (fun c124 => ?_)
            · have g125 := z_f_ne rfl z_l2 c124
              have b126 := Int32.toInt_lt x123
              refine lv_iconst (v := 0) hx hb dX12_pour_172 (by decide) ?_
              refine z_zast (i := 42) hx hb hK hW hS rfl (z_ix rfl (by omega) (by omega)) dX12_pour_173 (fun H locs hz1 hW hS => ?_)
              obtain ⟨I127, eI127⟩ : ∃ K : z_I, K = z_up I118 42 (I 0 55).toNatClampNeg (vp_nar .boolean 0) := ⟨_, rfl⟩
              rw [← eI127] at hW
              have f128 := z_fr_a f119 (show z_wa L_X12_pour_e 42 = true by decide) eI127
              have a129 := z_rg_n a120 (by decide) eI127
              have a130 := z_rg_n a121 (by decide) eI127
              have a131 := z_rg_n a122 (by decide) eI127
              refine lv_aload_n hx hb dX12_pour_174 rfl (lv_at hl 0 rfl) ?_
              refine z_get (T := TX12) (N := 96) (ci := 12) (i := 0) (v := .ref (ad 41)) hx hb hts zj_X12_pour_X12 hown hK hW rfl rfl 64 (by decide) (hts (.fieldLink RX12 139 "PetrolBoardModel" "pourCome" "[I") (me_s (me_l (me_l (List.mem_of_getElem? (i := 11) rfl))))) (fun _ h => h) rfl dX12_pour_175 ?_
              refine lv_aload_n hx hb dX12_pour_178 rfl (lv_at hl 0 rfl) ?_
              refine z_get (T := TX12) (N := 96) (ci := 12) (i := 0) (v := .int (I 0 55)) hx hb hts zj_X12_pour_X12 hown hK hW rfl rfl 55 (by decide) (hts (.fieldLink RX12 468 "PetrolBoardModel" "pours" "I") (me_s (me_l (me_l (List.mem_of_getElem? (i := 1) rfl))))) (fun _ h => h) (congrArg Value.int (by rw [eI127, z_up_n (by decide), eI118, z_up_n (by decide), eI113, z_up_n (by decide), eI41, z_up_n (by decide), eI34, z_up_n (by decide), eI28, z_up_n (by decide), eI23, z_up_n (by decide), eI18, z_up_n (by decide)])) dX12_pour_179 ?_
              refine lv_aload_n hx hb dX12_pour_182 rfl (lv_at hl 0 rfl) ?_
              refine z_get (T := TX12) (N := 96) (ci := 12) (i := 0) (v := .int (I 0 56)) hx hb hts zj_X12_pour_X12 hown hK hW rfl rfl 56 (by decide) (hts (.fieldLink RX12 471 "PetrolBoardModel" "comes" "I") (me_s (me_l (me_l (List.mem_of_getElem? (i := 12) rfl))))) (fun _ h => h) (congrArg Value.int (by rw [eI127, z_up_n (by decide), eI118, z_up_n (by decide), eI113, z_up_n (by decide), eI41, z_up_n (by decide), eI34, z_up_n (by decide), eI28, z_up_n (by decide), eI23, z_up_n (by decide), eI18, z_up_n (by decide)])) dX12_pour_183 ?_
              refine z_iast (i := 41) hx hb hK hW hS rfl (z_ix rfl (by omega) (by omega)) dX12_pour_186 (fun H locs hz1 hW hS => ?_)
              obtain ⟨I132, eI132⟩ : ∃ K : z_I, K = z_up I127 41 (I 0 55).toNatClampNeg (I 0 56) := ⟨_, rfl⟩
              rw [← eI132] at hW
              have f133 := z_fr_a f128 (show z_wa L_X12_pour_e 41 = true by decide) eI132
              have a134 := z_rg_n a129 (by decide) eI132
              have a135 := z_rg_n a130 (by decide) eI132
              have a136 := z_rg_n a131 (by decide) eI132
              refine lv_aload_n hx hb dX12_pour_187 rfl (lv_at hl 0 rfl) ?_
              refine lv_dup hx hb dX12_pour_188 rfl ?_
              refine z_get (T := TX12) (N := 96) (ci := 12) (i := 0) (v := .int (I 0 56)) hx hb hts zj_X12_pour_X12 hown hK hW rfl rfl 56 (by decide) (hts (.fieldLink RX12 471 "PetrolBoardModel" "comes" "I") (me_s (me_l (me_l (List.mem_of_getElem? (i := 12) rfl))))) (fun _ h => h) (congrArg Value.int (by rw [eI132, z_up_n (by decide), eI127, z_up_n (by decide), eI118, z_up_n (by decide), eI113, z_up_n (by decide), eI41, z_up_n (by decide), eI34, z_up_n (by decide), eI28, z_up_n (by decide), eI23, z_up_n (by decide), eI18, z_up_n (by decide)])) dX12_pour_189 ?_
              refine lv_iconst (v := 1) hx hb dX12_pour_192 (by decide) ?_
              refine lv_iadd hx hb dX12_pour_193 ?_
              refine lv_topi (fun x137 ex137 => ?_)
              refine z_put (T := TX12) (N := 96) (ci := 12) (i := 0) (v := .int x137) (I1 := z_up I132 0 56 x137) (J1 := J) (P1 := PM ad) hx hb hts zj_X12_pour_X12 tyX12 tyX12_ok nmX12 hown hK hW hS rfl rfl 56 (by decide) (hts (.fieldLink RX12 471 "PetrolBoardModel" "comes" "I") (me_s (me_l (me_l (List.mem_of_getElem? (i := 12) rfl))))) (fun _ h => h) rfl rfl rfl (by first | rfl | exact congrArg _ z_up_s) (fun a b h ty => z_vI h ty) dX12_pour_194 (fun H locs hz1 hW hS => ?_)
              obtain ⟨I138, eI138⟩ : ∃ K : z_I, K = z_up I132 0 56 x137 := ⟨_, rfl⟩
              rw [← eI138] at hW
              have f139 := z_fr_k f133 (show z_wr L_X12_pour_e 0 56 = true by decide) eI138
              have a140 := z_rg_n a134 (by decide) eI138
              have a141 := z_rg_n a135 (by decide) eI138
              have a142 := z_rg_n a136 (by decide) eI138
              refine lv_aload_n hx hb dX12_pour_197 rfl (lv_at hl 0 rfl) ?_
              refine lv_dup hx hb dX12_pour_198 rfl ?_
              refine z_get (T := TX12) (N := 96) (ci := 12) (i := 0) (v := .int (I 0 55)) hx hb hts zj_X12_pour_X12 hown hK hW rfl rfl 55 (by decide) (hts (.fieldLink RX12 468 "PetrolBoardModel" "pours" "I") (me_s (me_l (me_l (List.mem_of_getElem? (i := 1) rfl))))) (fun _ h => h) (congrArg Value.int (by rw [eI138, z_up_k (by decide), eI132, z_up_n (by decide), eI127, z_up_n (by decide), eI118, z_up_n (by decide), eI113, z_up_n (by decide), eI41, z_up_n (by decide), eI34, z_up_n (by decide), eI28, z_up_n (by decide), eI23, z_up_n (by decide), eI18, z_up_n (by decide)])) dX12_pour_199 ?_
              refine lv_iconst (v := 1) hx hb dX12_pour_202 (by decide) ?_
              refine lv_iadd hx hb dX12_pour_203 ?_
              refine lv_topi (fun x143 ex143 => ?_)
              have tx143 : x143.toInt = (I 0 55).toInt + 1 := z_tadd ex143 rfl z_l1 (by omega) (by omega)
              refine z_put (T := TX12) (N := 96) (ci := 12) (i := 0) (v := .int x143) (I1 := z_up I138 0 55 x143) (J1 := J) (P1 := PM ad) hx hb hts zj_X12_pour_X12 tyX12 tyX12_ok nmX12 hown hK hW hS rfl rfl 55 (by decide) (hts (.fieldLink RX12 468 "PetrolBoardModel" "pours" "I") (me_s (me_l (me_l (List.mem_of_getElem? (i := 1) rfl))))) (fun _ h => h) rfl rfl rfl (by first | rfl | exact congrArg _ z_up_s) (fun a b h ty => z_vI h ty) dX12_pour_204 (fun H locs hz1 hW hS => ?_)
              obtain ⟨I144, eI144⟩ : ∃ K : z_I, K = z_up I138 0 55 x143 := ⟨_, rfl⟩
              rw [← eI144] at hW
              have f145 := z_fr_k f139 (show z_wr L_X12_pour_e 0 55 = true by decide) eI144
              have a146 := z_rg_n a140 (by decide) eI144
              have a147 := z_rg_n a141 (by decide) eI144
              have a148 := z_rg_n a142 (by decide) eI144
              refine lv_aload_n hx hb dX12_pour_207 rfl (lv_at hl 0 rfl) ?_
              refine z_get (T := TX12) (N := 96) (ci := 12) (i := 0) (v := .int x143) hx hb hts zj_X12_pour_X12 hown hK hW rfl rfl 55 (by decide) (hts (.fieldLink RX12 468 "PetrolBoardModel" "pours" "I") (me_s (me_l (me_l (List.mem_of_getElem? (i := 1) rfl))))) (fun _ h => h) (congrArg Value.int (by rw [eI144, z_up_s])) dX12_pour_208 ?_
              refine lv_iconst (v := 1) hx hb dX12_pour_211 (by decide) ?_
              refine lv_isub hx hb dX12_pour_212 ?_
              refine lv_topi (fun x149 ex149 => ?_)
              have tx149 : x149.toInt = x143.toInt - 1 := z_tsub ex149 rfl z_l1 (by omega) (by omega)
              exact z_iret hx hb hr hK hS (Nat.le_of_ble_eq_true rfl) (Nat.le_of_ble_eq_true rfl) hlocks dX12_pour_213 (shM, ad, I144, J, PM ad) hW ⟨I144, J, rfl, ⟨(by show 0 ≤ (I144 0 0).toInt ∧ (I144 0 0).toInt ≤ 719; rw [eI144, z_up_k (by decide), eI138, z_up_k (by decide), eI132, z_up_n (by decide), eI127, z_up_n (by decide), eI118, z_up_n (by decide), eI113, z_up_n (by decide), eI41, z_up_n (by decide), eI34, z_up_n (by decide), eI28, z_up_n (by decide), eI23, z_up_n (by decide), eI18, z_up_n (by decide)]; exact hma.1), (by show 0 ≤ (I144 0 1).toInt ∧ (I144 0 1).toInt ≤ 30; rw [eI144, z_up_k (by decide), eI138, z_up_k (by decide), eI132, z_up_n (by decide), eI127, z_up_n (by decide), eI118, z_up_n (by decide), eI113, z_up_n (by decide), eI41, z_up_n (by decide), eI34, z_up_n (by decide), eI28, z_up_n (by decide), eI23, z_up_n (by decide), eI18, z_up_n (by decide)]; exact hma.2.1), (by show 0 ≤ (I144 0 2).toInt ∧ (I144 0 2).toInt ≤ 200; rw [eI144, z_up_k (by decide), eI138, z_up_k (by decide), eI132, z_up_n (by decide), eI127, z_up_n (by decide), eI118, z_up_n (by decide), eI113, z_up_n (by decide), eI41, z_up_n (by decide), eI34, z_up_n (by decide), eI28, z_up_n (by decide), eI23, z_up_n (by decide), eI18, z_up_n (by decide)]; exact hma.2.2)⟩, ⟨(by show 0 ≤ (I144 0 54).toInt ∧ (I144 0 54).toInt ≤ 10; rw [eI144, z_up_k (by decide), eI138, z_up_k (by decide), eI132, z_up_n (by decide), eI127, z_up_n (by decide), eI118, z_up_n (by decide), eI113, z_up_n (by decide), eI41, z_up_n (by decide), eI34, z_up_n (by decide), eI28, z_up_n (by decide), eI23, z_up_n (by decide), eI18, z_up_n (by decide)]; exact hms.1), (by show 0 ≤ (I144 0 55).toInt ∧ (I144 0 55).toInt ≤ 300; rw [eI144, z_up_s]; omega)⟩, a146, ⟨(by show 0 ≤ (I144 0 13).toInt ∧ (I144 0 13).toInt ≤ 12; rw [eI144, z_up_k (by decide), eI138, z_up_k (by decide), eI132, z_up_n (by decide), eI127, z_up_n (by decide), eI118, z_up_n (by decide), eI113, z_up_n (by decide), eI41, z_up_n (by decide), eI34, z_up_n (by decide), eI28, z_up_n (by decide), eI23, z_up_n (by decide), eI18, z_up_n (by decide)]; exact hmb.1), (by show 0 ≤ (I144 0 14).toInt ∧ (I144 0 14).toInt ≤ 288; rw [eI144, z_up_k (by decide), eI138, z_up_k (by decide), eI132, z_up_n (by decide), eI127, z_up_n (by decide), eI118, z_up_n (by decide), eI113, z_up_n (by decide), eI41, z_up_n (by decide), eI34, z_up_n (by decide), eI28, z_up_n (by decide), eI23, z_up_n (by decide), eI18, z_up_n (by decide)]; exact hmb.2)⟩, a147, a148, f145, (Or.inl ⟨by omega, by omega, (by have q9 : (I144 0 55) = x143 := (by rw [eI144, z_up_s]); show (I144 0 55).toInt = (I 0 55).toInt + 1; rw [q9]; first | done | omega)⟩)⟩
            · have g150 := z_f_eq rfl z_l2 c124
              have b151 := Int32.toInt_lt x123
              refine lv_iconst (v := 1) hx hb dX12_pour_168 (by decide) ?_
              refine lv_goto (tgt := 173) hx hb dX12_pour_169 (by decide) ?_
              refine z_zast (i := 42) hx hb hK hW hS rfl (z_ix rfl (by omega) (by omega)) dX12_pour_173 (fun H locs hz1 hW hS => ?_)
              obtain ⟨I152, eI152⟩ : ∃ K : z_I, K = z_up I118 42 (I 0 55).toNatClampNeg (vp_nar .boolean 1) := ⟨_, rfl⟩
              rw [← eI152] at hW
              have f153 := z_fr_a f119 (show z_wa L_X12_pour_e 42 = true by decide) eI152
              have a154 := z_rg_n a120 (by decide) eI152
              have a155 := z_rg_n a121 (by decide) eI152
              have a156 := z_rg_n a122 (by decide) eI152
              refine lv_aload_n hx hb dX12_pour_174 rfl (lv_at hl 0 rfl) ?_
              refine z_get (T := TX12) (N := 96) (ci := 12) (i := 0) (v := .ref (ad 41)) hx hb hts zj_X12_pour_X12 hown hK hW rfl rfl 64 (by decide) (hts (.fieldLink RX12 139 "PetrolBoardModel" "pourCome" "[I") (me_s (me_l (me_l (List.mem_of_getElem? (i := 11) rfl))))) (fun _ h => h) rfl dX12_pour_175 ?_
              refine lv_aload_n hx hb dX12_pour_178 rfl (lv_at hl 0 rfl) ?_
              refine z_get (T := TX12) (N := 96) (ci := 12) (i := 0) (v := .int (I 0 55)) hx hb hts zj_X12_pour_X12 hown hK hW rfl rfl 55 (by decide) (hts (.fieldLink RX12 468 "PetrolBoardModel" "pours" "I") (me_s (me_l (me_l (List.mem_of_getElem? (i := 1) rfl))))) (fun _ h => h) (congrArg Value.int (by rw [eI152, z_up_n (by decide), eI118, z_up_n (by decide), eI113, z_up_n (by decide), eI41, z_up_n (by decide), eI34, z_up_n (by decide), eI28, z_up_n (by decide), eI23, z_up_n (by decide), eI18, z_up_n (by decide)])) dX12_pour_179 ?_
              refine lv_aload_n hx hb dX12_pour_182 rfl (lv_at hl 0 rfl) ?_
              refine z_get (T := TX12) (N := 96) (ci := 12) (i := 0) (v := .int (I 0 56)) hx hb hts zj_X12_pour_X12 hown hK hW rfl rfl 56 (by decide) (hts (.fieldLink RX12 471 "PetrolBoardModel" "comes" "I") (me_s (me_l (me_l (List.mem_of_getElem? (i := 12) rfl))))) (fun _ h => h) (congrArg Value.int (by rw [eI152, z_up_n (by decide), eI118, z_up_n (by decide), eI113, z_up_n (by decide), eI41, z_up_n (by decide), eI34, z_up_n (by decide), eI28, z_up_n (by decide), eI23, z_up_n (by decide), eI18, z_up_n (by decide)])) dX12_pour_183 ?_
              refine z_iast (i := 41) hx hb hK hW hS rfl (z_ix rfl (by omega) (by omega)) dX12_pour_186 (fun H locs hz1 hW hS => ?_)
              obtain ⟨I157, eI157⟩ : ∃ K : z_I, K = z_up I152 41 (I 0 55).toNatClampNeg (I 0 56) := ⟨_, rfl⟩
              rw [← eI157] at hW
              have f158 := z_fr_a f153 (show z_wa L_X12_pour_e 41 = true by decide) eI157
              have a159 := z_rg_n a154 (by decide) eI157
              have a160 := z_rg_n a155 (by decide) eI157
              have a161 := z_rg_n a156 (by decide) eI157
              refine lv_aload_n hx hb dX12_pour_187 rfl (lv_at hl 0 rfl) ?_
              refine lv_dup hx hb dX12_pour_188 rfl ?_
              refine z_get (T := TX12) (N := 96) (ci := 12) (i := 0) (v := .int (I 0 56)) hx hb hts zj_X12_pour_X12 hown hK hW rfl rfl 56 (by decide) (hts (.fieldLink RX12 471 "PetrolBoardModel" "comes" "I") (me_s (me_l (me_l (List.mem_of_getElem? (i := 12) rfl))))) (fun _ h => h) (congrArg Value.int (by rw [eI157, z_up_n (by decide), eI152, z_up_n (by decide), eI118, z_up_n (by decide), eI113, z_up_n (by decide), eI41, z_up_n (by decide), eI34, z_up_n (by decide), eI28, z_up_n (by decide), eI23, z_up_n (by decide), eI18, z_up_n (by decide)])) dX12_pour_189 ?_
              refine lv_iconst (v := 1) hx hb dX12_pour_192 (by decide) ?_
              refine lv_iadd hx hb dX12_pour_193 ?_
              refine lv_topi (fun x162 ex162 => ?_)
              refine z_put (T := TX12) (N := 96) (ci := 12) (i := 0) (v := .int x162) (I1 := z_up I157 0 56 x162) (J1 := J) (P1 := PM ad) hx hb hts zj_X12_pour_X12 tyX12 tyX12_ok nmX12 hown hK hW hS rfl rfl 56 (by decide) (hts (.fieldLink RX12 471 "PetrolBoardModel" "comes" "I") (me_s (me_l (me_l (List.mem_of_getElem? (i := 12) rfl))))) (fun _ h => h) rfl rfl rfl (by first | rfl | exact congrArg _ z_up_s) (fun a b h ty => z_vI h ty) dX12_pour_194 (fun H locs hz1 hW hS => ?_)
              obtain ⟨I163, eI163⟩ : ∃ K : z_I, K = z_up I157 0 56 x162 := ⟨_, rfl⟩
              rw [← eI163] at hW
              have f164 := z_fr_k f158 (show z_wr L_X12_pour_e 0 56 = true by decide) eI163
              have a165 := z_rg_n a159 (by decide) eI163
              have a166 := z_rg_n a160 (by decide) eI163
              have a167 := z_rg_n a161 (by decide) eI163
              refine lv_aload_n hx hb dX12_pour_197 rfl (lv_at hl 0 rfl) ?_
              refine lv_dup hx hb dX12_pour_198 rfl ?_
              refine z_get (T := TX12) (N := 96) (ci := 12) (i := 0) (v := .int (I 0 55)) hx hb hts zj_X12_pour_X12 hown hK hW rfl rfl 55 (by decide) (hts (.fieldLink RX12 468 "PetrolBoardModel" "pours" "I") (me_s (me_l (me_l (List.mem_of_getElem? (i := 1) rfl))))) (fun _ h => h) (congrArg Value.int (by rw [eI163, z_up_k (by decide), eI157, z_up_n (by decide), eI152, z_up_n (by decide), eI118, z_up_n (by decide), eI113, z_up_n (by decide), eI41, z_up_n (by decide), eI34, z_up_n (by decide), eI28, z_up_n (by decide), eI23, z_up_n (by decide), eI18, z_up_n (by decide)])) dX12_pour_199 ?_
              refine lv_iconst (v := 1) hx hb dX12_pour_202 (by decide) ?_
              refine lv_iadd hx hb dX12_pour_203 ?_
              refine lv_topi (fun x168 ex168 => ?_)
              have tx168 : x168.toInt = (I 0 55).toInt + 1 := z_tadd ex168 rfl z_l1 (by omega) (by omega)
              refine z_put (T := TX12) (N := 96) (ci := 12) (i := 0) (v := .int x168) (I1 := z_up I163 0 55 x168) (J1 := J) (P1 := PM ad) hx hb hts zj_X12_pour_X12 tyX12 tyX12_ok nmX12 hown hK hW hS rfl rfl 55 (by decide) (hts (.fieldLink RX12 468 "PetrolBoardModel" "pours" "I") (me_s (me_l (me_l (List.mem_of_getElem? (i := 1) rfl))))) (fun _ h => h) rfl rfl rfl (by first | rfl | exact congrArg _ z_up_s) (fun a b h ty => z_vI h ty) dX12_pour_204 (fun H locs hz1 hW hS => ?_)
              obtain ⟨I169, eI169⟩ : ∃ K : z_I, K = z_up I163 0 55 x168 := ⟨_, rfl⟩
              rw [← eI169] at hW
              have f170 := z_fr_k f164 (show z_wr L_X12_pour_e 0 55 = true by decide) eI169
              have a171 := z_rg_n a165 (by decide) eI169
              have a172 := z_rg_n a166 (by decide) eI169
              have a173 := z_rg_n a167 (by decide) eI169
              refine lv_aload_n hx hb dX12_pour_207 rfl (lv_at hl 0 rfl) ?_
              refine z_get (T := TX12) (N := 96) (ci := 12) (i := 0) (v := .int x168) hx hb hts zj_X12_pour_X12 hown hK hW rfl rfl 55 (by decide) (hts (.fieldLink RX12 468 "PetrolBoardModel" "pours" "I") (me_s (me_l (me_l (List.mem_of_getElem? (i := 1) rfl))))) (fun _ h => h) (congrArg Value.int (by rw [eI169, z_up_s])) dX12_pour_208 ?_
              refine lv_iconst (v := 1) hx hb dX12_pour_211 (by decide) ?_
              refine lv_isub hx hb dX12_pour_212 ?_
              refine lv_topi (fun x174 ex174 => ?_)
              have tx174 : x174.toInt = x168.toInt - 1 := z_tsub ex174 rfl z_l1 (by omega) (by omega)
              exact z_iret hx hb hr hK hS (Nat.le_of_ble_eq_true rfl) (Nat.le_of_ble_eq_true rfl) hlocks dX12_pour_213 (shM, ad, I169, J, PM ad) hW ⟨I169, J, rfl, ⟨(by show 0 ≤ (I169 0 0).toInt ∧ (I169 0 0).toInt ≤ 719; rw [eI169, z_up_k (by decide), eI163, z_up_k (by decide), eI157, z_up_n (by decide), eI152, z_up_n (by decide), eI118, z_up_n (by decide), eI113, z_up_n (by decide), eI41, z_up_n (by decide), eI34, z_up_n (by decide), eI28, z_up_n (by decide), eI23, z_up_n (by decide), eI18, z_up_n (by decide)]; exact hma.1), (by show 0 ≤ (I169 0 1).toInt ∧ (I169 0 1).toInt ≤ 30; rw [eI169, z_up_k (by decide), eI163, z_up_k (by decide), eI157, z_up_n (by decide), eI152, z_up_n (by decide), eI118, z_up_n (by decide), eI113, z_up_n (by decide), eI41, z_up_n (by decide), eI34, z_up_n (by decide), eI28, z_up_n (by decide), eI23, z_up_n (by decide), eI18, z_up_n (by decide)]; exact hma.2.1), (by show 0 ≤ (I169 0 2).toInt ∧ (I169 0 2).toInt ≤ 200; rw [eI169, z_up_k (by decide), eI163, z_up_k (by decide), eI157, z_up_n (by decide), eI152, z_up_n (by decide), eI118, z_up_n (by decide), eI113, z_up_n (by decide), eI41, z_up_n (by decide), eI34, z_up_n (by decide), eI28, z_up_n (by decide), eI23, z_up_n (by decide), eI18, z_up_n (by decide)]; exact hma.2.2)⟩, ⟨(by show 0 ≤ (I169 0 54).toInt ∧ (I169 0 54).toInt ≤ 10; rw [eI169, z_up_k (by decide), eI163, z_up_k (by decide), eI157, z_up_n (by decide), eI152, z_up_n (by decide), eI118, z_up_n (by decide), eI113, z_up_n (by decide), eI41, z_up_n (by decide), eI34, z_up_n (by decide), eI28, z_up_n (by decide), eI23, z_up_n (by decide), eI18, z_up_n (by decide)]; exact hms.1), (by show 0 ≤ (I169 0 55).toInt ∧ (I169 0 55).toInt ≤ 300; rw [eI169, z_up_s]; omega)⟩, a171, ⟨(by show 0 ≤ (I169 0 13).toInt ∧ (I169 0 13).toInt ≤ 12; rw [eI169, z_up_k (by decide), eI163, z_up_k (by decide), eI157, z_up_n (by decide), eI152, z_up_n (by decide), eI118, z_up_n (by decide), eI113, z_up_n (by decide), eI41, z_up_n (by decide), eI34, z_up_n (by decide), eI28, z_up_n (by decide), eI23, z_up_n (by decide), eI18, z_up_n (by decide)]; exact hmb.1), (by show 0 ≤ (I169 0 14).toInt ∧ (I169 0 14).toInt ≤ 288; rw [eI169, z_up_k (by decide), eI163, z_up_k (by decide), eI157, z_up_n (by decide), eI152, z_up_n (by decide), eI118, z_up_n (by decide), eI113, z_up_n (by decide), eI41, z_up_n (by decide), eI34, z_up_n (by decide), eI28, z_up_n (by decide), eI23, z_up_n (by decide), eI18, z_up_n (by decide)]; exact hmb.2)⟩, a172, a173, f170, (Or.inl ⟨by omega, by omega, (by have q9 : (I169 0 55) = x168 := (by rw [eI169, z_up_s]); show (I169 0 55).toInt = (I 0 55).toInt + 1; rw [q9]; first | done | omega)⟩)⟩
        · have g175 := z_f_eq rfl z_l300 c16
          refine lv_iconst (v := (-1)) hx hb dX12_pour_37 (by decide) ?_
          exact z_iret hx hb hr hK hS (Nat.le_of_ble_eq_true rfl) (Nat.le_of_ble_eq_true rfl) hlocks dX12_pour_38 (shM, ad, I, J, PM ad) hW ⟨I, J, rfl, ⟨(by show 0 ≤ (I 0 0).toInt ∧ (I 0 0).toInt ≤ 719; exact hma.1), (by show 0 ≤ (I 0 1).toInt ∧ (I 0 1).toInt ≤ 30; exact hma.2.1), (by show 0 ≤ (I 0 2).toInt ∧ (I 0 2).toInt ≤ 200; exact hma.2.2)⟩, ⟨(by show 0 ≤ (I 0 54).toInt ∧ (I 0 54).toInt ≤ 10; exact hms.1), (by show 0 ≤ (I 0 55).toInt ∧ (I 0 55).toInt ≤ 300; exact hms.2)⟩, hApc, ⟨(by show 0 ≤ (I 0 13).toInt ∧ (I 0 13).toInt ≤ 12; exact hmb.1), (by show 0 ≤ (I 0 14).toInt ∧ (I 0 14).toInt ≤ 288; exact hmb.2)⟩, hAtf, hAtm, z_fr_0, (Or.inr ⟨by omega, by decide, (by show (I 0 55).toInt = (I 0 55).toInt; omega)⟩)⟩
      · have h176 := h9
        have z177 := z_l0
        have z178 := z_l99999
        refine lv_if_eq (tgt := 37) hx hb dX12_pour_24 (by decide) (fun c179 => ?_) (fun c179 => absurd (by decide) c179)
        refine lv_iconst (v := (-1)) hx hb dX12_pour_37 (by decide) ?_
        exact z_iret hx hb hr hK hS (Nat.le_of_ble_eq_true rfl) (Nat.le_of_ble_eq_true rfl) hlocks dX12_pour_38 (shM, ad, I, J, PM ad) hW ⟨I, J, rfl, ⟨(by show 0 ≤ (I 0 0).toInt ∧ (I 0 0).toInt ≤ 719; exact hma.1), (by show 0 ≤ (I 0 1).toInt ∧ (I 0 1).toInt ≤ 30; exact hma.2.1), (by show 0 ≤ (I 0 2).toInt ∧ (I 0 2).toInt ≤ 200; exact hma.2.2)⟩, ⟨(by show 0 ≤ (I 0 54).toInt ∧ (I 0 54).toInt ≤ 10; exact hms.1), (by show 0 ≤ (I 0 55).toInt ∧ (I 0 55).toInt ≤ 300; exact hms.2)⟩, hApc, ⟨(by show 0 ≤ (I 0 13).toInt ∧ (I 0 13).toInt ≤ 12; exact hmb.1), (by show 0 ≤ (I 0 14).toInt ∧ (I 0 14).toInt ≤ 288; exact hmb.2)⟩, hAtf, hAtm, z_fr_0, (Or.inr ⟨by omega, by decide, (by show (I 0 55).toInt = (I 0 55).toInt; omega)⟩)⟩
    · have h180 := h5
      have r181 : 0 ≤ (I 0 1).toInt ∧ (I 0 1).toInt ≤ 30 := hma.2.1
      refine lv_if_eq (tgt := 37) hx hb dX12_pour_13 (by decide) (fun c182 => ?_) (fun c182 => absurd (by decide) c182)
      refine lv_iconst (v := (-1)) hx hb dX12_pour_37 (by decide) ?_
      exact z_iret hx hb hr hK hS (Nat.le_of_ble_eq_true rfl) (Nat.le_of_ble_eq_true rfl) hlocks dX12_pour_38 (shM, ad, I, J, PM ad) hW ⟨I, J, rfl, ⟨(by show 0 ≤ (I 0 0).toInt ∧ (I 0 0).toInt ≤ 719; exact hma.1), (by show 0 ≤ (I 0 1).toInt ∧ (I 0 1).toInt ≤ 30; exact hma.2.1), (by show 0 ≤ (I 0 2).toInt ∧ (I 0 2).toInt ≤ 200; exact hma.2.2)⟩, ⟨(by show 0 ≤ (I 0 54).toInt ∧ (I 0 54).toInt ≤ 10; exact hms.1), (by show 0 ≤ (I 0 55).toInt ∧ (I 0 55).toInt ≤ 300; exact hms.2)⟩, hApc, ⟨(by show 0 ≤ (I 0 13).toInt ∧ (I 0 13).toInt ≤ 12; exact hmb.1), (by show 0 ≤ (I 0 14).toInt ∧ (I 0 14).toInt ≤ 288; exact hmb.2)⟩, hAtf, hAtm, z_fr_0, (Or.inr ⟨by omega, by decide, (by show (I 0 55).toInt = (I 0 55).toInt; omega)⟩)⟩
  · have h183 := h1
    have r184 : 0 ≤ (I 0 54).toInt ∧ (I 0 54).toInt ≤ 10 := hms.1
    refine lv_if_eq (tgt := 37) hx hb dX12_pour_5 (by decide) (fun c185 => ?_) (fun c185 => absurd (by decide) c185)
    refine lv_iconst (v := (-1)) hx hb dX12_pour_37 (by decide) ?_
    exact z_iret hx hb hr hK hS (Nat.le_of_ble_eq_true rfl) (Nat.le_of_ble_eq_true rfl) hlocks dX12_pour_38 (shM, ad, I, J, PM ad) hW ⟨I, J, rfl, ⟨(by show 0 ≤ (I 0 0).toInt ∧ (I 0 0).toInt ≤ 719; exact hma.1), (by show 0 ≤ (I 0 1).toInt ∧ (I 0 1).toInt ≤ 30; exact hma.2.1), (by show 0 ≤ (I 0 2).toInt ∧ (I 0 2).toInt ≤ 200; exact hma.2.2)⟩, ⟨(by show 0 ≤ (I 0 54).toInt ∧ (I 0 54).toInt ≤ 10; exact hms.1), (by show 0 ≤ (I 0 55).toInt ∧ (I 0 55).toInt ≤ 300; exact hms.2)⟩, hApc, ⟨(by show 0 ≤ (I 0 13).toInt ∧ (I 0 13).toInt ≤ 12; exact hmb.1), (by show 0 ≤ (I 0 14).toInt ∧ (I 0 14).toInt ≤ 288; exact hmb.2)⟩, hAtf, hAtm, z_fr_0, (Or.inr ⟨by omega, by decide, (by show (I 0 55).toInt = (I 0 55).toInt; omega)⟩)⟩