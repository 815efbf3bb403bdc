

set_option maxHeartbeats 8000000 in
set_option maxRecDepth 100000 in
theorem sx_X11_within_e (l : Launch) (G : z_G) (ad : Nat → Nat) (c : z_C) (I : z_I) (a1 : Int32) (a2 : Int32) (a3 : Int32) : z_M l yX11_within wsX11_within { frames := 1, cells := 0, slots := 0, locals := 12 } [.int a1, .int a2, .int a3] G (shC c, ad, I, JX, PC c ad) (fun r u1 => u1 = (shC c, ad, I, JX, PC c ad) ∧ ((r = 1 ∧ a2.toInt ≤ a1.toInt ∧ a1.toInt ≤ a3.toInt) ∨ (r = 0 ∧ ¬ (a2.toInt ≤ a1.toInt ∧ a1.toInt ≤ a3.toInt)))) 0 0 := by
  intro sz
  refine z_headQ (cc := cX11_within) (maxL := 3) (ret := (some .boolean)) (by decide) rfl (Nat.le_of_ble_eq_true rfl) ?_
  intro p e s m below meth c0 ls hIn hK hsz hW hl
  obtain ⟨hx, hb, hr, hml, hown, hts, hlocks, hname⟩ := hIn
  subst hsz
  have hown : s.vm.findClass RX11 = some m.cls := hown
  have hA : ∀ q : Nat, s.heap.size ≤ q → z_A (shC c, ad, I, JX, PC c ad) s.heap.size q := fun q h => Or.inr h
  generalize hAe : z_A (shC c, ad, I, JX, PC c ad) s.heap.size = A at *
  have hS : va_S A s.heap s.heap [] := va_S.rf
  have hl : lv_has ls 3 [(0, .int a1), (1, .int a2), (2, .int a3)] := hl
  refine lv_iload_n hx hb dX11_within_0 rfl (lv_at hl 0 rfl) ?_
  refine lv_iload_n hx hb dX11_within_1 rfl (lv_at hl 1 rfl) ?_
  refine lv_icmp_lt (tgt := 14) hx hb dX11_within_2 (by decide) (fun c1 => ?_) (fun c1 => ?_)
  · have g2 := z_f_lt rfl rfl c1
    have b3 := Int32.toInt_lt a1
    have b4 := Int32.toInt_lt a2
    refine lv_iconst (v := 0) hx hb dX11_within_14 (by decide) ?_
    exact z_zret hx hb hr (by decide) hK hS (Nat.le_of_ble_eq_true rfl) (Nat.le_of_ble_eq_true rfl) hlocks dX11_within_15 (shC c, ad, I, JX, PC c ad) hW ⟨rfl, (Or.inr ⟨rfl, by omega⟩)⟩
  · have g5 := z_f_nlt rfl rfl c1
    have b6 := Int32.toInt_lt a1
    have b7 := Int32.toInt_lt a2
    refine lv_iload_n hx hb dX11_within_5 rfl (lv_at hl 0 rfl) ?_
    refine lv_iload_n hx hb dX11_within_6 rfl (lv_at hl 2 rfl) ?_
    refine lv_icmp_gt (tgt := 14) hx hb dX11_within_7 (by decide) (fun c8 => ?_) (fun c8 => ?_)
    · have g9 := z_f_gt rfl rfl c8
      have b10 := Int32.toInt_lt a3
      refine lv_iconst (v := 0) hx hb dX11_within_14 (by decide) ?_
      exact z_zret hx hb hr (by decide) hK hS (Nat.le_of_ble_eq_true rfl) (Nat.le_of_ble_eq_true rfl) hlocks dX11_within_15 (shC c, ad, I, JX, PC c ad) hW ⟨rfl, (Or.inr ⟨rfl, by omega⟩)⟩
    · have g11 := z_f_ngt rfl rfl c8
      have b12 := Int32.toInt_lt a3
      refine lv_iconst (v := 1) hx hb dX11_within_10 (by decide) ?_
      refine lv_goto (tgt := 15) hx hb dX11_within_11 (by decide) ?_
      exact z_zret hx hb hr (by decide) hK hS (Nat.le_of_ble_eq_true rfl) (Nat.le_of_ble_eq_true rfl) hlocks dX11_within_15 (shC c, ad, I, JX, PC c ad) hW ⟨rfl, (Or.inl ⟨rfl, by omega⟩)⟩
set_option maxHeartbeats 8000000 in
set_option maxRecDepth 100000 in
theorem sx_X11_isReason_e (l : Launch) (G : z_G) (ad : Nat → Nat) (c : z_C) (I : z_I) (a1 : Int32) : z_M l yX11_isReason wsX11_isReason { frames := 2, cells := 0, slots := 0, locals := 34 } [.int a1] G (shC c, ad, I, JX, PC c ad) (fun r u1 => u1 = (shC c, ad, I, JX, PC c ad) ∧ ((r = 1 ∧ 0 ≤ a1.toInt ∧ a1.toInt ≤ 4) ∨ (r = 0 ∧ ¬ (0 ≤ a1.toInt ∧ a1.toInt ≤ 4)))) 0 0 := by
  intro sz
  refine z_headQ (cc := cX11_isReason) (maxL := 1) (ret := (some .boolean)) (by decide) rfl (Nat.le_of_ble_eq_true rfl) ?_
  intro p e s m below meth c0 ls hIn hK hsz hW hl
  obtain ⟨hx, hb, hr, hml, hown, hts, hlocks, hname⟩ := hIn
  subst hsz
  have hown : s.vm.findClass RX11 = some m.cls := hown
  have hA : ∀ q : Nat, s.heap.size ≤ q → z_A (shC c, ad, I, JX, PC c ad) s.heap.size q := fun q h => Or.inr h
  generalize hAe : z_A (shC c, ad, I, JX, PC c ad) s.heap.size = A at *
  have hS : va_S A s.heap s.heap [] := va_S.rf
  have hl : lv_has ls 1 [(0, .int a1)] := hl
  refine lv_iload_n hx hb dX11_isReason_0 rfl (lv_at hl 0 rfl) ?_
  refine lv_iconst (v := 0) hx hb dX11_isReason_1 (by decide) ?_
  refine lv_iconst (v := 4) hx hb dX11_isReason_2 (by decide) ?_
  refine z_ci hW hS hA (va_runS (As := [.int a1, .int 0, .int 4]) (rest := []) ⟨hx, hb, hml, hown, hts⟩ (sx_X11_within_e l G ad c I  a1 0 4 _) (va_cwS 3 hts gX11_isReason_X11_within rfl rfl rfl hy_X11_within.2 ⟨Nat.le_of_ble_eq_true rfl, Nat.le_of_ble_eq_true rfl⟩) (z_preS hK hW) rfl rfl hl.1 rfl (lv_room (Nat.le_of_ble_eq_true rfl)) dX11_isReason_3 ⟨Nat.le_of_ble_eq_true rfl, Nat.le_of_ble_eq_true rfl⟩) (fun r u1 H locs hp hW hS => ?_)
  obtain ⟨e9, hp⟩ := hp
  rw [e9] at hW
  rcases hp with ⟨rfl, h1⟩ | ⟨rfl, h1⟩
  · have h2 := h1
    have z3 := z_l0
    have z4 := z_l4
    exact z_zret hx hb hr (by decide) hK hS (Nat.le_of_ble_eq_true rfl) (Nat.le_of_ble_eq_true rfl) hlocks dX11_isReason_6 (shC c, ad, I, JX, PC c ad) hW ⟨rfl, (Or.inl ⟨rfl, by omega⟩)⟩
  · have h5 := h1
    have z6 := z_l0
    have z7 := z_l4
    exact z_zret hx hb hr (by decide) hK hS (Nat.le_of_ble_eq_true rfl) (Nat.le_of_ble_eq_true rfl) hlocks dX11_isReason_6 (shC c, ad, I, JX, PC c ad) hW ⟨rfl, (Or.inr ⟨rfl, by omega⟩)⟩
set_option maxHeartbeats 8000000 in
set_option maxRecDepth 100000 in
theorem sx_X11_isWay_e (l : Launch) (G : z_G) (ad : Nat → Nat) (c : z_C) (I : z_I) (a1 : Int32) : z_M l yX11_isWay wsX11_isWay { frames := 2, cells := 0, slots := 0, locals := 34 } [.int a1] G (shC c, ad, I, JX, PC c ad) (fun r u1 => u1 = (shC c, ad, I, JX, PC c ad) ∧ ((r = 1 ∧ 0 ≤ a1.toInt ∧ a1.toInt ≤ 99 ∧ a1.toInt / 10 ≠ a1.toInt % 10) ∨ (r = 0 ∧ ¬ (0 ≤ a1.toInt ∧ a1.toInt ≤ 99 ∧ a1.toInt / 10 ≠ a1.toInt % 10)))) 0 0 := by
  intro sz
  refine z_headQ (cc := cX11_isWay) (maxL := 1) (ret := (some .boolean)) (by decide) rfl (Nat.le_of_ble_eq_true rfl) ?_
  intro p e s m below meth c0 ls hIn hK hsz hW hl
  obtain ⟨hx, hb, hr, hml, hown, hts, hlocks, hname⟩ := hIn
  subst hsz
  have hown : s.vm.findClass RX11 = some m.cls := hown
  have hA : ∀ q : Nat, s.heap.size ≤ q → z_A (shC c, ad, I, JX, PC c ad) s.heap.size q := fun q h => Or.inr h
  generalize hAe : z_A (shC c, ad, I, JX, PC c ad) s.heap.size = A at *
  have hS : va_S A s.heap s.heap [] := va_S.rf
  have hl : lv_has ls 1 [(0, .int a1)] := hl
  refine lv_iload_n hx hb dX11_isWay_0 rfl (lv_at hl 0 rfl) ?_
  refine lv_iconst (v := 0) hx hb dX11_isWay_1 (by decide) ?_
  refine lv_bipush (v := 99) hx hb dX11_isWay_2 (by decide) ?_
  refine z_ci hW hS hA (va_runS (As := [.int a1, .int 0, .int 99]) (rest := []) ⟨hx, hb, hml, hown, hts⟩ (sx_X11_within_e l G ad c I  a1 0 99 _) (va_cwS 3 hts gX11_isWay_X11_within rfl rfl rfl hy_X11_within.2 ⟨Nat.le_of_ble_eq_true rfl, Nat.le_of_ble_eq_true rfl⟩) (z_preS hK hW) rfl rfl hl.1 rfl (lv_room (Nat.le_of_ble_eq_true rfl)) dX11_isWay_4 ⟨Nat.le_of_ble_eq_true rfl, Nat.le_of_ble_eq_true rfl⟩) (fun r u1 H locs hp hW hS => ?_)
  obtain ⟨e9, hp⟩ := hp
  rw [e9] at hW
  rcases hp with ⟨rfl, h1⟩ | ⟨rfl, h1⟩
  · have h2 := h1
    have z3 := z_l0
    have z4 := z_l99
    refine lv_if_eq (tgt := 25) hx hb dX11_isWay_7 (by decide) (fun c5 => absurd c5 (by decide)) (fun c5 => ?_)
    refine lv_iload_n hx hb dX11_isWay_10 rfl (lv_at hl 0 rfl) ?_
    refine lv_bipush (v := 10) hx hb dX11_isWay_11 (by decide) ?_
    refine lv_idiv hx hb dX11_isWay_13 (by decide) ?_
    refine lv_topi (fun x6 ex6 => ?_)
    have tx6 := z_tdiv ex6 rfl z_l10 (by decide)
    refine lv_iload_n hx hb dX11_isWay_14 rfl (lv_at hl 0 rfl) ?_
    refine lv_bipush (v := 10) hx hb dX11_isWay_15 (by decide) ?_
    refine lv_irem hx hb dX11_isWay_17 (by decide) ?_
    refine lv_topi (fun x7 ex7 => ?_)
    have tx7 := z_trem ex7 rfl z_l10 (by decide)
    refine lv_icmp_eq (tgt := 25) hx hb dX11_isWay_18 (by decide) (fun c8 => ?_) (fun c8 => ?_)
    · have g9 := z_f_eq rfl rfl c8
      refine lv_iconst (v := 0) hx hb dX11_isWay_25 (by decide) ?_
      exact z_zret hx hb hr (by decide) hK hS (Nat.le_of_ble_eq_true rfl) (Nat.le_of_ble_eq_true rfl) hlocks dX11_isWay_26 (shC c, ad, I, JX, PC c ad) hW ⟨rfl, (Or.inr ⟨rfl, by omega⟩)⟩
    · have g10 := z_f_ne rfl rfl c8
      refine lv_iconst (v := 1) hx hb dX11_isWay_21 (by decide) ?_
      refine lv_goto (tgt := 26) hx hb dX11_isWay_22 (by decide) ?_
      exact z_zret hx hb hr (by decide) hK hS (Nat.le_of_ble_eq_true rfl) (Nat.le_of_ble_eq_true rfl) hlocks dX11_isWay_26 (shC c, ad, I, JX, PC c ad) hW ⟨rfl, (Or.inl ⟨rfl, by omega⟩)⟩
  · have h11 := h1
    have z12 := z_l0
    have z13 := z_l99
    refine lv_if_eq (tgt := 25) hx hb dX11_isWay_7 (by decide) (fun c14 => ?_) (fun c14 => absurd (by decide) c14)
    refine lv_iconst (v := 0) hx hb dX11_isWay_25 (by decide) ?_
    exact z_zret hx hb hr (by decide) hK hS (Nat.le_of_ble_eq_true rfl) (Nat.le_of_ble_eq_true rfl) hlocks dX11_isWay_26 (shC c, ad, I, JX, PC c ad) hW ⟨rfl, (Or.inr ⟨rfl, by omega⟩)⟩
set_option maxHeartbeats 8000000 in
set_option maxRecDepth 100000 in
theorem sx_X2_has_e (l : Launch) (G : z_G) (ad : Nat → Nat) (c : z_C) (I : z_I) (hH : z_iH I) (a1 : Int32) : z_M l yX2_has wsX2_has { frames := 1, cells := 0, slots := 0, locals := 12 } [.ref (ad 1), .int a1] G (shC c, ad, I, JX, PC c ad) (fun r u1 => u1 = (shC c, ad, I, JX, PC c ad) ∧ ((r = 1 ∧ 0 ≤ a1.toInt ∧ a1.toInt < (I 1 5).toInt) ∨ (r = 0 ∧ ¬ (0 ≤ a1.toInt ∧ a1.toInt < (I 1 5).toInt)))) 0 0 := by
  intro sz
  refine z_headQ (cc := cX2_has) (maxL := 2) (ret := (some .boolean)) (by decide) rfl (Nat.le_of_ble_eq_true rfl) ?_
  intro p e s m below meth c0 ls hIn hK hsz hW hl
  obtain ⟨hx, hb, hr, hml, hown, hts, hlocks, hname⟩ := hIn
  subst hsz
  have hown : s.vm.findClass RX2 = some m.cls := hown
  have hA : ∀ q : Nat, s.heap.size ≤ q → z_A (shC c, ad, I, JX, PC c ad) s.heap.size q := fun q h => Or.inr h
  generalize hAe : z_A (shC c, ad, I, JX, PC c ad) s.heap.size = A at *
  have hS : va_S A s.heap s.heap [] := va_S.rf
  have hl : lv_has ls 2 [(0, .ref (ad 1)), (1, .int a1)] := hl
  refine lv_iload_n hx hb dX2_has_0 rfl (lv_at hl 1 rfl) ?_
  refine lv_if_lt (tgt := 22) hx hb dX2_has_1 (by decide) (fun c1 => ?_) (fun c1 => ?_)
  · have g2 := z_f_lt rfl z_l0 c1
    have b3 := Int32.toInt_lt a1
    refine lv_iconst (v := 0) hx hb dX2_has_22 (by decide) ?_
    exact z_zret hx hb hr (by decide) hK hS (Nat.le_of_ble_eq_true rfl) (Nat.le_of_ble_eq_true rfl) hlocks dX2_has_23 (shC c, ad, I, JX, PC c ad) hW ⟨rfl, (Or.inr ⟨rfl, by omega⟩)⟩
  · have g4 := z_f_nlt rfl z_l0 c1
    have b5 := Int32.toInt_lt a1
    refine lv_iload_n hx hb dX2_has_4 rfl (lv_at hl 1 rfl) ?_
    refine lv_aload_n hx hb dX2_has_5 rfl (lv_at hl 0 rfl) ?_
    have r6 : 0 ≤ (I 1 5).toInt ∧ (I 1 5).toInt ≤ 30 := hH.1
    refine z_get (T := TX2) (N := 12) (ci := 2) (i := 1) (v := .int (I 1 5)) hx hb hts zj_X2_has_X2 hown hK hW rfl rfl 5 (by decide) (hts (.fieldLink RX2 42 "PetrolBoard$Holders" "number" "I") (me_s (me_l (List.mem_of_getElem? (i := 0) rfl)))) (fun _ h => h) rfl dX2_has_6 ?_
    refine lv_icmp_ge (tgt := 22) hx hb dX2_has_9 (by decide) (fun c7 => ?_) (fun c7 => ?_)
    · have g8 := z_f_ge rfl rfl c7
      refine lv_iconst (v := 0) hx hb dX2_has_22 (by decide) ?_
      exact z_zret hx hb hr (by decide) hK hS (Nat.le_of_ble_eq_true rfl) (Nat.le_of_ble_eq_true rfl) hlocks dX2_has_23 (shC c, ad, I, JX, PC c ad) hW ⟨rfl, (Or.inr ⟨rfl, by omega⟩)⟩
    · have g9 := z_f_nge rfl rfl c7
      refine lv_iload_n hx hb dX2_has_12 rfl (lv_at hl 1 rfl) ?_
      refine lv_bipush (v := 30) hx hb dX2_has_13 (by decide) ?_
      refine lv_icmp_ge (tgt := 22) hx hb dX2_has_15 (by decide) (fun c10 => (by have g := z_f_ge rfl z_l30 c10; omega)) (fun c10 => ?_)
      have g11 := z_f_nge rfl z_l30 c10
      refine lv_iconst (v := 1) hx hb dX2_has_18 (by decide) ?_
      refine lv_goto (tgt := 23) hx hb dX2_has_19 (by decide) ?_
      exact z_zret hx hb hr (by decide) hK hS (Nat.le_of_ble_eq_true rfl) (Nat.le_of_ble_eq_true rfl) hlocks dX2_has_23 (shC c, ad, I, JX, PC c ad) hW ⟨rfl, (Or.inl ⟨rfl, by omega⟩)⟩
noncomputable def L_X2_add_e : z_L := [(2, 999), (3, 999), (4, 999), (5, 999), (6, 999), (1, 5)]
set_option maxHeartbeats 8000000 in
set_option maxRecDepth 100000 in
theorem sx_X2_add_e (l : Launch) (G : z_G) (ad : Nat → Nat) (c : z_C) (I : z_I) (hH : z_iH I) (a1 : Int32) (a2 : Int32) (a3 : Int32) (a4 : Int32) (a5 : Int32) : z_M l yX2_add wsX2_add { frames := 1, cells := 0, slots := 0, locals := 12 } [.ref (ad 1), .int a1, .int a2, .int a3, .int a4, .int a5] G (shC c, ad, I, JX, PC c ad) (fun r u1 => ∃ I1 : z_I, u1 = (shC c, ad, I1, JX, PC c ad) ∧ z_iH I1 ∧ z_fr L_X2_add_e I1 I ∧ ((((I 1 5).toInt < 30) ∧ r.toInt = (I 1 5).toInt ∧ (I1 1 5).toInt = (I 1 5).toInt + 1) ∨ (¬ ((I 1 5).toInt < 30) ∧ r.toInt = -1 ∧ (I1 1 5).toInt = (I 1 5).toInt))) 0 0 := by
  intro sz
  refine z_headQ (cc := cX2_add) (maxL := 6) (ret := (some .int)) (by decide) rfl (Nat.le_of_ble_eq_true rfl) ?_
  intro p e s m below meth c0 ls hIn hK hsz hW hl
  obtain ⟨hx, hb, hr, hml, hown, hts, hlocks, hname⟩ := hIn
  subst hsz
  have hown : s.vm.findClass RX2 = some m.cls := hown
  have hA : ∀ q : Nat, s.heap.size ≤ q → z_A (shC c, ad, I, JX, PC c ad) s.heap.size q := fun q h => Or.inr h
  generalize hAe : z_A (shC c, ad, I, JX, PC c ad) s.heap.size = A at *
  have hS : va_S A s.heap s.heap [] := va_S.rf
  have hl : lv_has ls 6 [(0, .ref (ad 1)), (1, .int a1), (2, .int a2), (3, .int a3), (4, .int a4), (5, .int a5)] := hl
  refine lv_aload_n hx hb dX2_add_0 rfl (lv_at hl 0 rfl) ?_
  have r1 : 0 ≤ (I 1 5).toInt ∧ (I 1 5).toInt ≤ 30 := hH.1
  refine z_get (T := TX2) (N := 12) (ci := 2) (i := 1) (v := .int (I 1 5)) hx hb hts zj_X2_add_X2 hown hK hW rfl rfl 5 (by decide) (hts (.fieldLink RX2 42 "PetrolBoard$Holders" "number" "I") (me_s (me_l (List.mem_of_getElem? (i := 0) rfl)))) (fun _ h => h) rfl dX2_add_1 ?_
  refine lv_bipush (v := 30) hx hb dX2_add_4 (by decide) ?_
  refine lv_icmp_lt (tgt := 11) hx hb dX2_add_6 (by decide) (fun c2 => ?_) (fun c2 => ?_)
  · have g3 := z_f_lt rfl z_l30 c2
    refine lv_aload_n hx hb dX2_add_11 rfl (lv_at hl 0 rfl) ?_
    refine z_get (T := TX2) (N := 12) (ci := 2) (i := 1) (v := .ref (ad 2)) hx hb hts zj_X2_add_X2 hown hK hW rfl rfl 0 (by decide) (hts (.fieldLink RX2 9 "PetrolBoard$Holders" "size" "[I") (me_s (me_l (List.mem_of_getElem? (i := 1) rfl)))) (fun _ h => h) rfl dX2_add_12 ?_
    refine lv_aload_n hx hb dX2_add_15 rfl (lv_at hl 0 rfl) ?_
    refine z_get (T := TX2) (N := 12) (ci := 2) (i := 1) (v := .int (I 1 5)) hx hb hts zj_X2_add_X2 hown hK hW rfl rfl 5 (by decide) (hts (.fieldLink RX2 42 "PetrolBoard$Holders" "number" "I") (me_s (me_l (List.mem_of_getElem? (i := 0) rfl)))) (fun _ h => h) rfl dX2_add_16 ?_
    refine lv_iload_n hx hb dX2_add_19 rfl (lv_at hl 1 rfl) ?_
    refine z_iast (i := 2) hx hb hK hW hS rfl (z_ix rfl (by omega) (by omega)) dX2_add_20 (fun H locs hz1 hW hS => ?_)
    obtain ⟨I4, eI4⟩ : ∃ K : z_I, K = z_up I 2 (I 1 5).toNatClampNeg a1 := ⟨_, rfl⟩
    rw [← eI4] at hW
    have f5 := z_fr_a z_fr_0 (show z_wa L_X2_add_e 2 = true by decide) eI4
    refine lv_aload_n hx hb dX2_add_21 rfl (lv_at hl 0 rfl) ?_
    refine z_get (T := TX2) (N := 12) (ci := 2) (i := 1) (v := .ref (ad 3)) hx hb hts zj_X2_add_X2 hown hK hW rfl rfl 1 (by decide) (hts (.fieldLink RX2 15 "PetrolBoard$Holders" "town" "[I") (me_s (me_l (List.mem_of_getElem? (i := 2) rfl)))) (fun _ h => h) rfl dX2_add_22 ?_
    refine lv_aload_n hx hb dX2_add_25 rfl (lv_at hl 0 rfl) ?_
    refine z_get (T := TX2) (N := 12) (ci := 2) (i := 1) (v := .int (I 1 5)) hx hb hts zj_X2_add_X2 hown hK hW rfl rfl 5 (by decide) (hts (.fieldLink RX2 42 "PetrolBoard$Holders" "number" "I") (me_s (me_l (List.mem_of_getElem? (i := 0) rfl)))) (fun _ h => h) (congrArg Value.int (by rw [eI4, z_up_n (by decide)])) dX2_add_26 ?_
    refine lv_iload_n hx hb dX2_add_29 rfl (lv_at hl 2 rfl) ?_
    refine z_iast (i := 3) hx hb hK hW hS rfl (z_ix rfl (by omega) (by omega)) dX2_add_30 (fun H locs hz1 hW hS => ?_)
    obtain ⟨I6, eI6⟩ : ∃ K : z_I, K = z_up I4 3 (I 1 5).toNatClampNeg a2 := ⟨_, rfl⟩
    rw [← eI6] at hW
    have f7 := z_fr_a f5 (show z_wa L_X2_add_e 3 = true by decide) eI6
    refine lv_aload_n hx hb dX2_add_31 rfl (lv_at hl 0 rfl) ?_
    refine z_get (T := TX2) (N := 12) (ci := 2) (i := 1) (v := .ref (ad 4)) hx hb hts zj_X2_add_X2 hown hK hW rfl rfl 2 (by decide) (hts (.fieldLink RX2 18 "PetrolBoard$Holders" "seats" "[I") (me_s (me_l (List.mem_of_getElem? (i := 3) rfl)))) (fun _ h => h) rfl dX2_add_32 ?_
    refine lv_aload_n hx hb dX2_add_35 rfl (lv_at hl 0 rfl) ?_
    refine z_get (T := TX2) (N := 12) (ci := 2) (i := 1) (v := .int (I 1 5)) hx hb hts zj_X2_add_X2 hown hK hW rfl rfl 5 (by decide) (hts (.fieldLink RX2 42 "PetrolBoard$Holders" "number" "I") (me_s (me_l (List.mem_of_getElem? (i := 0) rfl)))) (fun _ h => h) (congrArg Value.int (by rw [eI6, z_up_n (by decide), eI4, z_up_n (by decide)])) dX2_add_36 ?_
    refine lv_iload_n hx hb dX2_add_39 rfl (lv_at hl 3 rfl) ?_
    refine z_iast (i := 4) hx hb hK hW hS rfl (z_ix rfl (by omega) (by omega)) dX2_add_40 (fun H locs hz1 hW hS => ?_)
    obtain ⟨I8, eI8⟩ : ∃ K : z_I, K = z_up I6 4 (I 1 5).toNatClampNeg a3 := ⟨_, rfl⟩
    rw [← eI8] at hW
    have f9 := z_fr_a f7 (show z_wa L_X2_add_e 4 = true by decide) eI8
    refine lv_aload_n hx hb dX2_add_41 rfl (lv_at hl 0 rfl) ?_
    refine z_get (T := TX2) (N := 12) (ci := 2) (i := 1) (v := .ref (ad 5)) hx hb hts zj_X2_add_X2 hown hK hW rfl rfl 3 (by decide) (hts (.fieldLink RX2 21 "PetrolBoard$Holders" "bid" "[I") (me_s (me_l (List.mem_of_getElem? (i := 4) rfl)))) (fun _ h => h) rfl dX2_add_42 ?_
    refine lv_aload_n hx hb dX2_add_45 rfl (lv_at hl 0 rfl) ?_
    refine z_get (T := TX2) (N := 12) (ci := 2) (i := 1) (v := .int (I 1 5)) hx hb hts zj_X2_add_X2 hown hK hW rfl rfl 5 (by decide) (hts (.fieldLink RX2 42 "PetrolBoard$Holders" "number" "I") (me_s (me_l (List.mem_of_getElem? (i := 0) rfl)))) (fun _ h => h) (congrArg Value.int (by rw [eI8, z_up_n (by decide), eI6, z_up_n (by decide), eI4, z_up_n (by decide)])) dX2_add_46 ?_
    refine lv_iload hx hb dX2_add_49 (lv_at hl 4 rfl) ?_
    refine z_iast (i := 5) hx hb hK hW hS rfl (z_ix rfl (by omega) (by omega)) dX2_add_51 (fun H locs hz1 hW hS => ?_)
    obtain ⟨I10, eI10⟩ : ∃ K : z_I, K = z_up I8 5 (I 1 5).toNatClampNeg a4 := ⟨_, rfl⟩
    rw [← eI10] at hW
    have f11 := z_fr_a f9 (show z_wa L_X2_add_e 5 = true by decide) eI10
    refine lv_aload_n hx hb dX2_add_52 rfl (lv_at hl 0 rfl) ?_
    refine z_get (T := TX2) (N := 12) (ci := 2) (i := 1) (v := .ref (ad 6)) hx hb hts zj_X2_add_X2 hown hK hW rfl rfl 4 (by decide) (hts (.fieldLink RX2 24 "PetrolBoard$Holders" "need" "[I") (me_s (me_l (List.mem_of_getElem? (i := 5) rfl)))) (fun _ h => h) rfl dX2_add_53 ?_
    refine lv_aload_n hx hb dX2_add_56 rfl (lv_at hl 0 rfl) ?_
    refine z_get (T := TX2) (N := 12) (ci := 2) (i := 1) (v := .int (I 1 5)) hx hb hts zj_X2_add_X2 hown hK hW rfl rfl 5 (by decide) (hts (.fieldLink RX2 42 "PetrolBoard$Holders" "number" "I") (me_s (me_l (List.mem_of_getElem? (i := 0) rfl)))) (fun _ h => h) (congrArg Value.int (by rw [eI10, z_up_n (by decide), eI8, z_up_n (by decide), eI6, z_up_n (by decide), eI4, z_up_n (by decide)])) dX2_add_57 ?_
    refine lv_iload hx hb dX2_add_60 (lv_at hl 5 rfl) ?_
    refine z_iast (i := 6) hx hb hK hW hS rfl (z_ix rfl (by omega) (by omega)) dX2_add_62 (fun H locs hz1 hW hS => ?_)
    obtain ⟨I12, eI12⟩ : ∃ K : z_I, K = z_up I10 6 (I 1 5).toNatClampNeg a5 := ⟨_, rfl⟩
    rw [← eI12] at hW
    have f13 := z_fr_a f11 (show z_wa L_X2_add_e 6 = true by decide) eI12
    refine lv_aload_n hx hb dX2_add_63 rfl (lv_at hl 0 rfl) ?_
    refine lv_dup hx hb dX2_add_64 rfl ?_
    refine z_get (T := TX2) (N := 12) (ci := 2) (i := 1) (v := .int (I 1 5)) hx hb hts zj_X2_add_X2 hown hK hW rfl rfl 5 (by decide) (hts (.fieldLink RX2 42 "PetrolBoard$Holders" "number" "I") (me_s (me_l (List.mem_of_getElem? (i := 0) rfl)))) (fun _ h => h) (congrArg Value.int (by rw [eI12, z_up_n (by decide), eI10, z_up_n (by decide), eI8, z_up_n (by decide), eI6, z_up_n (by decide), eI4, z_up_n (by decide)])) dX2_add_65 ?_
    refine lv_iconst (v := 1) hx hb dX2_add_68 (by decide) ?_
    refine lv_iadd hx hb dX2_add_69 ?_
    refine lv_topi (fun x14 ex14 => ?_)
    have tx14 : x14.toInt = (I 1 5).toInt + 1 := z_tadd ex14 rfl z_l1 (by omega) (by omega)
    refine z_put (T := TX2) (N := 12) (ci := 2) (i := 1) (v := .int x14) (I1 := z_up I12 1 5 x14) (J1 := JX) (P1 := PC c ad) hx hb hts zj_X2_add_X2 tyX2 tyX2_ok nmX2 hown hK hW hS rfl rfl 5 (by decide) (hts (.fieldLink RX2 42 "PetrolBoard$Holders" "number" "I") (me_s (me_l (List.mem_of_getElem? (i := 0) rfl)))) (fun _ h => h) rfl rfl rfl (by first | rfl | exact congrArg _ z_up_s) (fun a b h ty => z_vI h ty) dX2_add_70 (fun H locs hz1 hW hS => ?_)
    obtain ⟨I15, eI15⟩ : ∃ K : z_I, K = z_up I12 1 5 x14 := ⟨_, rfl⟩
    rw [← eI15] at hW
    have f16 := z_fr_k f13 (show z_wr L_X2_add_e 1 5 = true by decide) eI15
    refine lv_aload_n hx hb dX2_add_73 rfl (lv_at hl 0 rfl) ?_
    refine z_get (T := TX2) (N := 12) (ci := 2) (i := 1) (v := .int x14) hx hb hts zj_X2_add_X2 hown hK hW rfl rfl 5 (by decide) (hts (.fieldLink RX2 42 "PetrolBoard$Holders" "number" "I") (me_s (me_l (List.mem_of_getElem? (i := 0) rfl)))) (fun _ h => h) (congrArg Value.int (by rw [eI15, z_up_s])) dX2_add_74 ?_
    refine lv_iconst (v := 1) hx hb dX2_add_77 (by decide) ?_
    refine lv_isub hx hb dX2_add_78 ?_
    refine lv_topi (fun x17 ex17 => ?_)
    have tx17 : x17.toInt = x14.toInt - 1 := z_tsub ex17 rfl z_l1 (by omega) (by omega)
    exact z_iret hx hb hr hK hS (Nat.le_of_ble_eq_true rfl) (Nat.le_of_ble_eq_true rfl) hlocks dX2_add_79 (shC c, ad, I15, JX, PC c ad) hW ⟨I15, rfl, ⟨(by show 0 ≤ (I15 1 5).toInt ∧ (I15 1 5).toInt ≤ 30; rw [eI15, z_up_s]; omega), (by show 0 ≤ (I15 1 11).toInt ∧ (I15 1 11).toInt ≤ 200; rw [eI15, z_up_k (by decide), eI12, z_up_n (by decide), eI10, z_up_n (by decide), eI8, z_up_n (by decide), eI6, z_up_n (by decide), eI4, z_up_n (by decide)]; exact hH.2)⟩, f16, (Or.inl ⟨by omega, by omega, (by have q9 : (I15 1 5) = x14 := (by rw [eI15, z_up_s]); show (I15 1 5).toInt = (I 1 5).toInt + 1; rw [q9]; first | done | omega)⟩)⟩
  · have g18 := z_f_nlt rfl z_l30 c2
    refine lv_iconst (v := (-1)) hx hb dX2_add_9 (by decide) ?_
    exact z_iret hx hb hr hK hS (Nat.le_of_ble_eq_true rfl) (Nat.le_of_ble_eq_true rfl) hlocks dX2_add_10 (shC c, ad, I, JX, PC c ad) hW ⟨I, rfl, ⟨(by show 0 ≤ (I 1 5).toInt ∧ (I 1 5).toInt ≤ 30; exact hH.1), (by show 0 ≤ (I 1 11).toInt ∧ (I 1 11).toInt ≤ 200; exact hH.2)⟩, z_fr_0, (Or.inr ⟨by omega, by decide, (by show (I 1 5).toInt = (I 1 5).toInt; omega)⟩)⟩
noncomputable def L_X3_add_e : z_L := [(61, 999), (62, 999), (63, 999), (64, 999), (65, 999), (66, 999), (60, 9)]
set_option maxHeartbeats 8000000 in
set_option maxRecDepth 100000 in
theorem sx_X3_add_e (l : Launch) (G : z_G) (ad : Nat → Nat) (c : z_C) (I : z_I) (hJ : z_iJ I) (a1 : Int32) (a2 : Int32) (a3 : Int32) (a4 : Int32) (a5 : Int32) (a6 : Int32) : z_M l yX3_add wsX3_add { frames := 1, cells := 0, slots := 0, locals := 12 } [.ref (ad 60), .int a1, .int a2, .int a3, .int a4, .int a5, .int a6] G (shC c, ad, I, JX, PC c ad) (fun r u1 => ∃ I1 : z_I, u1 = (shC c, ad, I1, JX, PC c ad) ∧ z_iJ I1 ∧ z_fr L_X3_add_e I1 I ∧ ((((I 60 9).toInt < 60) ∧ r.toInt = (I 60 9).toInt ∧ (I1 60 9).toInt = (I 60 9).toInt + 1) ∨ (¬ ((I 60 9).toInt < 60) ∧ r.toInt = -1 ∧ (I1 60 9).toInt = (I 60 9).toInt))) 0 0 := by
  intro sz
  refine z_headQ (cc := cX3_add) (maxL := 7) (ret := (some .int)) (by decide) rfl (Nat.le_of_ble_eq_true rfl) ?_
  intro p e s m below meth c0 ls hIn hK hsz hW hl
  obtain ⟨hx, hb, hr, hml, hown, hts, hlocks, hname⟩ := hIn
  subst hsz
  have hown : s.vm.findClass RX3 = some m.cls := hown
  have hA : ∀ q : Nat, s.heap.size ≤ q → z_A (shC c, ad, I, JX, PC c ad) s.heap.size q := fun q h => Or.inr h
  generalize hAe : z_A (shC c, ad, I, JX, PC c ad) s.heap.size = A at *
  have hS : va_S A s.heap s.heap [] := va_S.rf
  have hl : lv_has ls 7 [(0, .ref (ad 60)), (1, .int a1), (2, .int a2), (3, .int a3), (4, .int a4), (5, .int a5), (6, .int a6)] := hl
  refine lv_aload_n hx hb dX3_add_0 rfl (lv_at hl 0 rfl) ?_
  have r1 : 0 ≤ (I 60 9).toInt ∧ (I 60 9).toInt ≤ 60 := hJ.1
  refine z_get (T := TX3) (N := 17) (ci := 3) (i := 60) (v := .int (I 60 9)) hx hb hts zj_X3_add_X3 hown hK hW rfl rfl 9 (by decide) (hts (.fieldLink RX3 45 "PetrolBoard$Journeys" "number" "I") (me_s (me_l (List.mem_of_getElem? (i := 0) rfl)))) (fun _ h => h) rfl dX3_add_1 ?_
  refine lv_bipush (v := 60) hx hb dX3_add_4 (by decide) ?_
  refine lv_icmp_lt (tgt := 11) hx hb dX3_add_6 (by decide) (fun c2 => ?_) (fun c2 => ?_)
  · have g3 := z_f_lt rfl z_l60 c2
    refine lv_aload_n hx hb dX3_add_11 rfl (lv_at hl 0 rfl) ?_
    refine z_get (T := TX3) (N := 17) (ci := 3) (i := 60) (v := .ref (ad 61)) hx hb hts zj_X3_add_X3 hown hK hW rfl rfl 0 (by decide) (hts (.fieldLink RX3 9 "PetrolBoard$Journeys" "holder" "[I") (me_s (me_l (List.mem_of_getElem? (i := 1) rfl)))) (fun _ h => h) rfl dX3_add_12 ?_
    refine lv_aload_n hx hb dX3_add_15 rfl (lv_at hl 0 rfl) ?_
    refine z_get (T := TX3) (N := 17) (ci := 3) (i := 60) (v := .int (I 60 9)) hx hb hts zj_X3_add_X3 hown hK hW rfl rfl 9 (by decide) (hts (.fieldLink RX3 45 "PetrolBoard$Journeys" "number" "I") (me_s (me_l (List.mem_of_getElem? (i := 0) rfl)))) (fun _ h => h) rfl dX3_add_16 ?_
    refine lv_iload_n hx hb dX3_add_19 rfl (lv_at hl 1 rfl) ?_
    refine z_iast (i := 61) hx hb hK hW hS rfl (z_ix rfl (by omega) (by omega)) dX3_add_20 (fun H locs hz1 hW hS => ?_)
    obtain ⟨I4, eI4⟩ : ∃ K : z_I, K = z_up I 61 (I 60 9).toNatClampNeg a1 := ⟨_, rfl⟩
    rw [← eI4] at hW
    have f5 := z_fr_a z_fr_0 (show z_wa L_X3_add_e 61 = true by decide) eI4
    refine lv_aload_n hx hb dX3_add_21 rfl (lv_at hl 0 rfl) ?_
    refine z_get (T := TX3) (N := 17) (ci := 3) (i := 60) (v := .ref (ad 62)) hx hb hts zj_X3_add_X3 hown hK hW rfl rfl 1 (by decide) (hts (.fieldLink RX3 15 "PetrolBoard$Journeys" "miles" "[I") (me_s (me_l (List.mem_of_getElem? (i := 2) rfl)))) (fun _ h => h) rfl dX3_add_22 ?_
    refine lv_aload_n hx hb dX3_add_25 rfl (lv_at hl 0 rfl) ?_
    refine z_get (T := TX3) (N := 17) (ci := 3) (i := 60) (v := .int (I 60 9)) hx hb hts zj_X3_add_X3 hown hK hW rfl rfl 9 (by decide) (hts (.fieldLink RX3 45 "PetrolBoard$Journeys" "number" "I") (me_s (me_l (List.mem_of_getElem? (i := 0) rfl)))) (fun _ h => h) (congrArg Value.int (by rw [eI4, z_up_n (by decide)])) dX3_add_26 ?_
    refine lv_iload_n hx hb dX3_add_29 rfl (lv_at hl 2 rfl) ?_
    refine z_iast (i := 62) hx hb hK hW hS rfl (z_ix rfl (by omega) (by omega)) dX3_add_30 (fun H locs hz1 hW hS => ?_)
    obtain ⟨I6, eI6⟩ : ∃ K : z_I, K = z_up I4 62 (I 60 9).toNatClampNeg a2 := ⟨_, rfl⟩
    rw [← eI6] at hW
    have f7 := z_fr_a f5 (show z_wa L_X3_add_e 62 = true by decide) eI6
    refine lv_aload_n hx hb dX3_add_31 rfl (lv_at hl 0 rfl) ?_
    refine z_get (T := TX3) (N := 17) (ci := 3) (i := 60) (v := .ref (ad 63)) hx hb hts zj_X3_add_X3 hown hK hW rfl rfl 2 (by decide) (hts (.fieldLink RX3 18 "PetrolBoard$Journeys" "people" "[I") (me_s (me_l (List.mem_of_getElem? (i := 3) rfl)))) (fun _ h => h) rfl dX3_add_32 ?_
    refine lv_aload_n hx hb dX3_add_35 rfl (lv_at hl 0 rfl) ?_
    refine z_get (T := TX3) (N := 17) (ci := 3) (i := 60) (v := .int (I 60 9)) hx hb hts zj_X3_add_X3 hown hK hW rfl rfl 9 (by decide) (hts (.fieldLink RX3 45 "PetrolBoard$Journeys" "number" "I") (me_s (me_l (List.mem_of_getElem? (i := 0) rfl)))) (fun _ h => h) (congrArg Value.int (by rw [eI6, z_up_n (by decide), eI4, z_up_n (by decide)])) dX3_add_36 ?_
    refine lv_iload_n hx hb dX3_add_39 rfl (lv_at hl 3 rfl) ?_
    refine z_iast (i := 63) hx hb hK hW hS rfl (z_ix rfl (by omega) (by omega)) dX3_add_40 (fun H locs hz1 hW hS => ?_)
    obtain ⟨I8, eI8⟩ : ∃ K : z_I, K = z_up I6 63 (I 60 9).toNatClampNeg a3 := ⟨_, rfl⟩
    rw [← eI8] at hW
    have f9 := z_fr_a f7 (show z_wa L_X3_add_e 63 = true by decide) eI8
    refine lv_aload_n hx hb dX3_add_41 rfl (lv_at hl 0 rfl) ?_
    refine z_get (T := TX3) (N := 17) (ci := 3) (i := 60) (v := .ref (ad 64)) hx hb hts zj_X3_add_X3 hown hK hW rfl rfl 3 (by decide) (hts (.fieldLink RX3 21 "PetrolBoard$Journeys" "reason" "[I") (me_s (me_l (List.mem_of_getElem? (i := 4) rfl)))) (fun _ h => h) rfl dX3_add_42 ?_
    refine lv_aload_n hx hb dX3_add_45 rfl (lv_at hl 0 rfl) ?_
    refine z_get (T := TX3) (N := 17) (ci := 3) (i := 60) (v := .int (I 60 9)) hx hb hts zj_X3_add_X3 hown hK hW rfl rfl 9 (by decide) (hts (.fieldLink RX3 45 "PetrolBoard$Journeys" "number" "I") (me_s (me_l (List.mem_of_getElem? (i := 0) rfl)))) (fun _ h => h) (congrArg Value.int (by rw [eI8, z_up_n (by decide), eI6, z_up_n (by decide), eI4, z_up_n (by decide)])) dX3_add_46 ?_
    refine lv_iload hx hb dX3_add_49 (lv_at hl 4 rfl) ?_
    refine z_iast (i := 64) hx hb hK hW hS rfl (z_ix rfl (by omega) (by omega)) dX3_add_51 (fun H locs hz1 hW hS => ?_)
    obtain ⟨I10, eI10⟩ : ∃ K : z_I, K = z_up I8 64 (I 60 9).toNatClampNeg a4 := ⟨_, rfl⟩
    rw [← eI10] at hW
    have f11 := z_fr_a f9 (show z_wa L_X3_add_e 64 = true by decide) eI10
    refine lv_aload_n hx hb dX3_add_52 rfl (lv_at hl 0 rfl) ?_
    refine z_get (T := TX3) (N := 17) (ci := 3) (i := 60) (v := .ref (ad 65)) hx hb hts zj_X3_add_X3 hown hK hW rfl rfl 4 (by decide) (hts (.fieldLink RX3 24 "PetrolBoard$Journeys" "day" "[I") (me_s (me_l (List.mem_of_getElem? (i := 5) rfl)))) (fun _ h => h) rfl dX3_add_53 ?_
    refine lv_aload_n hx hb dX3_add_56 rfl (lv_at hl 0 rfl) ?_
    refine z_get (T := TX3) (N := 17) (ci := 3) (i := 60) (v := .int (I 60 9)) hx hb hts zj_X3_add_X3 hown hK hW rfl rfl 9 (by decide) (hts (.fieldLink RX3 45 "PetrolBoard$Journeys" "number" "I") (me_s (me_l (List.mem_of_getElem? (i := 0) rfl)))) (fun _ h => h) (congrArg Value.int (by rw [eI10, z_up_n (by decide), eI8, z_up_n (by decide), eI6, z_up_n (by decide), eI4, z_up_n (by decide)])) dX3_add_57 ?_
    refine lv_iload hx hb dX3_add_60 (lv_at hl 5 rfl) ?_
    refine z_iast (i := 65) hx hb hK hW hS rfl (z_ix rfl (by omega) (by omega)) dX3_add_62 (fun H locs hz1 hW hS => ?_)
    obtain ⟨I12, eI12⟩ : ∃ K : z_I, K = z_up I10 65 (I 60 9).toNatClampNeg a5 := ⟨_, rfl⟩
    rw [← eI12] at hW
    have f13 := z_fr_a f11 (show z_wa L_X3_add_e 65 = true by decide) eI12
    refine lv_aload_n hx hb dX3_add_63 rfl (lv_at hl 0 rfl) ?_
    refine z_get (T := TX3) (N := 17) (ci := 3) (i := 60) (v := .ref (ad 66)) hx hb hts zj_X3_add_X3 hown hK hW rfl rfl 5 (by decide) (hts (.fieldLink RX3 27 "PetrolBoard$Journeys" "way" "[I") (me_s (me_l (List.mem_of_getElem? (i := 6) rfl)))) (fun _ h => h) rfl dX3_add_64 ?_
    refine lv_aload_n hx hb dX3_add_67 rfl (lv_at hl 0 rfl) ?_
    refine z_get (T := TX3) (N := 17) (ci := 3) (i := 60) (v := .int (I 60 9)) hx hb hts zj_X3_add_X3 hown hK hW rfl rfl 9 (by decide) (hts (.fieldLink RX3 45 "PetrolBoard$Journeys" "number" "I") (me_s (me_l (List.mem_of_getElem? (i := 0) rfl)))) (fun _ h => h) (congrArg Value.int (by rw [eI12, z_up_n (by decide), eI10, z_up_n (by decide), eI8, z_up_n (by decide), eI6, z_up_n (by decide), eI4, z_up_n (by decide)])) dX3_add_68 ?_
    refine lv_iload hx hb dX3_add_71 (lv_at hl 6 rfl) ?_
    refine z_iast (i := 66) hx hb hK hW hS rfl (z_ix rfl (by omega) (by omega)) dX3_add_73 (fun H locs hz1 hW hS => ?_)
    obtain ⟨I14, eI14⟩ : ∃ K : z_I, K = z_up I12 66 (I 60 9).toNatClampNeg a6 := ⟨_, rfl⟩
    rw [← eI14] at hW
    have f15 := z_fr_a f13 (show z_wa L_X3_add_e 66 = true by decide) eI14
    refine lv_aload_n hx hb dX3_add_74 rfl (lv_at hl 0 rfl) ?_
    refine lv_dup hx hb dX3_add_75 rfl ?_
    refine z_get (T := TX3) (N := 17) (ci := 3) (i := 60) (v := .int (I 60 9)) hx hb hts zj_X3_add_X3 hown hK hW rfl rfl 9 (by decide) (hts (.fieldLink RX3 45 "PetrolBoard$Journeys" "number" "I") (me_s (me_l (List.mem_of_getElem? (i := 0) rfl)))) (fun _ h => h) (congrArg Value.int (by rw [eI14, z_up_n (by decide), eI12, z_up_n (by decide), eI10, z_up_n (by decide), eI8, z_up_n (by decide), eI6, z_up_n (by decide), eI4, z_up_n (by decide)])) dX3_add_76 ?_
    refine lv_iconst (v := 1) hx hb dX3_add_79 (by decide) ?_
    refine lv_iadd hx hb dX3_add_80 ?_
    refine lv_topi (fun x16 ex16 => ?_)
    have tx16 : x16.toInt = (I 60 9).toInt + 1 := z_tadd ex16 rfl z_l1 (by omega) (by omega)
    refine z_put (T := TX3) (N := 17) (ci := 3) (i := 60) (v := .int x16) (I1 := z_up I14 60 9 x16) (J1 := JX) (P1 := PC c ad) hx hb hts zj_X3_add_X3 tyX3 tyX3_ok nmX3 hown hK hW hS rfl rfl 9 (by decide) (hts (.fieldLink RX3 45 "PetrolBoard$Journeys" "number" "I") (me_s (me_l (List.mem_of_getElem? (i := 0) rfl)))) (fun _ h => h) rfl rfl rfl (by first | rfl | exact congrArg _ z_up_s) (fun a b h ty => z_vI h ty) dX3_add_81 (fun H locs hz1 hW hS => ?_)
    obtain ⟨I17, eI17⟩ : ∃ K : z_I, K = z_up I14 60 9 x16 := ⟨_, rfl⟩
    rw [← eI17] at hW
    have f18 := z_fr_k f15 (show z_wr L_X3_add_e 60 9 = true by decide) eI17
    refine lv_aload_n hx hb dX3_add_84 rfl (lv_at hl 0 rfl) ?_
    refine z_get (T := TX3) (N := 17) (ci := 3) (i := 60) (v := .int x16) hx hb hts zj_X3_add_X3 hown hK hW rfl rfl 9 (by decide) (hts (.fieldLink RX3 45 "PetrolBoard$Journeys" "number" "I") (me_s (me_l (List.mem_of_getElem? (i := 0) rfl)))) (fun _ h => h) (congrArg Value.int (by rw [eI17, z_up_s])) dX3_add_85 ?_
    refine lv_iconst (v := 1) hx hb dX3_add_88 (by decide) ?_
    refine lv_isub hx hb dX3_add_89 ?_
    refine lv_topi (fun x19 ex19 => ?_)
    have tx19 : x19.toInt = x16.toInt - 1 := z_tsub ex19 rfl z_l1 (by omega) (by omega)
    exact z_iret hx hb hr hK hS (Nat.le_of_ble_eq_true rfl) (Nat.le_of_ble_eq_true rfl) hlocks dX3_add_90 (shC c, ad, I17, JX, PC c ad) hW ⟨I17, rfl, ⟨(by show 0 ≤ (I17 60 9).toInt ∧ (I17 60 9).toInt ≤ 60; rw [eI17, z_up_s]; omega), (by show 0 ≤ (I17 60 12).toInt ∧ (I17 60 12).toInt ≤ 12; rw [eI17, z_up_k (by decide), eI14, z_up_n (by decide), eI12, z_up_n (by decide), eI10, z_up_n (by decide), eI8, z_up_n (by decide), eI6, z_up_n (by decide), eI4, z_up_n (by decide)]; exact hJ.2)⟩, f18, (Or.inl ⟨by omega, by omega, (by have q9 : (I17 60 9) = x16 := (by rw [eI17, z_up_s]); show (I17 60 9).toInt = (I 60 9).toInt + 1; rw [q9]; first | done | omega)⟩)⟩
  · have g20 := z_f_nlt rfl z_l60 c2
    refine lv_iconst (v := (-1)) hx hb dX3_add_9 (by decide) ?_
    exact z_iret hx hb hr hK hS (Nat.le_of_ble_eq_true rfl) (Nat.le_of_ble_eq_true rfl) hlocks dX3_add_10 (shC c, ad, I, JX, PC c ad) hW ⟨I, rfl, ⟨(by show 0 ≤ (I 60 9).toInt ∧ (I 60 9).toInt ≤ 60; exact hJ.1), (by show 0 ≤ (I 60 12).toInt ∧ (I 60 12).toInt ≤ 12; exact hJ.2)⟩, z_fr_0, (Or.inr ⟨by omega, by decide, (by show (I 60 9).toInt = (I 60 9).toInt; omega)⟩)⟩
noncomputable def L_X11_holder_e : z_L := [(2, 999), (3, 999), (4, 999), (5, 999), (6, 999), (1, 5)]
set_option maxHeartbeats 8000000 in
set_option maxRecDepth 100000 in
theorem sx_X11_holder_e (l : Launch) (G : z_G) (ad : Nat → Nat) (c : z_C) (I : z_I) (hH : z_iH I) (a1 : Int32) (a2 : Int32) (a3 : Int32) (a4 : Int32) (a5 : Int32) (hc : z_okc c) (h10 : c.1 ≤ 10) : z_M l yX11_holder wsX11_holder { frames := 2, cells := 0, slots := 0, locals := 37 } [.ref (ad 0), .int a1, .int a2, .int a3, .int a4, .int a5] G (shC c, ad, I, JX, PC c ad) (fun r u1 => ∃ I1 : z_I, u1 = (shC c, ad, I1, JX, PC c ad) ∧ z_iH I1 ∧ z_fr L_X11_holder_e I1 I ∧ (((1 ≤ a1.toInt ∧ a1.toInt ≤ 9 ∧ 0 ≤ a2.toInt ∧ a2.toInt ≤ 9 ∧ 1 ≤ a3.toInt ∧ a3.toInt ≤ 8 ∧ 0 ≤ a4.toInt ∧ a4.toInt ≤ 999 ∧ 0 ≤ a5.toInt ∧ a5.toInt ≤ 99 ∧ (I 1 5).toInt < 30) ∧ r.toInt = (I 1 5).toInt ∧ (I1 1 5).toInt = (I 1 5).toInt + 1) ∨ (¬ (1 ≤ a1.toInt ∧ a1.toInt ≤ 9 ∧ 0 ≤ a2.toInt ∧ a2.toInt ≤ 9 ∧ 1 ≤ a3.toInt ∧ a3.toInt ≤ 8 ∧ 0 ≤ a4.toInt ∧ a4.toInt ≤ 999 ∧ 0 ≤ a5.toInt ∧ a5.toInt ≤ 99 ∧ (I 1 5).toInt < 30) ∧ r.toInt = -1 ∧ (I1 1 5).toInt = (I 1 5).toInt))) 0 0 := by
  intro sz
  refine z_headQ (cc := cX11_holder) (maxL := 6) (ret := (some .int)) (by decide) rfl (Nat.le_of_ble_eq_true rfl) ?_
  intro p e s m below meth c0 ls hIn hK hsz hW hl
  obtain ⟨hx, hb, hr, hml, hown, hts, hlocks, hname⟩ := hIn
  subst hsz
  have hown : s.vm.findClass RX11 = some m.cls := hown
  have hA : ∀ q : Nat, s.heap.size ≤ q → z_A (shC c, ad, I, JX, PC c ad) s.heap.size q := fun q h => Or.inr h
  generalize hAe : z_A (shC c, ad, I, JX, PC c ad) s.heap.size = A at *
  have hS : va_S A s.heap s.heap [] := va_S.rf
  have hl : lv_has ls 6 [(0, .ref (ad 0)), (1, .int a1), (2, .int a2), (3, .int a3), (4, .int a4), (5, .int a5)] := hl
  refine lv_iload_n hx hb dX11_holder_0 rfl (lv_at hl 1 rfl) ?_
  refine lv_iconst (v := 1) hx hb dX11_holder_1 (by decide) ?_
  refine lv_bipush (v := 9) hx hb dX11_holder_2 (by decide) ?_
  refine z_ci hW hS hA (va_runS (As := [.int a1, .int 1, .int 9]) (rest := []) ⟨hx, hb, hml, hown, hts⟩ (sx_X11_within_e l G ad c I  a1 1 9 _) (va_cwS 3 hts gX11_holder_X11_within rfl rfl rfl hy_X11_within.2 ⟨Nat.le_of_ble_eq_true rfl, Nat.le_of_ble_eq_true rfl⟩) (z_preS hK hW) rfl rfl hl.1 rfl (lv_room (Nat.le_of_ble_eq_true rfl)) dX11_holder_4 ⟨Nat.le_of_ble_eq_true rfl, Nat.le_of_ble_eq_true rfl⟩) (fun r u1 H locs hp hW hS => ?_)
  obtain ⟨e9, hp⟩ := hp
  rw [e9] at hW
  rcases hp with ⟨rfl, h1⟩ | ⟨rfl, h1⟩
  · have h2 := h1
    have z3 := z_l1
    have z4 := z_l9
    refine lv_if_eq (tgt := 30) hx hb dX11_holder_7 (by decide) (fun c5 => absurd c5 (by decide)) (fun c5 => ?_)
    refine lv_iload_n hx hb dX11_holder_10 rfl (lv_at hl 2 rfl) ?_
    refine lv_iconst (v := 0) hx hb dX11_holder_11 (by decide) ?_
    refine lv_bipush (v := 9) hx hb dX11_holder_12 (by decide) ?_
    refine z_ci hW hS hA (va_runS (As := [.int a2, .int 0, .int 9]) (rest := []) ⟨hx, hb, hml, hown, hts⟩ (sx_X11_within_e l G ad c I  a2 0 9 _) (va_cwS 3 hts gX11_holder_X11_within rfl rfl rfl hy_X11_within.2 ⟨Nat.le_of_ble_eq_true rfl, Nat.le_of_ble_eq_true rfl⟩) (z_preS hK hW) rfl rfl hl.1 rfl (lv_room (Nat.le_of_ble_eq_true rfl)) dX11_holder_14 ⟨Nat.le_of_ble_eq_true rfl, Nat.le_of_ble_eq_true rfl⟩) (fun r u1 H locs hp hW hS => ?_)
    obtain ⟨e9, hp⟩ := hp
    rw [e9] at hW
    rcases hp with ⟨rfl, h6⟩ | ⟨rfl, h6⟩
    · have h7 := h6
      have z8 := z_l0
      have z9 := z_l9
      refine lv_if_eq (tgt := 30) hx hb dX11_holder_17 (by decide) (fun c10 => absurd c10 (by decide)) (fun c10 => ?_)
      refine lv_iload_n hx hb dX11_holder_20 rfl (lv_at hl 3 rfl) ?_
      refine lv_iconst (v := 1) hx hb dX11_holder_21 (by decide) ?_
      refine lv_bipush (v := 8) hx hb dX11_holder_22 (by decide) ?_
      refine z_ci hW hS hA (va_runS (As := [.int a3, .int 1, .int 8]) (rest := []) ⟨hx, hb, hml, hown, hts⟩ (sx_X11_within_e l G ad c I  a3 1 8 _) (va_cwS 3 hts gX11_holder_X11_within rfl rfl rfl hy_X11_within.2 ⟨Nat.le_of_ble_eq_true rfl, Nat.le_of_ble_eq_true rfl⟩) (z_preS hK hW) rfl rfl hl.1 rfl (lv_room (Nat.le_of_ble_eq_true rfl)) dX11_holder_24 ⟨Nat.le_of_ble_eq_true rfl, Nat.le_of_ble_eq_true rfl⟩) (fun r u1 H locs hp hW hS => ?_)
      obtain ⟨e9, hp⟩ := hp
      rw [e9] at hW
      rcases hp with ⟨rfl, h11⟩ | ⟨rfl, h11⟩
      · have h12 := h11
        have z13 := z_l1
        have z14 := z_l8
        refine lv_if_ne (tgt := 32) hx hb dX11_holder_27 (by decide) (fun c15 => ?_) (fun c15 => absurd c15 (by decide))
        refine lv_iload hx hb dX11_holder_32 (lv_at hl 4 rfl) ?_
        refine lv_iconst (v := 0) hx hb dX11_holder_34 (by decide) ?_
        refine lv_sipush (v := 999) hx hb dX11_holder_35 (by decide) ?_
        refine z_ci hW hS hA (va_runS (As := [.int a4, .int 0, .int 999]) (rest := []) ⟨hx, hb, hml, hown, hts⟩ (sx_X11_within_e l G ad c I  a4 0 999 _) (va_cwS 3 hts gX11_holder_X11_within rfl rfl rfl hy_X11_within.2 ⟨Nat.le_of_ble_eq_true rfl, Nat.le_of_ble_eq_true rfl⟩) (z_preS hK hW) rfl rfl hl.1 rfl (lv_room (Nat.le_of_ble_eq_true rfl)) dX11_holder_38 ⟨Nat.le_of_ble_eq_true rfl, Nat.le_of_ble_eq_true rfl⟩) (fun r u1 H locs hp hW hS => ?_)
        obtain ⟨e9, hp⟩ := hp
        rw [e9] at hW
        rcases hp with ⟨rfl, h16⟩ | ⟨rfl, h16⟩
        · have h17 := h16
          have z18 := z_l0
          have z19 := z_l999
          refine lv_if_eq (tgt := 55) hx hb dX11_holder_41 (by decide) (fun c20 => absurd c20 (by decide)) (fun c20 => ?_)
          refine lv_iload hx hb dX11_holder_44 (lv_at hl 5 rfl) ?_
          refine lv_iconst (v := 0) hx hb dX11_holder_46 (by decide) ?_
          refine lv_bipush (v := 99) hx hb dX11_holder_47 (by decide) ?_
          refine z_ci hW hS hA (va_runS (As := [.int a5, .int 0, .int 99]) (rest := []) ⟨hx, hb, hml, hown, hts⟩ (sx_X11_within_e l G ad c I  a5 0 99 _) (va_cwS 3 hts gX11_holder_X11_within rfl rfl rfl hy_X11_within.2 ⟨Nat.le_of_ble_eq_true rfl, Nat.le_of_ble_eq_true rfl⟩) (z_preS hK hW) rfl rfl hl.1 rfl (lv_room (Nat.le_of_ble_eq_true rfl)) dX11_holder_49 ⟨Nat.le_of_ble_eq_true rfl, Nat.le_of_ble_eq_true rfl⟩) (fun r u1 H locs hp hW hS => ?_)
          obtain ⟨e9, hp⟩ := hp
          rw [e9] at hW
          rcases hp with ⟨rfl, h21⟩ | ⟨rfl, h21⟩
          · have h22 := h21
            have z23 := z_l0
            have z24 := z_l99
            refine lv_if_ne (tgt := 57) hx hb dX11_holder_52 (by decide) (fun c25 => ?_) (fun c25 => absurd c25 (by decide))
            refine lv_aload_n hx hb dX11_holder_57 rfl (lv_at hl 0 rfl) ?_
            refine z_get (T := TX11) (N := 13) (ci := 11) (i := 0) (v := .ref (ad 1)) hx hb hts zj_X11_holder_X11 hown hK hW rfl rfl 2 (by decide) (hts (.fieldLink RX11 16 "PetrolBoard" "holders" "LPetrolBoard$Holders;") (me_s (me_l (me_l (List.mem_of_getElem? (i := 0) rfl))))) (fun _ h => h) rfl dX11_holder_58 ?_
            refine lv_iload_n hx hb dX11_holder_61 rfl (lv_at hl 1 rfl) ?_
            refine lv_iload_n hx hb dX11_holder_62 rfl (lv_at hl 2 rfl) ?_
            refine lv_iload_n hx hb dX11_holder_63 rfl (lv_at hl 3 rfl) ?_
            refine lv_iload hx hb dX11_holder_64 (lv_at hl 4 rfl) ?_
            refine lv_iload hx hb dX11_holder_66 (lv_at hl 5 rfl) ?_
            refine z_ci hW hS hA (va_runV (As := [.int a1, .int a2, .int a3, .int a4, .int a5]) (rest := []) ⟨hx, hb, hml, hown, hts⟩ (sx_X2_add_e l G ad c I ⟨(by show 0 ≤ (I 1 5).toInt ∧ (I 1 5).toInt ≤ 30; exact hH.1), (by show 0 ≤ (I 1 11).toInt ∧ (I 1 11).toInt ≤ 200; exact hH.2)⟩ a1 a2 a3 a4 a5 _) (cwV 5 hts gX11_holder_X2_add rfl rfl rfl hy_X2_add ⟨Nat.le_of_ble_eq_true rfl, Nat.le_of_ble_eq_true rfl⟩) (z_preV (i := 1) hK hW rfl rfl) rfl rfl hl.1 rfl (lv_room (Nat.le_of_ble_eq_true rfl)) dX11_holder_68 ⟨Nat.le_of_ble_eq_true rfl, Nat.le_of_ble_eq_true rfl⟩) (fun r u1 H locs hp hW hS => ?_)
            obtain ⟨I26, e9, hI26H, fI26, hp⟩ := hp
            rw [e9] at hW
            have f27 := z_fr_sub (L := L_X11_holder_e) z_fr_0 fI26 (by decide)
            refine lv_topi (fun x28 ex28 => ?_)
            rw [← ex28] at hp
            rcases hp with ⟨h29, h30, h31⟩ | ⟨h29, h30, h31⟩
            · have h32 := h29
              exact z_iret hx hb hr hK hS (Nat.le_of_ble_eq_true rfl) (Nat.le_of_ble_eq_true rfl) hlocks dX11_holder_71 (shC c, ad, I26, JX, PC c ad) hW ⟨I26, rfl, ⟨(by show 0 ≤ (I26 1 5).toInt ∧ (I26 1 5).toInt ≤ 30; exact hI26H.1), (by show 0 ≤ (I26 1 11).toInt ∧ (I26 1 11).toInt ≤ 200; exact hI26H.2)⟩, f27, (Or.inl ⟨by omega, by omega, (by show (I26 1 5).toInt = (I 1 5).toInt + 1; omega)⟩)⟩
            · have h33 := h29
              exact z_iret hx hb hr hK hS (Nat.le_of_ble_eq_true rfl) (Nat.le_of_ble_eq_true rfl) hlocks dX11_holder_71 (shC c, ad, I26, JX, PC c ad) hW ⟨I26, rfl, ⟨(by show 0 ≤ (I26 1 5).toInt ∧ (I26 1 5).toInt ≤ 30; exact hI26H.1), (by show 0 ≤ (I26 1 11).toInt ∧ (I26 1 11).toInt ≤ 200; exact hI26H.2)⟩, f27, (Or.inr ⟨by omega, by omega, (by show (I26 1 5).toInt = (I 1 5).toInt; omega)⟩)⟩
          · have h34 := h21
            have z35 := z_l0
            have z36 := z_l99
            refine lv_if_ne (tgt := 57) hx hb dX11_holder_52 (by decide) (fun c37 => absurd (by decide) c37) (fun c37 => ?_)
            refine lv_iconst (v := (-1)) hx hb dX11_holder_55 (by decide) ?_
            exact z_iret hx hb hr hK hS (Nat.le_of_ble_eq_true rfl) (Nat.le_of_ble_eq_true rfl) hlocks dX11_holder_56 (shC c, ad, I, JX, PC c ad) hW ⟨I, rfl, ⟨(by show 0 ≤ (I 1 5).toInt ∧ (I 1 5).toInt ≤ 30; exact hH.1), (by show 0 ≤ (I 1 11).toInt ∧ (I 1 11).toInt ≤ 200; exact hH.2)⟩, z_fr_0, (Or.inr ⟨by omega, by decide, (by show (I 1 5).toInt = (I 1 5).toInt; omega)⟩)⟩
        · have h38 := h16
          have z39 := z_l0
          have z40 := z_l999
          refine lv_if_eq (tgt := 55) hx hb dX11_holder_41 (by decide) (fun c41 => ?_) (fun c41 => absurd (by decide) c41)
          refine lv_iconst (v := (-1)) hx hb dX11_holder_55 (by decide) ?_
          exact z_iret hx hb hr hK hS (Nat.le_of_ble_eq_true rfl) (Nat.le_of_ble_eq_true rfl) hlocks dX11_holder_56 (shC c, ad, I, JX, PC c ad) hW ⟨I, rfl, ⟨(by show 0 ≤ (I 1 5).toInt ∧ (I 1 5).toInt ≤ 30; exact hH.1), (by show 0 ≤ (I 1 11).toInt ∧ (I 1 11).toInt ≤ 200; exact hH.2)⟩, z_fr_0, (Or.inr ⟨by omega, by decide, (by show (I 1 5).toInt = (I 1 5).toInt; omega)⟩)⟩
      · have h42 := h11
        have z43 := z_l1
        have z44 := z_l8
        refine lv_if_ne (tgt := 32) hx hb dX11_holder_27 (by decide) (fun c45 => absurd (by decide) c45) (fun c45 => ?_)
        refine lv_iconst (v := (-1)) hx hb dX11_holder_30 (by decide) ?_
        exact z_iret hx hb hr hK hS (Nat.le_of_ble_eq_true rfl) (Nat.le_of_ble_eq_true rfl) hlocks dX11_holder_31 (shC c, ad, I, JX, PC c ad) hW ⟨I, rfl, ⟨(by show 0 ≤ (I 1 5).toInt ∧ (I 1 5).toInt ≤ 30; exact hH.1), (by show 0 ≤ (I 1 11).toInt ∧ (I 1 11).toInt ≤ 200; exact hH.2)⟩, z_fr_0, (Or.inr ⟨by omega, by decide, (by show (I 1 5).toInt = (I 1 5).toInt; omega)⟩)⟩
    · have h46 := h6
      have z47 := z_l0
      have z48 := z_l9
      refine lv_if_eq (tgt := 30) hx hb dX11_holder_17 (by decide) (fun c49 => ?_) (fun c49 => absurd (by decide) c49)
      refine lv_iconst (v := (-1)) hx hb dX11_holder_30 (by decide) ?_
      exact z_iret hx hb hr hK hS (Nat.le_of_ble_eq_true rfl) (Nat.le_of_ble_eq_true rfl) hlocks dX11_holder_31 (shC c, ad, I, JX, PC c ad) hW ⟨I, rfl, ⟨(by show 0 ≤ (I 1 5).toInt ∧ (I 1 5).toInt ≤ 30; exact hH.1), (by show 0 ≤ (I 1 11).toInt ∧ (I 1 11).toInt ≤ 200; exact hH.2)⟩, z_fr_0, (Or.inr ⟨by omega, by decide, (by show (I 1 5).toInt = (I 1 5).toInt; omega)⟩)⟩
  · have h50 := h1
    have z51 := z_l1
    have z52 := z_l9
    refine lv_if_eq (tgt := 30) hx hb dX11_holder_7 (by decide) (fun c53 => ?_) (fun c53 => absurd (by decide) c53)
    refine lv_iconst (v := (-1)) hx hb dX11_holder_30 (by decide) ?_
    exact z_iret hx hb hr hK hS (Nat.le_of_ble_eq_true rfl) (Nat.le_of_ble_eq_true rfl) hlocks dX11_holder_31 (shC c, ad, I, JX, PC c ad) hW ⟨I, rfl, ⟨(by show 0 ≤ (I 1 5).toInt ∧ (I 1 5).toInt ≤ 30; exact hH.1), (by show 0 ≤ (I 1 11).toInt ∧ (I 1 11).toInt ≤ 200; exact hH.2)⟩, z_fr_0, (Or.inr ⟨by omega, by decide, (by show (I 1 5).toInt = (I 1 5).toInt; omega)⟩)⟩
noncomputable def L_X11_ask_e : z_L := [(61, 999), (62, 999), (63, 999), (64, 999), (65, 999), (66, 999), (60, 9), (24, 999), (25, 999), (67, 999), (68, 999), (69, 999)]
set_option maxHeartbeats 8000000 in
set_option maxRecDepth 100000 in
theorem sx_X11_ask_e (l : Launch) (G : z_G) (ad : Nat → Nat) (c : z_C) (I : z_I) (hO : z_iO I) (hH : z_iH I) (hJ : z_iJ I) (hB : z_iB I) (a1 : Int32) (a2 : Int32) (a3 : Int32) (a4 : Int32) (a5 : Int32) (a6 : Int32) (hc : z_okc c) (h10 : c.1 ≤ 10) : z_M l yX11_ask wsX11_ask { frames := 6, cells := 0, slots := 0, locals := 160 } [.ref (ad 0), .int a1, .int a2, .int a3, .int a4, .int a5, .int a6] G (shC c, ad, I, JX, PC c ad) (fun r u1 => ∃ I1 : z_I, u1 = (shC c, ad, I1, JX, PC c ad) ∧ z_iO I1 ∧ z_iH I1 ∧ z_iJ I1 ∧ z_iB I1 ∧ z_fr L_X11_ask_e I1 I ∧ (((0 ≤ a1.toInt ∧ a1.toInt < (I 1 5).toInt ∧ 1 ≤ a2.toInt ∧ a2.toInt ≤ 500 ∧ 1 ≤ a3.toInt ∧ a3.toInt ≤ 8 ∧ 0 ≤ a4.toInt ∧ a4.toInt ≤ 4 ∧ (I 0 0).toInt ≤ a5.toInt ∧ a5.toInt ≤ 719 ∧ 0 ≤ a6.toInt ∧ a6.toInt ≤ 99 ∧ a6.toInt / 10 ≠ a6.toInt % 10 ∧ (I 60 9).toInt < 60) ∧ r.toInt = (I 60 9).toInt ∧ (I1 60 9).toInt = (I 60 9).toInt + 1) ∨ (¬ (0 ≤ a1.toInt ∧ a1.toInt < (I 1 5).toInt ∧ 1 ≤ a2.toInt ∧ a2.toInt ≤ 500 ∧ 1 ≤ a3.toInt ∧ a3.toInt ≤ 8 ∧ 0 ≤ a4.toInt ∧ a4.toInt ≤ 4 ∧ (I 0 0).toInt ≤ a5.toInt ∧ a5.toInt ≤ 719 ∧ 0 ≤ a6.toInt ∧ a6.toInt ≤ 99 ∧ a6.toInt / 10 ≠ a6.toInt % 10 ∧ (I 60 9).toInt < 60) ∧ r.toInt = -1 ∧ (I1 60 9).toInt = (I 60 9).toInt))) 0 0 := by
  intro sz
  refine z_headQ (cc := cX11_ask) (maxL := 8) (ret := (some .int)) (by decide) rfl (Nat.le_of_ble_eq_true rfl) ?_
  intro p e s m below meth c0 ls hIn hK hsz hW hl
  obtain ⟨hx, hb, hr, hml, hown, hts, hlocks, hname⟩ := hIn
  subst hsz
  have hown : s.vm.findClass RX11 = some m.cls := hown
  have hA : ∀ q : Nat, s.heap.size ≤ q → z_A (shC c, ad, I, JX, PC c ad) s.heap.size q := fun q h => Or.inr h
  generalize hAe : z_A (shC c, ad, I, JX, PC c ad) s.heap.size = A at *
  have hS : va_S A s.heap s.heap [] := va_S.rf
  have hl : lv_has ls 8 [(0, .ref (ad 0)), (1, .int a1), (2, .int a2), (3, .int a3), (4, .int a4), (5, .int a5), (6, .int a6)] := hl
  refine lv_aload_n hx hb dX11_ask_0 rfl (lv_at hl 0 rfl) ?_
  refine z_get (T := TX11) (N := 13) (ci := 11) (i := 0) (v := .ref (ad 1)) hx hb hts zj_X11_ask_X11 hown hK hW rfl rfl 2 (by decide) (hts (.fieldLink RX11 16 "PetrolBoard" "holders" "LPetrolBoard$Holders;") (me_s (me_l (me_l (me_l (me_l (me_l (me_l (me_l (List.mem_of_getElem? (i := 0) rfl)))))))))) (fun _ h => h) rfl dX11_ask_1 ?_
  refine lv_iload_n hx hb dX11_ask_4 rfl (lv_at hl 1 rfl) ?_
  refine z_ci hW hS hA (va_runV (As := [.int a1]) (rest := []) ⟨hx, hb, hml, hown, hts⟩ (sx_X2_has_e l G ad c I ⟨(by show 0 ≤ (I 1 5).toInt ∧ (I 1 5).toInt ≤ 30; exact hH.1), (by show 0 ≤ (I 1 11).toInt ∧ (I 1 11).toInt ≤ 200; exact hH.2)⟩ a1 _) (cwV 1 hts gX11_ask_X2_has rfl rfl rfl hy_X2_has ⟨Nat.le_of_ble_eq_true rfl, Nat.le_of_ble_eq_true rfl⟩) (z_preV (i := 1) hK hW rfl rfl) rfl rfl hl.1 rfl (lv_room (Nat.le_of_ble_eq_true rfl)) dX11_ask_5 ⟨Nat.le_of_ble_eq_true rfl, Nat.le_of_ble_eq_true rfl⟩) (fun r u1 H locs hp hW hS => ?_)
  obtain ⟨e9, hp⟩ := hp
  rw [e9] at hW
  rcases hp with ⟨rfl, h1⟩ | ⟨rfl, h1⟩
  · have h2 := h1
    have r3 : 0 ≤ (I 1 5).toInt ∧ (I 1 5).toInt ≤ 30 := hH.1
    refine lv_if_eq (tgt := 32) hx hb dX11_ask_8 (by decide) (fun c4 => absurd c4 (by decide)) (fun c4 => ?_)
    refine lv_iload_n hx hb dX11_ask_11 rfl (lv_at hl 2 rfl) ?_
    refine lv_iconst (v := 1) hx hb dX11_ask_12 (by decide) ?_
    refine lv_sipush (v := 500) hx hb dX11_ask_13 (by decide) ?_
    refine z_ci hW hS hA (va_runS (As := [.int a2, .int 1, .int 500]) (rest := []) ⟨hx, hb, hml, hown, hts⟩ (sx_X11_within_e l G ad c I  a2 1 500 _) (va_cwS 3 hts gX11_ask_X11_within rfl rfl rfl hy_X11_within.2 ⟨Nat.le_of_ble_eq_true rfl, Nat.le_of_ble_eq_true rfl⟩) (z_preS hK hW) rfl rfl hl.1 rfl (lv_room (Nat.le_of_ble_eq_true rfl)) dX11_ask_16 ⟨Nat.le_of_ble_eq_true rfl, Nat.le_of_ble_eq_true rfl⟩) (fun r u1 H locs hp hW hS => ?_)
    obtain ⟨e9, hp⟩ := hp
    rw [e9] at hW
    rcases hp with ⟨rfl, h5⟩ | ⟨rfl, h5⟩
    · have h6 := h5
      have z7 := z_l1
      have z8 := z_l500
      refine lv_if_eq (tgt := 32) hx hb dX11_ask_19 (by decide) (fun c9 => absurd c9 (by decide)) (fun c9 => ?_)
      refine lv_iload_n hx hb dX11_ask_22 rfl (lv_at hl 3 rfl) ?_
      refine lv_iconst (v := 1) hx hb dX11_ask_23 (by decide) ?_
      refine lv_bipush (v := 8) hx hb dX11_ask_24 (by decide) ?_
      refine z_ci hW hS hA (va_runS (As := [.int a3, .int 1, .int 8]) (rest := []) ⟨hx, hb, hml, hown, hts⟩ (sx_X11_within_e l G ad c I  a3 1 8 _) (va_cwS 3 hts gX11_ask_X11_within rfl rfl rfl hy_X11_within.2 ⟨Nat.le_of_ble_eq_true rfl, Nat.le_of_ble_eq_true rfl⟩) (z_preS hK hW) rfl rfl hl.1 rfl (lv_room (Nat.le_of_ble_eq_true rfl)) dX11_ask_26 ⟨Nat.le_of_ble_eq_true rfl, Nat.le_of_ble_eq_true rfl⟩) (fun r u1 H locs hp hW hS => ?_)
      obtain ⟨e9, hp⟩ := hp
      rw [e9] at hW
      rcases hp with ⟨rfl, h11⟩ | ⟨rfl, h11⟩
      · have h12 := h11
        have z13 := z_l1
        have z14 := z_l8
        refine lv_if_ne (tgt := 34) hx hb dX11_ask_29 (by decide) (fun c15 => ?_) (fun c15 => absurd c15 (by decide))
        refine lv_iload hx hb dX11_ask_34 (lv_at hl 4 rfl) ?_
        refine z_ci hW hS hA (va_runS (As := [.int a4]) (rest := []) ⟨hx, hb, hml, hown, hts⟩ (sx_X11_isReason_e l G ad c I  a4 _) (va_cwS 1 hts gX11_ask_X11_isReason rfl rfl rfl hy_X11_isReason.2 ⟨Nat.le_of_ble_eq_true rfl, Nat.le_of_ble_eq_true rfl⟩) (z_preS hK hW) rfl rfl hl.1 rfl (lv_room (Nat.le_of_ble_eq_true rfl)) dX11_ask_36 ⟨Nat.le_of_ble_eq_true rfl, Nat.le_of_ble_eq_true rfl⟩) (fun r u1 H locs hp hW hS => ?_)
        obtain ⟨e9, hp⟩ := hp
        rw [e9] at hW
        rcases hp with ⟨rfl, h16⟩ | ⟨rfl, h16⟩
        · have h17 := h16
          refine lv_if_eq (tgt := 65) hx hb dX11_ask_39 (by decide) (fun c18 => absurd c18 (by decide)) (fun c18 => ?_)
          refine lv_iload hx hb dX11_ask_42 (lv_at hl 5 rfl) ?_
          refine lv_aload_n hx hb dX11_ask_44 rfl (lv_at hl 0 rfl) ?_
          have r19 : 0 ≤ (I 0 0).toInt ∧ (I 0 0).toInt ≤ 719 := hB.1
          refine z_get (T := TX11) (N := 13) (ci := 11) (i := 0) (v := .int (I 0 0)) hx hb hts zj_X11_ask_X11 hown hK hW rfl rfl 0 (by decide) (hts (.fieldLink RX11 85 "PetrolBoard" "today" "I") (me_s (me_l (me_l (me_l (me_l (me_l (me_l (me_l (List.mem_of_getElem? (i := 1) rfl)))))))))) (fun _ h => h) rfl dX11_ask_45 ?_
          refine lv_sipush (v := 719) hx hb dX11_ask_48 (by decide) ?_
          refine z_ci hW hS hA (va_runS (As := [.int a5, .int (I 0 0), .int 719]) (rest := []) ⟨hx, hb, hml, hown, hts⟩ (sx_X11_within_e l G ad c I  a5 (I 0 0) 719 _) (va_cwS 3 hts gX11_ask_X11_within rfl rfl rfl hy_X11_within.2 ⟨Nat.le_of_ble_eq_true rfl, Nat.le_of_ble_eq_true rfl⟩) (z_preS hK hW) rfl rfl hl.1 rfl (lv_room (Nat.le_of_ble_eq_true rfl)) dX11_ask_51 ⟨Nat.le_of_ble_eq_true rfl, Nat.le_of_ble_eq_true rfl⟩) (fun r u1 H locs hp hW hS => ?_)
          obtain ⟨e9, hp⟩ := hp
          rw [e9] at hW
          rcases hp with ⟨rfl, h20⟩ | ⟨rfl, h20⟩
          · have h21 := h20
            have z22 := z_l719
            refine lv_if_eq (tgt := 65) hx hb dX11_ask_54 (by decide) (fun c23 => absurd c23 (by decide)) (fun c23 => ?_)
            refine lv_iload hx hb dX11_ask_57 (lv_at hl 6 rfl) ?_
            refine z_ci hW hS hA (va_runS (As := [.int a6]) (rest := []) ⟨hx, hb, hml, hown, hts⟩ (sx_X11_isWay_e l G ad c I  a6 _) (va_cwS 1 hts gX11_ask_X11_isWay rfl rfl rfl hy_X11_isWay.2 ⟨Nat.le_of_ble_eq_true rfl, Nat.le_of_ble_eq_true rfl⟩) (z_preS hK hW) rfl rfl hl.1 rfl (lv_room (Nat.le_of_ble_eq_true rfl)) dX11_ask_59 ⟨Nat.le_of_ble_eq_true rfl, Nat.le_of_ble_eq_true rfl⟩) (fun r u1 H locs hp hW hS => ?_)
            obtain ⟨e9, hp⟩ := hp
            rw [e9] at hW
            rcases hp with ⟨rfl, h24⟩ | ⟨rfl, h24⟩
            · have h25 := h24
              refine lv_if_ne (tgt := 67) hx hb dX11_ask_62 (by decide) (fun c26 => ?_) (fun c26 => absurd c26 (by decide))
              refine lv_aload_n hx hb dX11_ask_67 rfl (lv_at hl 0 rfl) ?_
              refine z_get (T := TX11) (N := 13) (ci := 11) (i := 0) (v := .ref (ad 60)) hx hb hts zj_X11_ask_X11 hown hK hW rfl rfl 11 (by decide) (hts (.fieldLink RX11 68 "PetrolBoard" "journeys" "LPetrolBoard$Journeys;") (me_s (me_l (me_l (me_l (me_l (me_l (me_l (me_l (List.mem_of_getElem? (i := 2) rfl)))))))))) (fun _ h => h) rfl dX11_ask_68 ?_
              refine lv_iload_n hx hb dX11_ask_71 rfl (lv_at hl 1 rfl) ?_
              refine lv_iload_n hx hb dX11_ask_72 rfl (lv_at hl 2 rfl) ?_
              refine lv_iload_n hx hb dX11_ask_73 rfl (lv_at hl 3 rfl) ?_
              refine lv_iload hx hb dX11_ask_74 (lv_at hl 4 rfl) ?_
              refine lv_iload hx hb dX11_ask_76 (lv_at hl 5 rfl) ?_
              refine lv_iload hx hb dX11_ask_78 (lv_at hl 6 rfl) ?_
              refine z_ci hW hS hA (va_runV (As := [.int a1, .int a2, .int a3, .int a4, .int a5, .int a6]) (rest := []) ⟨hx, hb, hml, hown, hts⟩ (sx_X3_add_e l G ad c I ⟨(by show 0 ≤ (I 60 9).toInt ∧ (I 60 9).toInt ≤ 60; exact hJ.1), (by show 0 ≤ (I 60 12).toInt ∧ (I 60 12).toInt ≤ 12; exact hJ.2)⟩ a1 a2 a3 a4 a5 a6 _) (cwV 6 hts gX11_ask_X3_add rfl rfl rfl hy_X3_add ⟨Nat.le_of_ble_eq_true rfl, Nat.le_of_ble_eq_true rfl⟩) (z_preV (i := 60) hK hW rfl rfl) rfl rfl hl.1 rfl (lv_room (Nat.le_of_ble_eq_true rfl)) dX11_ask_80 ⟨Nat.le_of_ble_eq_true rfl, Nat.le_of_ble_eq_true rfl⟩) (fun r u1 H locs hp hW hS => ?_)
              obtain ⟨I27, e9, hI27J, fI27, hp⟩ := hp
              rw [e9] at hW
              have f28 := z_fr_sub (L := L_X11_ask_e) z_fr_0 fI27 (by decide)
              have k29 : 0 ≤ (I27 21 2).toInt ∧ (I27 21 2).toInt ≤ 12 := by rw [fI27 21 2 (by decide)]; exact (by show 0 ≤ (I 21 2).toInt ∧ (I 21 2).toInt ≤ 12; exact hO)
              have k30 : 0 ≤ (I27 1 5).toInt ∧ (I27 1 5).toInt ≤ 30 := by rw [fI27 1 5 (by decide)]; exact (by show 0 ≤ (I 1 5).toInt ∧ (I 1 5).toInt ≤ 30; exact hH.1)
              have k31 : 0 ≤ (I27 1 11).toInt ∧ (I27 1 11).toInt ≤ 200 := by rw [fI27 1 11 (by decide)]; exact (by show 0 ≤ (I 1 11).toInt ∧ (I 1 11).toInt ≤ 200; exact hH.2)
              have k32 : 0 ≤ (I27 0 0).toInt ∧ (I27 0 0).toInt ≤ 719 := by rw [fI27 0 0 (by decide)]; exact (by show 0 ≤ (I 0 0).toInt ∧ (I 0 0).toInt ≤ 719; exact hB.1)
              have k33 : 0 ≤ (I27 0 8).toInt ∧ (I27 0 8).toInt ≤ 10 := by rw [fI27 0 8 (by decide)]; exact (by show 0 ≤ (I 0 8).toInt ∧ (I 0 8).toInt ≤ 10; exact hB.2)
              refine lv_topi (fun x34 ex34 => ?_)
              rw [← ex34] at hp
              rcases hp with ⟨h35, h36, h37⟩ | ⟨h35, h36, h37⟩
              · have h38 := h35
                refine lv_istore (lv' := [(7, .int x34), (0, .ref (ad 0)), (1, .int a1), (2, .int a2), (3, .int a3), (4, .int a4), (5, .int a5), (6, .int a6)]) hx hb dX11_ask_83 hl (by decide) rfl (fun ls hl => ?_)
                refine lv_aload_n hx hb dX11_ask_85 rfl (lv_at hl 1 rfl) ?_
                refine z_get (T := TX11) (N := 13) (ci := 11) (i := 0) (v := .ref (ad 60)) hx hb hts zj_X11_ask_X11 hown hK hW rfl rfl 11 (by decide) (hts (.fieldLink RX11 68 "PetrolBoard" "journeys" "LPetrolBoard$Journeys;") (me_s (me_l (me_l (me_l (me_l (me_l (me_l (me_l (List.mem_of_getElem? (i := 2) rfl)))))))))) (fun _ h => h) rfl dX11_ask_86 ?_
                refine lv_iload hx hb dX11_ask_89 (lv_at hl 0 rfl) ?_
                refine z_ci hW hS hA (va_runV (As := [.int x34]) (rest := []) ⟨hx, hb, hml, hown, hts⟩ (sx_X3_has l G ad c I27 ⟨(by show 0 ≤ (I27 60 9).toInt ∧ (I27 60 9).toInt ≤ 60; exact hI27J.1), (by show 0 ≤ (I27 60 12).toInt ∧ (I27 60 12).toInt ≤ 12; exact hI27J.2)⟩ x34 _) (cwV 1 hts gX11_ask_X3_has rfl rfl rfl hy_X3_has ⟨Nat.le_of_ble_eq_true rfl, Nat.le_of_ble_eq_true rfl⟩) (z_preV (i := 60) hK hW rfl rfl) rfl rfl hl.1 rfl (lv_room (Nat.le_of_ble_eq_true rfl)) dX11_ask_91 ⟨Nat.le_of_ble_eq_true rfl, Nat.le_of_ble_eq_true rfl⟩) (fun r u1 H locs hp hW hS => ?_)
                obtain ⟨e9, hp⟩ := hp
                rw [e9] at hW
                rcases hp with ⟨rfl, h39, h40⟩ | rfl
                · refine lv_if_eq (tgt := 158) hx hb dX11_ask_94 (by decide) (fun c41 => absurd c41 (by decide)) (fun c41 => ?_)
                  refine lv_aload_n hx hb dX11_ask_97 rfl (lv_at hl 1 rfl) ?_
                  refine z_get (T := TX11) (N := 13) (ci := 11) (i := 0) (v := .ref (ad 60)) hx hb hts zj_X11_ask_X11 hown hK hW rfl rfl 11 (by decide) (hts (.fieldLink RX11 68 "PetrolBoard" "journeys" "LPetrolBoard$Journeys;") (me_s (me_l (me_l (me_l (me_l (me_l (me_l (me_l (List.mem_of_getElem? (i := 2) rfl)))))))))) (fun _ h => h) rfl dX11_ask_98 ?_
                  refine z_get (T := TX3) (N := 17) (ci := 3) (i := 60) (v := .ref (ad 67)) hx hb hts zj_X11_ask_X3 hown hK hW rfl rfl 6 (by decide) (hts (.fieldLink RX11 329 "PetrolBoard$Journeys" "asked" "[I") (me_s (me_l (me_l (me_l (me_l (me_l (me_l (me_l (List.mem_of_getElem? (i := 3) rfl)))))))))) (fun _ h => h) rfl dX11_ask_101 ?_
                  refine lv_iload hx hb dX11_ask_104 (lv_at hl 0 rfl) ?_
                  refine lv_aload_n hx hb dX11_ask_106 rfl (lv_at hl 1 rfl) ?_
                  have r42 : 0 ≤ (I27 0 0).toInt ∧ (I27 0 0).toInt ≤ 719 := k32
                  refine z_get (T := TX11) (N := 13) (ci := 11) (i := 0) (v := .int (I27 0 0)) hx hb hts zj_X11_ask_X11 hown hK hW rfl rfl 0 (by decide) (hts (.fieldLink RX11 85 "PetrolBoard" "today" "I") (me_s (me_l (me_l (me_l (me_l (me_l (me_l (me_l (List.mem_of_getElem? (i := 1) rfl)))))))))) (fun _ h => h) rfl dX11_ask_107 ?_
                  refine z_iast (i := 67) hx hb hK hW hS rfl (z_ix rfl (by omega) (by omega)) dX11_ask_110 (fun H locs hz1 hW hS => ?_)
                  obtain ⟨I43, eI43⟩ : ∃ K : z_I, K = z_up I27 67 x34.toNatClampNeg (I27 0 0) := ⟨_, rfl⟩
                  rw [← eI43] at hW
                  have f44 := z_fr_a f28 (show z_wa L_X11_ask_e 67 = true by decide) eI43
                  refine lv_aload_n hx hb dX11_ask_111 rfl (lv_at hl 1 rfl) ?_
                  refine z_get (T := TX11) (N := 13) (ci := 11) (i := 0) (v := .ref (ad 60)) hx hb hts zj_X11_ask_X11 hown hK hW rfl rfl 11 (by decide) (hts (.fieldLink RX11 68 "PetrolBoard" "journeys" "LPetrolBoard$Journeys;") (me_s (me_l (me_l (me_l (me_l (me_l (me_l (me_l (List.mem_of_getElem? (i := 2) rfl)))))))))) (fun _ h => h) rfl dX11_ask_112 ?_
                  refine z_get (T := TX3) (N := 17) (ci := 3) (i := 60) (v := .ref (ad 68)) hx hb hts zj_X11_ask_X3 hown hK hW rfl rfl 7 (by decide) (hts (.fieldLink RX11 332 "PetrolBoard$Journeys" "granted" "[I") (me_s (me_l (me_l (me_l (me_l (me_l (me_l (me_l (List.mem_of_getElem? (i := 4) rfl)))))))))) (fun _ h => h) rfl dX11_ask_115 ?_
                  refine lv_iload hx hb dX11_ask_118 (lv_at hl 0 rfl) ?_
                  refine lv_aload_n hx hb dX11_ask_120 rfl (lv_at hl 1 rfl) ?_
                  refine z_get (T := TX11) (N := 13) (ci := 11) (i := 0) (v := .ref (ad 21)) hx hb hts zj_X11_ask_X11 hown hK hW rfl rfl 4 (by decide) (hts (.fieldLink RX11 30 "PetrolBoard" "orderBook" "LPetrolBoard$OrderBook;") (me_s (me_l (me_l (me_l (me_l (me_l (me_l (me_l (List.mem_of_getElem? (i := 5) rfl)))))))))) (fun _ h => h) rfl dX11_ask_121 ?_
                  refine lv_aload_n hx hb dX11_ask_124 rfl (lv_at hl 1 rfl) ?_
                  refine z_get (T := TX11) (N := 13) (ci := 11) (i := 0) (v := .ref (ad 1)) hx hb hts zj_X11_ask_X11 hown hK hW rfl rfl 2 (by decide) (hts (.fieldLink RX11 16 "PetrolBoard" "holders" "LPetrolBoard$Holders;") (me_s (me_l (me_l (me_l (me_l (me_l (me_l (me_l (List.mem_of_getElem? (i := 0) rfl)))))))))) (fun _ h => h) rfl dX11_ask_125 ?_
                  refine lv_aload_n hx hb dX11_ask_128 rfl (lv_at hl 1 rfl) ?_
                  refine z_get (T := TX11) (N := 13) (ci := 11) (i := 0) (v := .ref (ad 60)) hx hb hts zj_X11_ask_X11 hown hK hW rfl rfl 11 (by decide) (hts (.fieldLink RX11 68 "PetrolBoard" "journeys" "LPetrolBoard$Journeys;") (me_s (me_l (me_l (me_l (me_l (me_l (me_l (me_l (List.mem_of_getElem? (i := 2) rfl)))))))))) (fun _ h => h) rfl dX11_ask_129 ?_
                  refine lv_iload hx hb dX11_ask_132 (lv_at hl 0 rfl) ?_
                  refine z_ci hW hS hA (va_runV (As := [.ref (ad 1), .ref (ad 60), .int x34]) (rest := [.int x34, .ref (ad 68)]) ⟨hx, hb, hml, hown, hts⟩ (sx_X6_grant l G ad c I43 (by show 0 ≤ (I43 21 2).toInt ∧ (I43 21 2).toInt ≤ 12; rw [eI43, z_up_n (by decide)]; exact k29) ⟨(by show 0 ≤ (I43 1 5).toInt ∧ (I43 1 5).toInt ≤ 30; rw [eI43, z_up_n (by decide)]; exact k30), (by show 0 ≤ (I43 1 11).toInt ∧ (I43 1 11).toInt ≤ 200; rw [eI43, z_up_n (by decide)]; exact k31)⟩ ⟨(by show 0 ≤ (I43 60 9).toInt ∧ (I43 60 9).toInt ≤ 60; rw [eI43, z_up_n (by decide)]; exact hI27J.1), (by show 0 ≤ (I43 60 12).toInt ∧ (I43 60 12).toInt ≤ 12; rw [eI43, z_up_n (by decide)]; exact hI27J.2)⟩ x34 hc _) (cwV 3 hts gX11_ask_X6_grant rfl rfl rfl hy_X6_grant ⟨Nat.le_of_ble_eq_true rfl, Nat.le_of_ble_eq_true rfl⟩) (z_preV (i := 21) hK hW rfl rfl) rfl rfl hl.1 rfl (lv_room (Nat.le_of_ble_eq_true rfl)) dX11_ask_134 ⟨Nat.le_of_ble_eq_true rfl, Nat.le_of_ble_eq_true rfl⟩) (fun r u1 H locs hp hW hS => ?_)
                  obtain ⟨I45, e9, hI45O, hI45H, hI45J, fI45⟩ := hp
                  rw [e9] at hW
                  have f46 := z_fr_sub (L := L_X11_ask_e) f44 fI45 (by decide)
                  have k47 : 0 ≤ (I45 0 0).toInt ∧ (I45 0 0).toInt ≤ 719 := by rw [fI45 0 0 (by decide)]; exact (by show 0 ≤ (I43 0 0).toInt ∧ (I43 0 0).toInt ≤ 719; rw [eI43, z_up_n (by decide)]; exact k32)
                  have k48 : 0 ≤ (I45 0 8).toInt ∧ (I45 0 8).toInt ≤ 10 := by rw [fI45 0 8 (by decide)]; exact (by show 0 ≤ (I43 0 8).toInt ∧ (I43 0 8).toInt ≤ 10; rw [eI43, z_up_n (by decide)]; exact k33)
                  have k49 : (I45 60 9).toInt = (I27 60 9).toInt := by rw [fI45 60 9 (by decide), eI43, z_up_n (by decide)]
                  refine lv_topi (fun x50 ex50 => ?_)
                  refine z_iast (i := 68) hx hb hK hW hS rfl (z_ix rfl (by omega) (by omega)) dX11_ask_137 (fun H locs hz1 hW hS => ?_)
                  obtain ⟨I51, eI51⟩ : ∃ K : z_I, K = z_up I45 68 x34.toNatClampNeg x50 := ⟨_, rfl⟩
                  rw [← eI51] at hW
                  have f52 := z_fr_a f46 (show z_wa L_X11_ask_e 68 = true by decide) eI51
                  refine lv_aload_n hx hb dX11_ask_138 rfl (lv_at hl 1 rfl) ?_
                  refine z_get (T := TX11) (N := 13) (ci := 11) (i := 0) (v := .ref (ad 60)) hx hb hts zj_X11_ask_X11 hown hK hW rfl rfl 11 (by decide) (hts (.fieldLink RX11 68 "PetrolBoard" "journeys" "LPetrolBoard$Journeys;") (me_s (me_l (me_l (me_l (me_l (me_l (me_l (me_l (List.mem_of_getElem? (i := 2) rfl)))))))))) (fun _ h => h) rfl dX11_ask_139 ?_
                  refine z_get (T := TX3) (N := 17) (ci := 3) (i := 60) (v := .ref (ad 69)) hx hb hts zj_X11_ask_X3 hown hK hW rfl rfl 8 (by decide) (hts (.fieldLink RX11 339 "PetrolBoard$Journeys" "grantedFirst" "[I") (me_s (me_l (me_l (me_l (me_l (me_l (me_l (me_l (List.mem_of_getElem? (i := 6) rfl)))))))))) (fun _ h => h) rfl dX11_ask_142 ?_
                  refine lv_iload hx hb dX11_ask_145 (lv_at hl 0 rfl) ?_
                  refine lv_aload_n hx hb dX11_ask_147 rfl (lv_at hl 1 rfl) ?_
                  refine z_get (T := TX11) (N := 13) (ci := 11) (i := 0) (v := .ref (ad 60)) hx hb hts zj_X11_ask_X11 hown hK hW rfl rfl 11 (by decide) (hts (.fieldLink RX11 68 "PetrolBoard" "journeys" "LPetrolBoard$Journeys;") (me_s (me_l (me_l (me_l (me_l (me_l (me_l (me_l (List.mem_of_getElem? (i := 2) rfl)))))))))) (fun _ h => h) rfl dX11_ask_148 ?_
                  refine z_get (T := TX3) (N := 17) (ci := 3) (i := 60) (v := .ref (ad 68)) hx hb hts zj_X11_ask_X3 hown hK hW rfl rfl 7 (by decide) (hts (.fieldLink RX11 332 "PetrolBoard$Journeys" "granted" "[I") (me_s (me_l (me_l (me_l (me_l (me_l (me_l (me_l (List.mem_of_getElem? (i := 4) rfl)))))))))) (fun _ h => h) rfl dX11_ask_151 ?_
                  refine lv_iload hx hb dX11_ask_154 (lv_at hl 0 rfl) ?_
                  refine z_iald (i := 68) hx hb hK hW rfl (z_ix rfl (by omega) (by omega)) dX11_ask_156 ?_
                  refine lv_topi (fun x53 ex53 => ?_)
                  refine z_iast (i := 69) hx hb hK hW hS rfl (z_ix rfl (by omega) (by omega)) dX11_ask_157 (fun H locs hz1 hW hS => ?_)
                  obtain ⟨I54, eI54⟩ : ∃ K : z_I, K = z_up I51 69 x34.toNatClampNeg x53 := ⟨_, rfl⟩
                  rw [← eI54] at hW
                  have f55 := z_fr_a f52 (show z_wa L_X11_ask_e 69 = true by decide) eI54
                  refine lv_iload hx hb dX11_ask_158 (lv_at hl 0 rfl) ?_
                  exact z_iret hx hb hr hK hS (Nat.le_of_ble_eq_true rfl) (Nat.le_of_ble_eq_true rfl) hlocks dX11_ask_160 (shC c, ad, I54, JX, PC c ad) hW ⟨I54, rfl, (by show 0 ≤ (I54 21 2).toInt ∧ (I54 21 2).toInt ≤ 12; rw [eI54, z_up_n (by decide), eI51, z_up_n (by decide)]; exact hI45O), ⟨(by show 0 ≤ (I54 1 5).toInt ∧ (I54 1 5).toInt ≤ 30; rw [eI54, z_up_n (by decide), eI51, z_up_n (by decide)]; exact hI45H.1), (by show 0 ≤ (I54 1 11).toInt ∧ (I54 1 11).toInt ≤ 200; rw [eI54, z_up_n (by decide), eI51, z_up_n (by decide)]; exact hI45H.2)⟩, ⟨(by show 0 ≤ (I54 60 9).toInt ∧ (I54 60 9).toInt ≤ 60; rw [eI54, z_up_n (by decide), eI51, z_up_n (by decide)]; exact hI45J.1), (by show 0 ≤ (I54 60 12).toInt ∧ (I54 60 12).toInt ≤ 12; rw [eI54, z_up_n (by decide), eI51, z_up_n (by decide)]; exact hI45J.2)⟩, ⟨(by show 0 ≤ (I54 0 0).toInt ∧ (I54 0 0).toInt ≤ 719; rw [eI54, z_up_n (by decide), eI51, z_up_n (by decide)]; exact k47), (by show 0 ≤ (I54 0 8).toInt ∧ (I54 0 8).toInt ≤ 10; rw [eI54, z_up_n (by decide), eI51, z_up_n (by decide)]; exact k48)⟩, f55, (Or.inl ⟨by omega, by omega, (by have q9 : (I54 60 9) = (I45 60 9) := (by rw [eI54, z_up_n (by decide), eI51, z_up_n (by decide)]); show (I54 60 9).toInt = (I 60 9).toInt + 1; rw [q9]; first | done | omega)⟩)⟩
                · refine lv_if_eq (tgt := 158) hx hb dX11_ask_94 (by decide) (fun c56 => ?_) (fun c56 => absurd (by decide) c56)
                  refine lv_iload hx hb dX11_ask_158 (lv_at hl 0 rfl) ?_
                  exact z_iret hx hb hr hK hS (Nat.le_of_ble_eq_true rfl) (Nat.le_of_ble_eq_true rfl) hlocks dX11_ask_160 (shC c, ad, I27, JX, PC c ad) hW ⟨I27, rfl, (by show 0 ≤ (I27 21 2).toInt ∧ (I27 21 2).toInt ≤ 12; exact k29), ⟨(by show 0 ≤ (I27 1 5).toInt ∧ (I27 1 5).toInt ≤ 30; exact k30), (by show 0 ≤ (I27 1 11).toInt ∧ (I27 1 11).toInt ≤ 200; exact k31)⟩, ⟨(by show 0 ≤ (I27 60 9).toInt ∧ (I27 60 9).toInt ≤ 60; exact hI27J.1), (by show 0 ≤ (I27 60 12).toInt ∧ (I27 60 12).toInt ≤ 12; exact hI27J.2)⟩, ⟨(by show 0 ≤ (I27 0 0).toInt ∧ (I27 0 0).toInt ≤ 719; exact k32), (by show 0 ≤ (I27 0 8).toInt ∧ (I27 0 8).toInt ≤ 10; exact k33)⟩, f28, (Or.inl ⟨by omega, by omega, (by show (I27 60 9).toInt = (I 60 9).toInt + 1; omega)⟩)⟩
              · have h57 := h35
                refine lv_istore (lv' := [(7, .int x34), (0, .ref (ad 0)), (1, .int a1), (2, .int a2), (3, .int a3), (4, .int a4), (5, .int a5), (6, .int a6)]) hx hb dX11_ask_83 hl (by decide) rfl (fun ls hl => ?_)
                refine lv_aload_n hx hb dX11_ask_85 rfl (lv_at hl 1 rfl) ?_
                refine z_get (T := TX11) (N := 13) (ci := 11) (i := 0) (v := .ref (ad 60)) hx hb hts zj_X11_ask_X11 hown hK hW rfl rfl 11 (by decide) (hts (.fieldLink RX11 68 "PetrolBoard" "journeys" "LPetrolBoard$Journeys;") (me_s (me_l (me_l (me_l (me_l (me_l (me_l (me_l (List.mem_of_getElem? (i := 2) rfl)))))))))) (fun _ h => h) rfl dX11_ask_86 ?_
                refine lv_iload hx hb dX11_ask_89 (lv_at hl 0 rfl) ?_
                refine z_ci hW hS hA (va_runV (As := [.int x34]) (rest := []) ⟨hx, hb, hml, hown, hts⟩ (sx_X3_has l G ad c I27 ⟨(by show 0 ≤ (I27 60 9).toInt ∧ (I27 60 9).toInt ≤ 60; exact hI27J.1), (by show 0 ≤ (I27 60 12).toInt ∧ (I27 60 12).toInt ≤ 12; exact hI27J.2)⟩ x34 _) (cwV 1 hts gX11_ask_X3_has rfl rfl rfl hy_X3_has ⟨Nat.le_of_ble_eq_true rfl, Nat.le_of_ble_eq_true rfl⟩) (z_preV (i := 60) hK hW rfl rfl) rfl rfl hl.1 rfl (lv_room (Nat.le_of_ble_eq_true rfl)) dX11_ask_91 ⟨Nat.le_of_ble_eq_true rfl, Nat.le_of_ble_eq_true rfl⟩) (fun r u1 H locs hp hW hS => ?_)
                obtain ⟨e9, hp⟩ := hp
                rw [e9] at hW
                rcases hp with ⟨rfl, h58, h59⟩ | rfl
                · refine lv_if_eq (tgt := 158) hx hb dX11_ask_94 (by decide) (fun c60 => absurd c60 (by decide)) (fun c60 => ?_)
                  refine lv_aload_n hx hb dX11_ask_97 rfl (lv_at hl 1 rfl) ?_
                  refine z_get (T := TX11) (N := 13) (ci := 11) (i := 0) (v := .ref (ad 60)) hx hb hts zj_X11_ask_X11 hown hK hW rfl rfl 11 (by decide) (hts (.fieldLink RX11 68 "PetrolBoard" "journeys" "LPetrolBoard$Journeys;") (me_s (me_l (me_l (me_l (me_l (me_l (me_l (me_l (List.mem_of_getElem? (i := 2) rfl)))))))))) (fun _ h => h) rfl dX11_ask_98 ?_
                  refine z_get (T := TX3) (N := 17) (ci := 3) (i := 60) (v := .ref (ad 67)) hx hb hts zj_X11_ask_X3 hown hK hW rfl rfl 6 (by decide) (hts (.fieldLink RX11 329 "PetrolBoard$Journeys" "asked" "[I") (me_s (me_l (me_l (me_l (me_l (me_l (me_l (me_l (List.mem_of_getElem? (i := 3) rfl)))))))))) (fun _ h => h) rfl dX11_ask_101 ?_
                  refine lv_iload hx hb dX11_ask_104 (lv_at hl 0 rfl) ?_
                  refine lv_aload_n hx hb dX11_ask_106 rfl (lv_at hl 1 rfl) ?_
                  have r61 : 0 ≤ (I27 0 0).toInt ∧ (I27 0 0).toInt ≤ 719 := k32
                  refine z_get (T := TX11) (N := 13) (ci := 11) (i := 0) (v := .int (I27 0 0)) hx hb hts zj_X11_ask_X11 hown hK hW rfl rfl 0 (by decide) (hts (.fieldLink RX11 85 "PetrolBoard" "today" "I") (me_s (me_l (me_l (me_l (me_l (me_l (me_l (me_l (List.mem_of_getElem? (i := 1) rfl)))))))))) (fun _ h => h) rfl dX11_ask_107 ?_
                  refine z_iast (i := 67) hx hb hK hW hS rfl (z_ix rfl (by omega) (by omega)) dX11_ask_110 (fun H locs hz1 hW hS => ?_)
                  obtain ⟨I62, eI62⟩ : ∃ K : z_I, K = z_up I27 67 x34.toNatClampNeg (I27 0 0) := ⟨_, rfl⟩
                  rw [← eI62] at hW
                  have f63 := z_fr_a f28 (show z_wa L_X11_ask_e 67 = true by decide) eI62
                  refine lv_aload_n hx hb dX11_ask_111 rfl (lv_at hl 1 rfl) ?_
                  refine z_get (T := TX11) (N := 13) (ci := 11) (i := 0) (v := .ref (ad 60)) hx hb hts zj_X11_ask_X11 hown hK hW rfl rfl 11 (by decide) (hts (.fieldLink RX11 68 "PetrolBoard" "journeys" "LPetrolBoard$Journeys;") (me_s (me_l (me_l (me_l (me_l (me_l (me_l (me_l (List.mem_of_getElem? (i := 2) rfl)))))))))) (fun _ h => h) rfl dX11_ask_112 ?_
                  refine z_get (T := TX3) (N := 17) (ci := 3) (i := 60) (v := .ref (ad 68)) hx hb hts zj_X11_ask_X3 hown hK hW rfl rfl 7 (by decide) (hts (.fieldLink RX11 332 "PetrolBoard$Journeys" "granted" "[I") (me_s (me_l (me_l (me_l (me_l (me_l (me_l (me_l (List.mem_of_getElem? (i := 4) rfl)))))))))) (fun _ h => h) rfl dX11_ask_115 ?_
                  refine lv_iload hx hb dX11_ask_118 (lv_at hl 0 rfl) ?_
                  refine lv_aload_n hx hb dX11_ask_120 rfl (lv_at hl 1 rfl) ?_
                  refine z_get (T := TX11) (N := 13) (ci := 11) (i := 0) (v := .ref (ad 21)) hx hb hts zj_X11_ask_X11 hown hK hW rfl rfl 4 (by decide) (hts (.fieldLink RX11 30 "PetrolBoard" "orderBook" "LPetrolBoard$OrderBook;") (me_s (me_l (me_l (me_l (me_l (me_l (me_l (me_l (List.mem_of_getElem? (i := 5) rfl)))))))))) (fun _ h => h) rfl dX11_ask_121 ?_
                  refine lv_aload_n hx hb dX11_ask_124 rfl (lv_at hl 1 rfl) ?_
                  refine z_get (T := TX11) (N := 13) (ci := 11) (i := 0) (v := .ref (ad 1)) hx hb hts zj_X11_ask_X11 hown hK hW rfl rfl 2 (by decide) (hts (.fieldLink RX11 16 "PetrolBoard" "holders" "LPetrolBoard$Holders;") (me_s (me_l (me_l (me_l (me_l (me_l (me_l (me_l (List.mem_of_getElem? (i := 0) rfl)))))))))) (fun _ h => h) rfl dX11_ask_125 ?_
                  refine lv_aload_n hx hb dX11_ask_128 rfl (lv_at hl 1 rfl) ?_
                  refine z_get (T := TX11) (N := 13) (ci := 11) (i := 0) (v := .ref (ad 60)) hx hb hts zj_X11_ask_X11 hown hK hW rfl rfl 11 (by decide) (hts (.fieldLink RX11 68 "PetrolBoard" "journeys" "LPetrolBoard$Journeys;") (me_s (me_l (me_l (me_l (me_l (me_l (me_l (me_l (List.mem_of_getElem? (i := 2) rfl)))))))))) (fun _ h => h) rfl dX11_ask_129 ?_
                  refine lv_iload hx hb dX11_ask_132 (lv_at hl 0 rfl) ?_
                  refine z_ci hW hS hA (va_runV (As := [.ref (ad 1), .ref (ad 60), .int x34]) (rest := [.int x34, .ref (ad 68)]) ⟨hx, hb, hml, hown, hts⟩ (sx_X6_grant l G ad c I62 (by show 0 ≤ (I62 21 2).toInt ∧ (I62 21 2).toInt ≤ 12; rw [eI62, z_up_n (by decide)]; exact k29) ⟨(by show 0 ≤ (I62 1 5).toInt ∧ (I62 1 5).toInt ≤ 30; rw [eI62, z_up_n (by decide)]; exact k30), (by show 0 ≤ (I62 1 11).toInt ∧ (I62 1 11).toInt ≤ 200; rw [eI62, z_up_n (by decide)]; exact k31)⟩ ⟨(by show 0 ≤ (I62 60 9).toInt ∧ (I62 60 9).toInt ≤ 60; rw [eI62, z_up_n (by decide)]; exact hI27J.1), (by show 0 ≤ (I62 60 12).toInt ∧ (I62 60 12).toInt ≤ 12; rw [eI62, z_up_n (by decide)]; exact hI27J.2)⟩ x34 hc _) (cwV 3 hts gX11_ask_X6_grant rfl rfl rfl hy_X6_grant ⟨Nat.le_of_ble_eq_true rfl, Nat.le_of_ble_eq_true rfl⟩) (z_preV (i := 21) hK hW rfl rfl) rfl rfl hl.1 rfl (lv_room (Nat.le_of_ble_eq_true rfl)) dX11_ask_134 ⟨Nat.le_of_ble_eq_true rfl, Nat.le_of_ble_eq_true rfl⟩) (fun r u1 H locs hp hW hS => ?_)
                  obtain ⟨I64, e9, hI64O, hI64H, hI64J, fI64⟩ := hp
                  rw [e9] at hW
                  have f65 := z_fr_sub (L := L_X11_ask_e) f63 fI64 (by decide)
                  have k66 : 0 ≤ (I64 0 0).toInt ∧ (I64 0 0).toInt ≤ 719 := by rw [fI64 0 0 (by decide)]; exact (by show 0 ≤ (I62 0 0).toInt ∧ (I62 0 0).toInt ≤ 719; rw [eI62, z_up_n (by decide)]; exact k32)
                  have k67 : 0 ≤ (I64 0 8).toInt ∧ (I64 0 8).toInt ≤ 10 := by rw [fI64 0 8 (by decide)]; exact (by show 0 ≤ (I62 0 8).toInt ∧ (I62 0 8).toInt ≤ 10; rw [eI62, z_up_n (by decide)]; exact k33)
                  have k68 : (I64 60 9).toInt = (I27 60 9).toInt := by rw [fI64 60 9 (by decide), eI62, z_up_n (by decide)]
                  refine lv_topi (fun x69 ex69 => ?_)
                  refine z_iast (i := 68) hx hb hK hW hS rfl (z_ix rfl (by omega) (by omega)) dX11_ask_137 (fun H locs hz1 hW hS => ?_)
                  obtain ⟨I70, eI70⟩ : ∃ K : z_I, K = z_up I64 68 x34.toNatClampNeg x69 := ⟨_, rfl⟩
                  rw [← eI70] at hW
                  have f71 := z_fr_a f65 (show z_wa L_X11_ask_e 68 = true by decide) eI70
                  refine lv_aload_n hx hb dX11_ask_138 rfl (lv_at hl 1 rfl) ?_
                  refine z_get (T := TX11) (N := 13) (ci := 11) (i := 0) (v := .ref (ad 60)) hx hb hts zj_X11_ask_X11 hown hK hW rfl rfl 11 (by decide) (hts (.fieldLink RX11 68 "PetrolBoard" "journeys" "LPetrolBoard$Journeys;") (me_s (me_l (me_l (me_l (me_l (me_l (me_l (me_l (List.mem_of_getElem? (i := 2) rfl)))))))))) (fun _ h => h) rfl dX11_ask_139 ?_
                  refine z_get (T := TX3) (N := 17) (ci := 3) (i := 60) (v := .ref (ad 69)) hx hb hts zj_X11_ask_X3 hown hK hW rfl rfl 8 (by decide) (hts (.fieldLink RX11 339 "PetrolBoard$Journeys" "grantedFirst" "[I") (me_s (me_l (me_l (me_l (me_l (me_l (me_l (me_l (List.mem_of_getElem? (i := 6) rfl)))))))))) (fun _ h => h) rfl dX11_ask_142 ?_
                  refine lv_iload hx hb dX11_ask_145 (lv_at hl 0 rfl) ?_
                  refine lv_aload_n hx hb dX11_ask_147 rfl (lv_at hl 1 rfl) ?_
                  refine z_get (T := TX11) (N := 13) (ci := 11) (i := 0) (v := .ref (ad 60)) hx hb hts zj_X11_ask_X11 hown hK hW rfl rfl 11 (by decide) (hts (.fieldLink RX11 68 "PetrolBoard" "journeys" "LPetrolBoard$Journeys;") (me_s (me_l (me_l (me_l (me_l (me_l (me_l (me_l (List.mem_of_getElem? (i := 2) rfl)))))))))) (fun _ h => h) rfl dX11_ask_148 ?_
                  refine z_get (T := TX3) (N := 17) (ci := 3) (i := 60) (v := .ref (ad 68)) hx hb hts zj_X11_ask_X3 hown hK hW rfl rfl 7 (by decide) (hts (.fieldLink RX11 332 "PetrolBoard$Journeys" "granted" "[I") (me_s (me_l (me_l (me_l (me_l (me_l (me_l (me_l (List.mem_of_getElem? (i := 4) rfl)))))))))) (fun _ h => h) rfl dX11_ask_151 ?_
                  refine lv_iload hx hb dX11_ask_154 (lv_at hl 0 rfl) ?_
                  refine z_iald (i := 68) hx hb hK hW rfl (z_ix rfl (by omega) (by omega)) dX11_ask_156 ?_
                  refine lv_topi (fun x72 ex72 => ?_)
                  refine z_iast (i := 69) hx hb hK hW hS rfl (z_ix rfl (by omega) (by omega)) dX11_ask_157 (fun H locs hz1 hW hS => ?_)
                  obtain ⟨I73, eI73⟩ : ∃ K : z_I, K = z_up I70 69 x34.toNatClampNeg x72 := ⟨_, rfl⟩
                  rw [← eI73] at hW
                  have f74 := z_fr_a f71 (show z_wa L_X11_ask_e 69 = true by decide) eI73
                  refine lv_iload hx hb dX11_ask_158 (lv_at hl 0 rfl) ?_
                  exact z_iret hx hb hr hK hS (Nat.le_of_ble_eq_true rfl) (Nat.le_of_ble_eq_true rfl) hlocks dX11_ask_160 (shC c, ad, I73, JX, PC c ad) hW ⟨I73, rfl, (by show 0 ≤ (I73 21 2).toInt ∧ (I73 21 2).toInt ≤ 12; rw [eI73, z_up_n (by decide), eI70, z_up_n (by decide)]; exact hI64O), ⟨(by show 0 ≤ (I73 1 5).toInt ∧ (I73 1 5).toInt ≤ 30; rw [eI73, z_up_n (by decide), eI70, z_up_n (by decide)]; exact hI64H.1), (by show 0 ≤ (I73 1 11).toInt ∧ (I73 1 11).toInt ≤ 200; rw [eI73, z_up_n (by decide), eI70, z_up_n (by decide)]; exact hI64H.2)⟩, ⟨(by show 0 ≤ (I73 60 9).toInt ∧ (I73 60 9).toInt ≤ 60; rw [eI73, z_up_n (by decide), eI70, z_up_n (by decide)]; exact hI64J.1), (by show 0 ≤ (I73 60 12).toInt ∧ (I73 60 12).toInt ≤ 12; rw [eI73, z_up_n (by decide), eI70, z_up_n (by decide)]; exact hI64J.2)⟩, ⟨(by show 0 ≤ (I73 0 0).toInt ∧ (I73 0 0).toInt ≤ 719; rw [eI73, z_up_n (by decide), eI70, z_up_n (by decide)]; exact k66), (by show 0 ≤ (I73 0 8).toInt ∧ (I73 0 8).toInt ≤ 10; rw [eI73, z_up_n (by decide), eI70, z_up_n (by decide)]; exact k67)⟩, f74, (Or.inr ⟨by omega, by omega, (by have q9 : (I73 60 9) = (I64 60 9) := (by rw [eI73, z_up_n (by decide), eI70, z_up_n (by decide)]); show (I73 60 9).toInt = (I 60 9).toInt; rw [q9]; first | done | omega)⟩)⟩
                · refine lv_if_eq (tgt := 158) hx hb dX11_ask_94 (by decide) (fun c75 => ?_) (fun c75 => absurd (by decide) c75)
                  refine lv_iload hx hb dX11_ask_158 (lv_at hl 0 rfl) ?_
                  exact z_iret hx hb hr hK hS (Nat.le_of_ble_eq_true rfl) (Nat.le_of_ble_eq_true rfl) hlocks dX11_ask_160 (shC c, ad, I27, JX, PC c ad) hW ⟨I27, rfl, (by show 0 ≤ (I27 21 2).toInt ∧ (I27 21 2).toInt ≤ 12; exact k29), ⟨(by show 0 ≤ (I27 1 5).toInt ∧ (I27 1 5).toInt ≤ 30; exact k30), (by show 0 ≤ (I27 1 11).toInt ∧ (I27 1 11).toInt ≤ 200; exact k31)⟩, ⟨(by show 0 ≤ (I27 60 9).toInt ∧ (I27 60 9).toInt ≤ 60; exact hI27J.1), (by show 0 ≤ (I27 60 12).toInt ∧ (I27 60 12).toInt ≤ 12; exact hI27J.2)⟩, ⟨(by show 0 ≤ (I27 0 0).toInt ∧ (I27 0 0).toInt ≤ 719; exact k32), (by show 0 ≤ (I27 0 8).toInt ∧ (I27 0 8).toInt ≤ 10; exact k33)⟩, f28, (Or.inr ⟨by omega, by omega, (by show (I27 60 9).toInt = (I 60 9).toInt; omega)⟩)⟩
            · have h76 := h24
              refine lv_if_ne (tgt := 67) hx hb dX11_ask_62 (by decide) (fun c77 => absurd (by decide) c77) (fun c77 => ?_)
              refine lv_iconst (v := (-1)) hx hb dX11_ask_65 (by decide) ?_
              exact z_iret hx hb hr hK hS (Nat.le_of_ble_eq_true rfl) (Nat.le_of_ble_eq_true rfl) hlocks dX11_ask_66 (shC c, ad, I, JX, PC c ad) hW ⟨I, rfl, (by show 0 ≤ (I 21 2).toInt ∧ (I 21 2).toInt ≤ 12; exact hO), ⟨(by show 0 ≤ (I 1 5).toInt ∧ (I 1 5).toInt ≤ 30; exact hH.1), (by show 0 ≤ (I 1 11).toInt ∧ (I 1 11).toInt ≤ 200; exact hH.2)⟩, ⟨(by show 0 ≤ (I 60 9).toInt ∧ (I 60 9).toInt ≤ 60; exact hJ.1), (by show 0 ≤ (I 60 12).toInt ∧ (I 60 12).toInt ≤ 12; exact hJ.2)⟩, ⟨(by show 0 ≤ (I 0 0).toInt ∧ (I 0 0).toInt ≤ 719; exact hB.1), (by show 0 ≤ (I 0 8).toInt ∧ (I 0 8).toInt ≤ 10; exact hB.2)⟩, z_fr_0, (Or.inr ⟨by omega, by decide, (by show (I 60 9).toInt = (I 60 9).toInt; omega)⟩)⟩
          · have h78 := h20
            have z79 := z_l719
            refine lv_if_eq (tgt := 65) hx hb dX11_ask_54 (by decide) (fun c80 => ?_) (fun c80 => absurd (by decide) c80)
            refine lv_iconst (v := (-1)) hx hb dX11_ask_65 (by decide) ?_
            exact z_iret hx hb hr hK hS (Nat.le_of_ble_eq_true rfl) (Nat.le_of_ble_eq_true rfl) hlocks dX11_ask_66 (shC c, ad, I, JX, PC c ad) hW ⟨I, rfl, (by show 0 ≤ (I 21 2).toInt ∧ (I 21 2).toInt ≤ 12; exact hO), ⟨(by show 0 ≤ (I 1 5).toInt ∧ (I 1 5).toInt ≤ 30; exact hH.1), (by show 0 ≤ (I 1 11).toInt ∧ (I 1 11).toInt ≤ 200; exact hH.2)⟩, ⟨(by show 0 ≤ (I 60 9).toInt ∧ (I 60 9).toInt ≤ 60; exact hJ.1), (by show 0 ≤ (I 60 12).toInt ∧ (I 60 12).toInt ≤ 12; exact hJ.2)⟩, ⟨(by show 0 ≤ (I 0 0).toInt ∧ (I 0 0).toInt ≤ 719; exact hB.1), (by show 0 ≤ (I 0 8).toInt ∧ (I 0 8).toInt ≤ 10; exact hB.2)⟩, z_fr_0, (Or.inr ⟨by omega, by decide, (by show (I 60 9).toInt = (I 60 9).toInt; omega)⟩)⟩
        · have h81 := h16
          refine lv_if_eq (tgt := 65) hx hb dX11_ask_39 (by decide) (fun c82 => ?_) (fun c82 => absurd (by decide) c82)
          refine lv_iconst (v := (-1)) hx hb dX11_ask_65 (by decide) ?_
          exact z_iret hx hb hr hK hS (Nat.le_of_ble_eq_true rfl) (Nat.le_of_ble_eq_true rfl) hlocks dX11_ask_66 (shC c, ad, I, JX, PC c ad) hW ⟨I, rfl, (by show 0 ≤ (I 21 2).toInt ∧ (I 21 2).toInt ≤ 12; exact hO), ⟨(by show 0 ≤ (I 1 5).toInt ∧ (I 1 5).toInt ≤ 30; exact hH.1), (by show 0 ≤ (I 1 11).toInt ∧ (I 1 11).toInt ≤ 200; exact hH.2)⟩, ⟨(by show 0 ≤ (I 60 9).toInt ∧ (I 60 9).toInt ≤ 60; exact hJ.1), (by show 0 ≤ (I 60 12).toInt ∧ (I 60 12).toInt ≤ 12; exact hJ.2)⟩, ⟨(by show 0 ≤ (I 0 0).toInt ∧ (I 0 0).toInt ≤ 719; exact hB.1), (by show 0 ≤ (I 0 8).toInt ∧ (I 0 8).toInt ≤ 10; exact hB.2)⟩, z_fr_0, (Or.inr ⟨by omega, by decide, (by show (I 60 9).toInt = (I 60 9).toInt; omega)⟩)⟩
      · have h83 := h11
        have z84 := z_l1
        have z85 := z_l8
        refine lv_if_ne (tgt := 34) hx hb dX11_ask_29 (by decide) (fun c86 => absurd (by decide) c86) (fun c86 => ?_)
        refine lv_iconst (v := (-1)) hx hb dX11_ask_32 (by decide) ?_
        exact z_iret hx hb hr hK hS (Nat.le_of_ble_eq_true rfl) (Nat.le_of_ble_eq_true rfl) hlocks dX11_ask_33 (shC c, ad, I, JX, PC c ad) hW ⟨I, rfl, (by show 0 ≤ (I 21 2).toInt ∧ (I 21 2).toInt ≤ 12; exact hO), ⟨(by show 0 ≤ (I 1 5).toInt ∧ (I 1 5).toInt ≤ 30; exact hH.1), (by show 0 ≤ (I 1 11).toInt ∧ (I 1 11).toInt ≤ 200; exact hH.2)⟩, ⟨(by show 0 ≤ (I 60 9).toInt ∧ (I 60 9).toInt ≤ 60; exact hJ.1), (by show 0 ≤ (I 60 12).toInt ∧ (I 60 12).toInt ≤ 12; exact hJ.2)⟩, ⟨(by show 0 ≤ (I 0 0).toInt ∧ (I 0 0).toInt ≤ 719; exact hB.1), (by show 0 ≤ (I 0 8).toInt ∧ (I 0 8).toInt ≤ 10; exact hB.2)⟩, z_fr_0, (Or.inr ⟨by omega, by decide, (by show (I 60 9).toInt = (I 60 9).toInt; omega)⟩)⟩
    · have h87 := h5
      have z88 := z_l1
      have z89 := z_l500
      refine lv_if_eq (tgt := 32) hx hb dX11_ask_19 (by decide) (fun c90 => ?_) (fun c90 => absurd (by decide) c90)
      refine lv_iconst (v := (-1)) hx hb dX11_ask_32 (by decide) ?_
      exact z_iret hx hb hr hK hS (Nat.le_of_ble_eq_true rfl) (Nat.le_of_ble_eq_true rfl) hlocks dX11_ask_33 (shC c, ad, I, JX, PC c ad) hW ⟨I, rfl, (by show 0 ≤ (I 21 2).toInt ∧ (I 21 2).toInt ≤ 12; exact hO), ⟨(by show 0 ≤ (I 1 5).toInt ∧ (I 1 5).toInt ≤ 30; exact hH.1), (by show 0 ≤ (I 1 11).toInt ∧ (I 1 11).toInt ≤ 200; exact hH.2)⟩, ⟨(by show 0 ≤ (I 60 9).toInt ∧ (I 60 9).toInt ≤ 60; exact hJ.1), (by show 0 ≤ (I 60 12).toInt ∧ (I 60 12).toInt ≤ 12; exact hJ.2)⟩, ⟨(by show 0 ≤ (I 0 0).toInt ∧ (I 0 0).toInt ≤ 719; exact hB.1), (by show 0 ≤ (I 0 8).toInt ∧ (I 0 8).toInt ≤ 10; exact hB.2)⟩, z_fr_0, (Or.inr ⟨by omega, by decide, (by show (I 60 9).toInt = (I 60 9).toInt; omega)⟩)⟩
  · have h91 := h1
    have r92 : 0 ≤ (I 1 5).toInt ∧ (I 1 5).toInt ≤ 30 := hH.1
    refine lv_if_eq (tgt := 32) hx hb dX11_ask_8 (by decide) (fun c93 => ?_) (fun c93 => absurd (by decide) c93)
    refine lv_iconst (v := (-1)) hx hb dX11_ask_32 (by decide) ?_
    exact z_iret hx hb hr hK hS (Nat.le_of_ble_eq_true rfl) (Nat.le_of_ble_eq_true rfl) hlocks dX11_ask_33 (shC c, ad, I, JX, PC c ad) hW ⟨I, rfl, (by show 0 ≤ (I 21 2).toInt ∧ (I 21 2).toInt ≤ 12; exact hO), ⟨(by show 0 ≤ (I 1 5).toInt ∧ (I 1 5).toInt ≤ 30; exact hH.1), (by show 0 ≤ (I 1 11).toInt ∧ (I 1 11).toInt ≤ 200; exact hH.2)⟩, ⟨(by show 0 ≤ (I 60 9).toInt ∧ (I 60 9).toInt ≤ 60; exact hJ.1), (by show 0 ≤ (I 60 12).toInt ∧ (I 60 12).toInt ≤ 12; exact hJ.2)⟩, ⟨(by show 0 ≤ (I 0 0).toInt ∧ (I 0 0).toInt ≤ 719; exact hB.1), (by show 0 ≤ (I 0 8).toInt ∧ (I 0 8).toInt ≤ 10; exact hB.2)⟩, z_fr_0, (Or.inr ⟨by omega, by decide, (by show (I 60 9).toInt = (I 60 9).toInt; omega)⟩)⟩
set_option maxHeartbeats 8000000 in
set_option maxRecDepth 100000 in
theorem sx_X12_within_e (l : Launch) (G : z_G) (ad : Nat → Nat) (I : z_I) (J : z_J) (a1 : Int32) (a2 : Int32) (a3 : Int32) : z_M l yX12_within wsX12_within { frames := 1, cells := 0, slots := 0, locals := 12 } [.int a1, .int a2, .int a3] G (shM, ad, I, J, PM ad) (fun r u1 => u1 = (shM, ad, I, J, PM ad) ∧ ((r = 1 ∧ a2.toInt ≤ a1.toInt ∧ a1.toInt ≤ a3.toInt) ∨ (r = 0 ∧ ¬ (a2.toInt ≤ a1.toInt ∧ a1.toInt ≤ a3.toInt)))) 0 0 := by
  intro sz
  refine z_headQ (cc := cX12_within) (maxL := 3) (ret := (some .boolean)) (by decide) rfl (Nat.le_of_ble_eq_true rfl) ?_
  intro p e s m below meth c0 ls hIn hK hsz hW hl
  obtain ⟨hx, hb, hr, hml, hown, hts, hlocks, hname⟩ := hIn
  subst hsz
  have hown : s.vm.findClass RX12 = some m.cls := hown
  have hA : ∀ q : Nat, s.heap.size ≤ q → z_A (shM, ad, I, J, PM ad) s.heap.size q := fun q h => Or.inr h
  generalize hAe : z_A (shM, ad, I, J, PM ad) s.heap.size = A at *
  have hS : va_S A s.heap s.heap [] := va_S.rf
  have hl : lv_has ls 3 [(0, .int a1), (1, .int a2), (2, .int a3)] := hl
  refine lv_iload_n hx hb dX12_within_0 rfl (lv_at hl 0 rfl) ?_
  refine lv_iload_n hx hb dX12_within_1 rfl (lv_at hl 1 rfl) ?_
  refine lv_icmp_lt (tgt := 14) hx hb dX12_within_2 (by decide) (fun c1 => ?_) (fun c1 => ?_)
  · have g2 := z_f_lt rfl rfl c1
    have b3 := Int32.toInt_lt a1
    have b4 := Int32.toInt_lt a2
    refine lv_iconst (v := 0) hx hb dX12_within_14 (by decide) ?_
    exact z_zret hx hb hr (by decide) hK hS (Nat.le_of_ble_eq_true rfl) (Nat.le_of_ble_eq_true rfl) hlocks dX12_within_15 (shM, ad, I, J, PM ad) hW ⟨rfl, (Or.inr ⟨rfl, by omega⟩)⟩
  · have g5 := z_f_nlt rfl rfl c1
    have b6 := Int32.toInt_lt a1
    have b7 := Int32.toInt_lt a2
    refine lv_iload_n hx hb dX12_within_5 rfl (lv_at hl 0 rfl) ?_
    refine lv_iload_n hx hb dX12_within_6 rfl (lv_at hl 2 rfl) ?_
    refine lv_icmp_gt (tgt := 14) hx hb dX12_within_7 (by decide) (fun c8 => ?_) (fun c8 => ?_)
    · have g9 := z_f_gt rfl rfl c8
      have b10 := Int32.toInt_lt a3
      refine lv_iconst (v := 0) hx hb dX12_within_14 (by decide) ?_
      exact z_zret hx hb hr (by decide) hK hS (Nat.le_of_ble_eq_true rfl) (Nat.le_of_ble_eq_true rfl) hlocks dX12_within_15 (shM, ad, I, J, PM ad) hW ⟨rfl, (Or.inr ⟨rfl, by omega⟩)⟩
    · have g11 := z_f_ngt rfl rfl c8
      have b12 := Int32.toInt_lt a3
      refine lv_iconst (v := 1) hx hb dX12_within_10 (by decide) ?_
      refine lv_goto (tgt := 15) hx hb dX12_within_11 (by decide) ?_
      exact z_zret hx hb hr (by decide) hK hS (Nat.le_of_ble_eq_true rfl) (Nat.le_of_ble_eq_true rfl) hlocks dX12_within_15 (shM, ad, I, J, PM ad) hW ⟨rfl, (Or.inl ⟨rfl, by omega⟩)⟩
set_option maxHeartbeats 8000000 in
set_option maxRecDepth 100000 in
theorem sx_X12_isHolder_e (l : Launch) (G : z_G) (ad : Nat → Nat) (I : z_I) (J : z_J) (hma : z_ima I) (a1 : Int32) : z_M l yX12_isHolder wsX12_isHolder { frames := 1, cells := 0, slots := 0, locals := 12 } [.ref (ad 0), .int a1] G (shM, ad, I, J, PM ad) (fun r u1 => u1 = (shM, ad, I, J, PM ad) ∧ ((r = 1 ∧ 0 ≤ a1.toInt ∧ a1.toInt < (I 0 1).toInt) ∨ (r = 0 ∧ ¬ (0 ≤ a1.toInt ∧ a1.toInt < (I 0 1).toInt)))) 0 0 := by
  intro sz
  refine z_headQ (cc := cX12_isHolder) (maxL := 2) (ret := (some .boolean)) (by decide) rfl (Nat.le_of_ble_eq_true rfl) ?_
  intro p e s m below meth c0 ls hIn hK hsz hW hl
  obtain ⟨hx, hb, hr, hml, hown, hts, hlocks, hname⟩ := hIn
  subst hsz
  have hown : s.vm.findClass RX12 = some m.cls := hown
  have hA : ∀ q : Nat, s.heap.size ≤ q → z_A (shM, ad, I, J, PM ad) s.heap.size q := fun q h => Or.inr h
  generalize hAe : z_A (shM, ad, I, J, PM ad) s.heap.size = A at *
  have hS : va_S A s.heap s.heap [] := va_S.rf
  have hl : lv_has ls 2 [(0, .ref (ad 0)), (1, .int a1)] := hl
  refine lv_iload_n hx hb dX12_isHolder_0 rfl (lv_at hl 1 rfl) ?_
  refine lv_if_lt (tgt := 16) hx hb dX12_isHolder_1 (by decide) (fun c1 => ?_) (fun c1 => ?_)
  · have g2 := z_f_lt rfl z_l0 c1
    have b3 := Int32.toInt_lt a1
    refine lv_iconst (v := 0) hx hb dX12_isHolder_16 (by decide) ?_
    exact z_zret hx hb hr (by decide) hK hS (Nat.le_of_ble_eq_true rfl) (Nat.le_of_ble_eq_true rfl) hlocks dX12_isHolder_17 (shM, ad, I, J, PM ad) hW ⟨rfl, (Or.inr ⟨rfl, by omega⟩)⟩
  · have g4 := z_f_nlt rfl z_l0 c1
    have b5 := Int32.toInt_lt a1
    refine lv_iload_n hx hb dX12_isHolder_4 rfl (lv_at hl 1 rfl) ?_
    refine lv_aload_n hx hb dX12_isHolder_5 rfl (lv_at hl 0 rfl) ?_
    have r6 : 0 ≤ (I 0 1).toInt ∧ (I 0 1).toInt ≤ 30 := hma.2.1
    refine z_get (T := TX12) (N := 96) (ci := 12) (i := 0) (v := .int (I 0 1)) hx hb hts zj_X12_isHolder_X12 hown hK hW rfl rfl 1 (by decide) (hts (.fieldLink RX12 229 "PetrolBoardModel" "holders" "I") (me_s (me_l (List.mem_of_getElem? (i := 0) rfl)))) (fun _ h => h) rfl dX12_isHolder_6 ?_
    refine lv_icmp_ge (tgt := 16) hx hb dX12_isHolder_9 (by decide) (fun c7 => ?_) (fun c7 => ?_)
    · have g8 := z_f_ge rfl rfl c7
      refine lv_iconst (v := 0) hx hb dX12_isHolder_16 (by decide) ?_
      exact z_zret hx hb hr (by decide) hK hS (Nat.le_of_ble_eq_true rfl) (Nat.le_of_ble_eq_true rfl) hlocks dX12_isHolder_17 (shM, ad, I, J, PM ad) hW ⟨rfl, (Or.inr ⟨rfl, by omega⟩)⟩
    · have g9 := z_f_nge rfl rfl c7
      refine lv_iconst (v := 1) hx hb dX12_isHolder_12 (by decide) ?_
      refine lv_goto (tgt := 17) hx hb dX12_isHolder_13 (by decide) ?_
      exact z_zret hx hb hr (by decide) hK hS (Nat.le_of_ble_eq_true rfl) (Nat.le_of_ble_eq_true rfl) hlocks dX12_isHolder_17 (shM, ad, I, J, PM ad) hW ⟨rfl, (Or.inl ⟨rfl, by omega⟩)⟩
noncomputable def L_X12_holder_e : z_L := [(0, 1), (1, 999), (2, 999), (3, 999), (4, 999), (5, 999)]
set_option maxHeartbeats 8000000 in
set_option maxRecDepth 100000 in
theorem sx_X12_holder_e (l : Launch) (G : z_G) (ad : Nat → Nat) (I : z_I) (J : z_J) (hma : z_ima I) (a1 : Int32) (a2 : Int32) (a3 : Int32) (a4 : Int32) (a5 : Int32) : z_M l yX12_holder wsX12_holder { frames := 2, cells := 0, slots := 0, locals := 34 } [.ref (ad 0), .int a1, .int a2, .int a3, .int a4, .int a5] G (shM, ad, I, J, PM ad) (fun r u1 => ∃ (I1 : z_I) (J1 : z_J), u1 = (shM, ad, I1, J1, PM ad) ∧ z_ima I1 ∧ z_fr L_X12_holder_e I1 I ∧ (((1 ≤ a1.toInt ∧ a1.toInt ≤ 9 ∧ 0 ≤ a2.toInt ∧ a2.toInt ≤ 9 ∧ 1 ≤ a3.toInt ∧ a3.toInt ≤ 8 ∧ 0 ≤ a4.toInt ∧ a4.toInt ≤ 999 ∧ 0 ≤ a5.toInt ∧ a5.toInt ≤ 99 ∧ (I 0 1).toInt < 30) ∧ r.toInt = (I 0 1).toInt ∧ (I1 0 1).toInt = (I 0 1).toInt + 1) ∨ (¬ (1 ≤ a1.toInt ∧ a1.toInt ≤ 9 ∧ 0 ≤ a2.toInt ∧ a2.toInt ≤ 9 ∧ 1 ≤ a3.toInt ∧ a3.toInt ≤ 8 ∧ 0 ≤ a4.toInt ∧ a4.toInt ≤ 999 ∧ 0 ≤ a5.toInt ∧ a5.toInt ≤ 99 ∧ (I 0 1).toInt < 30) ∧ r.toInt = -1 ∧ (I1 0 1).toInt = (I 0 1).toInt))) 0 0 := by
  intro sz
  refine z_headQ (cc := cX12_holder) (maxL := 6) (ret := (some .int)) (by decide) rfl (Nat.le_of_ble_eq_true rfl) ?_
  intro p e s m below meth c0 ls hIn hK hsz hW hl
  obtain ⟨hx, hb, hr, hml, hown, hts, hlocks, hname⟩ := hIn
  subst hsz
  have hown : s.vm.findClass RX12 = some m.cls := hown
  have hA : ∀ q : Nat, s.heap.size ≤ q → z_A (shM, ad, I, J, PM ad) s.heap.size q := fun q h => Or.inr h
  generalize hAe : z_A (shM, ad, I, J, PM ad) s.heap.size = A at *
  have hS : va_S A s.heap s.heap [] := va_S.rf
  have hl : lv_has ls 6 [(0, .ref (ad 0)), (1, .int a1), (2, .int a2), (3, .int a3), (4, .int a4), (5, .int a5)] := hl
  refine lv_iload_n hx hb dX12_holder_0 rfl (lv_at hl 1 rfl) ?_
  refine lv_iconst (v := 1) hx hb dX12_holder_1 (by decide) ?_
  refine lv_bipush (v := 9) hx hb dX12_holder_2 (by decide) ?_
  refine z_ci hW hS hA (va_runS (As := [.int a1, .int 1, .int 9]) (rest := []) ⟨hx, hb, hml, hown, hts⟩ (sx_X12_within_e l G ad I J  a1 1 9 _) (va_cwS 3 hts gX12_holder_X12_within rfl rfl rfl hy_X12_within.2 ⟨Nat.le_of_ble_eq_true rfl, Nat.le_of_ble_eq_true rfl⟩) (z_preS hK hW) rfl rfl hl.1 rfl (lv_room (Nat.le_of_ble_eq_true rfl)) dX12_holder_4 ⟨Nat.le_of_ble_eq_true rfl, Nat.le_of_ble_eq_true rfl⟩) (fun r u1 H locs hp hW hS => ?_)
  obtain ⟨e9, hp⟩ := hp
  rw [e9] at hW
  rcases hp with ⟨rfl, h1⟩ | ⟨rfl, h1⟩
  · have h2 := h1
    have z3 := z_l1
    have z4 := z_l9
    refine lv_if_eq (tgt := 62) hx hb dX12_holder_7 (by decide) (fun c5 => absurd c5 (by decide)) (fun c5 => ?_)
    refine lv_iload_n hx hb dX12_holder_10 rfl (lv_at hl 2 rfl) ?_
    refine lv_iconst (v := 0) hx hb dX12_holder_11 (by decide) ?_
    refine lv_bipush (v := 9) hx hb dX12_holder_12 (by decide) ?_
    refine z_ci hW hS hA (va_runS (As := [.int a2, .int 0, .int 9]) (rest := []) ⟨hx, hb, hml, hown, hts⟩ (sx_X12_within_e l G ad I J  a2 0 9 _) (va_cwS 3 hts gX12_holder_X12_within rfl rfl rfl hy_X12_within.2 ⟨Nat.le_of_ble_eq_true rfl, Nat.le_of_ble_eq_true rfl⟩) (z_preS hK hW) rfl rfl hl.1 rfl (lv_room (Nat.le_of_ble_eq_true rfl)) dX12_holder_14 ⟨Nat.le_of_ble_eq_true rfl, Nat.le_of_ble_eq_true rfl⟩) (fun r u1 H locs hp hW hS => ?_)
    obtain ⟨e9, hp⟩ := hp
    rw [e9] at hW
    rcases hp with ⟨rfl, h6⟩ | ⟨rfl, h6⟩
    · have h7 := h6
      have z8 := z_l0
      have z9 := z_l9
      refine lv_if_eq (tgt := 62) hx hb dX12_holder_17 (by decide) (fun c10 => absurd c10 (by decide)) (fun c10 => ?_)
      refine lv_iload_n hx hb dX12_holder_20 rfl (lv_at hl 3 rfl) ?_
      refine lv_iconst (v := 1) hx hb dX12_holder_21 (by decide) ?_
      refine lv_bipush (v := 8) hx hb dX12_holder_22 (by decide) ?_
      refine z_ci hW hS hA (va_runS (As := [.int a3, .int 1, .int 8]) (rest := []) ⟨hx, hb, hml, hown, hts⟩ (sx_X12_within_e l G ad I J  a3 1 8 _) (va_cwS 3 hts gX12_holder_X12_within rfl rfl rfl hy_X12_within.2 ⟨Nat.le_of_ble_eq_true rfl, Nat.le_of_ble_eq_true rfl⟩) (z_preS hK hW) rfl rfl hl.1 rfl (lv_room (Nat.le_of_ble_eq_true rfl)) dX12_holder_24 ⟨Nat.le_of_ble_eq_true rfl, Nat.le_of_ble_eq_true rfl⟩) (fun r u1 H locs hp hW hS => ?_)
      obtain ⟨e9, hp⟩ := hp
      rw [e9] at hW
      rcases hp with ⟨rfl, h11⟩ | ⟨rfl, h11⟩
      · have h12 := h11
        have z13 := z_l1
        have z14 := z_l8
        refine lv_if_eq (tgt := 62) hx hb dX12_holder_27 (by decide) (fun c15 => absurd c15 (by decide)) (fun c15 => ?_)
        refine lv_iload hx hb dX12_holder_30 (lv_at hl 4 rfl) ?_
        refine lv_iconst (v := 0) hx hb dX12_holder_32 (by decide) ?_
        refine lv_sipush (v := 999) hx hb dX12_holder_33 (by decide) ?_
        refine z_ci hW hS hA (va_runS (As := [.int a4, .int 0, .int 999]) (rest := []) ⟨hx, hb, hml, hown, hts⟩ (sx_X12_within_e l G ad I J  a4 0 999 _) (va_cwS 3 hts gX12_holder_X12_within rfl rfl rfl hy_X12_within.2 ⟨Nat.le_of_ble_eq_true rfl, Nat.le_of_ble_eq_true rfl⟩) (z_preS hK hW) rfl rfl hl.1 rfl (lv_room (Nat.le_of_ble_eq_true rfl)) dX12_holder_36 ⟨Nat.le_of_ble_eq_true rfl, Nat.le_of_ble_eq_true rfl⟩) (fun r u1 H locs hp hW hS => ?_)
        obtain ⟨e9, hp⟩ := hp
        rw [e9] at hW
        rcases hp with ⟨rfl, h16⟩ | ⟨rfl, h16⟩
        · have h17 := h16
          have z18 := z_l0
          have z19 := z_l999
          refine lv_if_eq (tgt := 62) hx hb dX12_holder_39 (by decide) (fun c20 => absurd c20 (by decide)) (fun c20 => ?_)
          refine lv_iload hx hb dX12_holder_42 (lv_at hl 5 rfl) ?_
          refine lv_iconst (v := 0) hx hb dX12_holder_44 (by decide) ?_
          refine lv_bipush (v := 99) hx hb dX12_holder_45 (by decide) ?_
          refine z_ci hW hS hA (va_runS (As := [.int a5, .int 0, .int 99]) (rest := []) ⟨hx, hb, hml, hown, hts⟩ (sx_X12_within_e l G ad I J  a5 0 99 _) (va_cwS 3 hts gX12_holder_X12_within rfl rfl rfl hy_X12_within.2 ⟨Nat.le_of_ble_eq_true rfl, Nat.le_of_ble_eq_true rfl⟩) (z_preS hK hW) rfl rfl hl.1 rfl (lv_room (Nat.le_of_ble_eq_true rfl)) dX12_holder_47 ⟨Nat.le_of_ble_eq_true rfl, Nat.le_of_ble_eq_true rfl⟩) (fun r u1 H locs hp hW hS => ?_)
          obtain ⟨e9, hp⟩ := hp
          rw [e9] at hW
          rcases hp with ⟨rfl, h21⟩ | ⟨rfl, h21⟩
          · have h22 := h21
            have z23 := z_l0
            have z24 := z_l99
            refine lv_if_eq (tgt := 62) hx hb dX12_holder_50 (by decide) (fun c25 => absurd c25 (by decide)) (fun c25 => ?_)
            refine lv_aload_n hx hb dX12_holder_53 rfl (lv_at hl 0 rfl) ?_
            have r26 : 0 ≤ (I 0 1).toInt ∧ (I 0 1).toInt ≤ 30 := hma.2.1
            refine z_get (T := TX12) (N := 96) (ci := 12) (i := 0) (v := .int (I 0 1)) hx hb hts zj_X12_holder_X12 hown hK hW rfl rfl 1 (by decide) (hts (.fieldLink RX12 229 "PetrolBoardModel" "holders" "I") (me_s (me_l (List.mem_of_getElem? (i := 0) rfl)))) (fun _ h => h) rfl dX12_holder_54 ?_
            refine lv_bipush (v := 30) hx hb dX12_holder_57 (by decide) ?_
            refine lv_icmp_ne (tgt := 64) hx hb dX12_holder_59 (by decide) (fun c27 => ?_) (fun c27 => ?_)
            · have g28 := z_f_ne rfl z_l30 c27
              refine lv_aload_n hx hb dX12_holder_64 rfl (lv_at hl 0 rfl) ?_
              refine z_get (T := TX12) (N := 96) (ci := 12) (i := 0) (v := .ref (ad 1)) hx hb hts zj_X12_holder_X12 hown hK hW rfl rfl 3 (by decide) (hts (.fieldLink RX12 7 "PetrolBoardModel" "sizeOf" "[I") (me_s (me_l (List.mem_of_getElem? (i := 1) rfl)))) (fun _ h => h) rfl dX12_holder_65 ?_
              refine lv_aload_n hx hb dX12_holder_68 rfl (lv_at hl 0 rfl) ?_
              refine z_get (T := TX12) (N := 96) (ci := 12) (i := 0) (v := .int (I 0 1)) hx hb hts zj_X12_holder_X12 hown hK hW rfl rfl 1 (by decide) (hts (.fieldLink RX12 229 "PetrolBoardModel" "holders" "I") (me_s (me_l (List.mem_of_getElem? (i := 0) rfl)))) (fun _ h => h) rfl dX12_holder_69 ?_
              refine lv_iload_n hx hb dX12_holder_72 rfl (lv_at hl 1 rfl) ?_
              refine z_iast (i := 1) hx hb hK hW hS rfl (z_ix rfl (by omega) (by omega)) dX12_holder_73 (fun H locs hz1 hW hS => ?_)
              obtain ⟨I29, eI29⟩ : ∃ K : z_I, K = z_up I 1 (I 0 1).toNatClampNeg a1 := ⟨_, rfl⟩
              rw [← eI29] at hW
              have f30 := z_fr_a z_fr_0 (show z_wa L_X12_holder_e 1 = true by decide) eI29
              refine lv_aload_n hx hb dX12_holder_74 rfl (lv_at hl 0 rfl) ?_
              refine z_get (T := TX12) (N := 96) (ci := 12) (i := 0) (v := .ref (ad 2)) hx hb hts zj_X12_holder_X12 hown hK hW rfl rfl 4 (by decide) (hts (.fieldLink RX12 13 "PetrolBoardModel" "townOf" "[I") (me_s (me_l (List.mem_of_getElem? (i := 2) rfl)))) (fun _ h => h) rfl dX12_holder_75 ?_
              refine lv_aload_n hx hb dX12_holder_78 rfl (lv_at hl 0 rfl) ?_
              refine z_get (T := TX12) (N := 96) (ci := 12) (i := 0) (v := .int (I 0 1)) hx hb hts zj_X12_holder_X12 hown hK hW rfl rfl 1 (by decide) (hts (.fieldLink RX12 229 "PetrolBoardModel" "holders" "I") (me_s (me_l (List.mem_of_getElem? (i := 0) rfl)))) (fun _ h => h) (congrArg Value.int (by rw [eI29, z_up_n (by decide)])) dX12_holder_79 ?_
              refine lv_iload_n hx hb dX12_holder_82 rfl (lv_at hl 2 rfl) ?_
              refine z_iast (i := 2) hx hb hK hW hS rfl (z_ix rfl (by omega) (by omega)) dX12_holder_83 (fun H locs hz1 hW hS => ?_)
              obtain ⟨I31, eI31⟩ : ∃ K : z_I, K = z_up I29 2 (I 0 1).toNatClampNeg a2 := ⟨_, rfl⟩
              rw [← eI31] at hW
              have f32 := z_fr_a f30 (show z_wa L_X12_holder_e 2 = true by decide) eI31
              refine lv_aload_n hx hb dX12_holder_84 rfl (lv_at hl 0 rfl) ?_
              refine z_get (T := TX12) (N := 96) (ci := 12) (i := 0) (v := .ref (ad 3)) hx hb hts zj_X12_holder_X12 hown hK hW rfl rfl 5 (by decide) (hts (.fieldLink RX12 16 "PetrolBoardModel" "seatsOf" "[I") (me_s (me_l (List.mem_of_getElem? (i := 3) rfl)))) (fun _ h => h) rfl dX12_holder_85 ?_
              refine lv_aload_n hx hb dX12_holder_88 rfl (lv_at hl 0 rfl) ?_
              refine z_get (T := TX12) (N := 96) (ci := 12) (i := 0) (v := .int (I 0 1)) hx hb hts zj_X12_holder_X12 hown hK hW rfl rfl 1 (by decide) (hts (.fieldLink RX12 229 "PetrolBoardModel" "holders" "I") (me_s (me_l (List.mem_of_getElem? (i := 0) rfl)))) (fun _ h => h) (congrArg Value.int (by rw [eI31, z_up_n (by decide), eI29, z_up_n (by decide)])) dX12_holder_89 ?_
              refine lv_iload_n hx hb dX12_holder_92 rfl (lv_at hl 3 rfl) ?_
              refine z_iast (i := 3) hx hb hK hW hS rfl (z_ix rfl (by omega) (by omega)) dX12_holder_93 (fun H locs hz1 hW hS => ?_)
              obtain ⟨I33, eI33⟩ : ∃ K : z_I, K = z_up I31 3 (I 0 1).toNatClampNeg a3 := ⟨_, rfl⟩
              rw [← eI33] at hW
              have f34 := z_fr_a f32 (show z_wa L_X12_holder_e 3 = true by decide) eI33
              refine lv_aload_n hx hb dX12_holder_94 rfl (lv_at hl 0 rfl) ?_
              refine z_get (T := TX12) (N := 96) (ci := 12) (i := 0) (v := .ref (ad 4)) hx hb hts zj_X12_holder_X12 hown hK hW rfl rfl 6 (by decide) (hts (.fieldLink RX12 19 "PetrolBoardModel" "bidOf" "[I") (me_s (me_l (List.mem_of_getElem? (i := 4) rfl)))) (fun _ h => h) rfl dX12_holder_95 ?_
              refine lv_aload_n hx hb dX12_holder_98 rfl (lv_at hl 0 rfl) ?_
              refine z_get (T := TX12) (N := 96) (ci := 12) (i := 0) (v := .int (I 0 1)) hx hb hts zj_X12_holder_X12 hown hK hW rfl rfl 1 (by decide) (hts (.fieldLink RX12 229 "PetrolBoardModel" "holders" "I") (me_s (me_l (List.mem_of_getElem? (i := 0) rfl)))) (fun _ h => h) (congrArg Value.int (by rw [eI33, z_up_n (by decide), eI31, z_up_n (by decide), eI29, z_up_n (by decide)])) dX12_holder_99 ?_
              refine lv_iload hx hb dX12_holder_102 (lv_at hl 4 rfl) ?_
              refine z_iast (i := 4) hx hb hK hW hS rfl (z_ix rfl (by omega) (by omega)) dX12_holder_104 (fun H locs hz1 hW hS => ?_)
              obtain ⟨I35, eI35⟩ : ∃ K : z_I, K = z_up I33 4 (I 0 1).toNatClampNeg a4 := ⟨_, rfl⟩
              rw [← eI35] at hW
              have f36 := z_fr_a f34 (show z_wa L_X12_holder_e 4 = true by decide) eI35
              refine lv_aload_n hx hb dX12_holder_105 rfl (lv_at hl 0 rfl) ?_
              refine z_get (T := TX12) (N := 96) (ci := 12) (i := 0) (v := .ref (ad 5)) hx hb hts zj_X12_holder_X12 hown hK hW rfl rfl 7 (by decide) (hts (.fieldLink RX12 22 "PetrolBoardModel" "needOf" "[I") (me_s (me_l (List.mem_of_getElem? (i := 5) rfl)))) (fun _ h => h) rfl dX12_holder_106 ?_
              refine lv_aload_n hx hb dX12_holder_109 rfl (lv_at hl 0 rfl) ?_
              refine z_get (T := TX12) (N := 96) (ci := 12) (i := 0) (v := .int (I 0 1)) hx hb hts zj_X12_holder_X12 hown hK hW rfl rfl 1 (by decide) (hts (.fieldLink RX12 229 "PetrolBoardModel" "holders" "I") (me_s (me_l (List.mem_of_getElem? (i := 0) rfl)))) (fun _ h => h) (congrArg Value.int (by rw [eI35, z_up_n (by decide), eI33, z_up_n (by decide), eI31, z_up_n (by decide), eI29, z_up_n (by decide)])) dX12_holder_110 ?_
              refine lv_iload hx hb dX12_holder_113 (lv_at hl 5 rfl) ?_
              refine z_iast (i := 5) hx hb hK hW hS rfl (z_ix rfl (by omega) (by omega)) dX12_holder_115 (fun H locs hz1 hW hS => ?_)
              obtain ⟨I37, eI37⟩ : ∃ K : z_I, K = z_up I35 5 (I 0 1).toNatClampNeg a5 := ⟨_, rfl⟩
              rw [← eI37] at hW
              have f38 := z_fr_a f36 (show z_wa L_X12_holder_e 5 = true by decide) eI37
              refine lv_aload_n hx hb dX12_holder_116 rfl (lv_at hl 0 rfl) ?_
              refine lv_dup hx hb dX12_holder_117 rfl ?_
              refine z_get (T := TX12) (N := 96) (ci := 12) (i := 0) (v := .int (I 0 1)) hx hb hts zj_X12_holder_X12 hown hK hW rfl rfl 1 (by decide) (hts (.fieldLink RX12 229 "PetrolBoardModel" "holders" "I") (me_s (me_l (List.mem_of_getElem? (i := 0) rfl)))) (fun _ h => h) (congrArg Value.int (by rw [eI37, z_up_n (by decide), eI35, z_up_n (by decide), eI33, z_up_n (by decide), eI31, z_up_n (by decide), eI29, z_up_n (by decide)])) dX12_holder_118 ?_
              refine lv_iconst (v := 1) hx hb dX12_holder_121 (by decide) ?_
              refine lv_iadd hx hb dX12_holder_122 ?_
              refine lv_topi (fun x39 ex39 => ?_)
              have tx39 : x39.toInt = (I 0 1).toInt + 1 := z_tadd ex39 rfl z_l1 (by omega) (by omega)
              refine z_put (T := TX12) (N := 96) (ci := 12) (i := 0) (v := .int x39) (I1 := z_up I37 0 1 x39) (J1 := J) (P1 := PM ad) hx hb hts zj_X12_holder_X12 tyX12 tyX12_ok nmX12 hown hK hW hS rfl rfl 1 (by decide) (hts (.fieldLink RX12 229 "PetrolBoardModel" "holders" "I") (me_s (me_l (List.mem_of_getElem? (i := 0) rfl)))) (fun _ h => h) rfl rfl rfl (by first | rfl | exact congrArg _ z_up_s) (fun a b h ty => z_vI h ty) dX12_holder_123 (fun H locs hz1 hW hS => ?_)
              obtain ⟨I40, eI40⟩ : ∃ K : z_I, K = z_up I37 0 1 x39 := ⟨_, rfl⟩
              rw [← eI40] at hW
              have f41 := z_fr_k f38 (show z_wr L_X12_holder_e 0 1 = true by decide) eI40
              refine lv_aload_n hx hb dX12_holder_126 rfl (lv_at hl 0 rfl) ?_
              refine z_get (T := TX12) (N := 96) (ci := 12) (i := 0) (v := .int x39) hx hb hts zj_X12_holder_X12 hown hK hW rfl rfl 1 (by decide) (hts (.fieldLink RX12 229 "PetrolBoardModel" "holders" "I") (me_s (me_l (List.mem_of_getElem? (i := 0) rfl)))) (fun _ h => h) (congrArg Value.int (by rw [eI40, z_up_s])) dX12_holder_127 ?_
              refine lv_iconst (v := 1) hx hb dX12_holder_130 (by decide) ?_
              refine lv_isub hx hb dX12_holder_131 ?_
              refine lv_topi (fun x42 ex42 => ?_)
              have tx42 : x42.toInt = x39.toInt - 1 := z_tsub ex42 rfl z_l1 (by omega) (by omega)
              exact z_iret hx hb hr hK hS (Nat.le_of_ble_eq_true rfl) (Nat.le_of_ble_eq_true rfl) hlocks dX12_holder_132 (shM, ad, I40, J, PM ad) hW ⟨I40, J, rfl, ⟨(by show 0 ≤ (I40 0 0).toInt ∧ (I40 0 0).toInt ≤ 719; rw [eI40, z_up_k (by decide), eI37, z_up_n (by decide), eI35, z_up_n (by decide), eI33, z_up_n (by decide), eI31, z_up_n (by decide), eI29, z_up_n (by decide)]; exact hma.1), (by show 0 ≤ (I40 0 1).toInt ∧ (I40 0 1).toInt ≤ 30; rw [eI40, z_up_s]; omega), (by show 0 ≤ (I40 0 2).toInt ∧ (I40 0 2).toInt ≤ 200; rw [eI40, z_up_k (by decide), eI37, z_up_n (by decide), eI35, z_up_n (by decide), eI33, z_up_n (by decide), eI31, z_up_n (by decide), eI29, z_up_n (by decide)]; exact hma.2.2)⟩, f41, (Or.inl ⟨by omega, by omega, (by have q9 : (I40 0 1) = x39 := (by rw [eI40, z_up_s]); show (I40 0 1).toInt = (I 0 1).toInt + 1; rw [q9]; first | done | omega)⟩)⟩
            · have g43 := z_f_eq rfl z_l30 c27
              refine lv_iconst (v := (-1)) hx hb dX12_holder_62 (by decide) ?_
              exact z_iret hx hb hr hK hS (Nat.le_of_ble_eq_true rfl) (Nat.le_of_ble_eq_true rfl) hlocks dX12_holder_63 (shM, ad, I, J, PM ad) hW ⟨I, J, rfl, ⟨(by show 0 ≤ (I 0 0).toInt ∧ (I 0 0).toInt ≤ 719; exact hma.1), (by show 0 ≤ (I 0 1).toInt ∧ (I 0 1).toInt ≤ 30; exact hma.2.1), (by show 0 ≤ (I 0 2).toInt ∧ (I 0 2).toInt ≤ 200; exact hma.2.2)⟩, z_fr_0, (Or.inr ⟨by omega, by decide, (by show (I 0 1).toInt = (I 0 1).toInt; omega)⟩)⟩
          · have h44 := h21
            have z45 := z_l0
            have z46 := z_l99
            refine lv_if_eq (tgt := 62) hx hb dX12_holder_50 (by decide) (fun c47 => ?_) (fun c47 => absurd (by decide) c47)
            refine lv_iconst (v := (-1)) hx hb dX12_holder_62 (by decide) ?_
            exact z_iret hx hb hr hK hS (Nat.le_of_ble_eq_true rfl) (Nat.le_of_ble_eq_true rfl) hlocks dX12_holder_63 (shM, ad, I, J, PM ad) hW ⟨I, J, rfl, ⟨(by show 0 ≤ (I 0 0).toInt ∧ (I 0 0).toInt ≤ 719; exact hma.1), (by show 0 ≤ (I 0 1).toInt ∧ (I 0 1).toInt ≤ 30; exact hma.2.1), (by show 0 ≤ (I 0 2).toInt ∧ (I 0 2).toInt ≤ 200; exact hma.2.2)⟩, z_fr_0, (Or.inr ⟨by omega, by decide, (by show (I 0 1).toInt = (I 0 1).toInt; omega)⟩)⟩
        · have h48 := h16
          have z49 := z_l0
          have z50 := z_l999
          refine lv_if_eq (tgt := 62) hx hb dX12_holder_39 (by decide) (fun c51 => ?_) (fun c51 => absurd (by decide) c51)
          refine lv_iconst (v := (-1)) hx hb dX12_holder_62 (by decide) ?_
          exact z_iret hx hb hr hK hS (Nat.le_of_ble_eq_true rfl) (Nat.le_of_ble_eq_true rfl) hlocks dX12_holder_63 (shM, ad, I, J, PM ad) hW ⟨I, J, rfl, ⟨(by show 0 ≤ (I 0 0).toInt ∧ (I 0 0).toInt ≤ 719; exact hma.1), (by show 0 ≤ (I 0 1).toInt ∧ (I 0 1).toInt ≤ 30; exact hma.2.1), (by show 0 ≤ (I 0 2).toInt ∧ (I 0 2).toInt ≤ 200; exact hma.2.2)⟩, z_fr_0, (Or.inr ⟨by omega, by decide, (by show (I 0 1).toInt = (I 0 1).toInt; omega)⟩)⟩
      · have h52 := h11
        have z53 := z_l1
        have z54 := z_l8
        refine lv_if_eq (tgt := 62) hx hb dX12_holder_27 (by decide) (fun c55 => ?_) (fun c55 => absurd (by decide) c55)
        refine lv_iconst (v := (-1)) hx hb dX12_holder_62 (by decide) ?_
        exact z_iret hx hb hr hK hS (Nat.le_of_ble_eq_true rfl) (Nat.le_of_ble_eq_true rfl) hlocks dX12_holder_63 (shM, ad, I, J, PM ad) hW ⟨I, J, rfl, ⟨(by show 0 ≤ (I 0 0).toInt ∧ (I 0 0).toInt ≤ 719; exact hma.1), (by show 0 ≤ (I 0 1).toInt ∧ (I 0 1).toInt ≤ 30; exact hma.2.1), (by show 0 ≤ (I 0 2).toInt ∧ (I 0 2).toInt ≤ 200; exact hma.2.2)⟩, z_fr_0, (Or.inr ⟨by omega, by decide, (by show (I 0 1).toInt = (I 0 1).toInt; omega)⟩)⟩
    · have h56 := h6
      have z57 := z_l0
      have z58 := z_l9
      refine lv_if_eq (tgt := 62) hx hb dX12_holder_17 (by decide) (fun c59 => ?_) (fun c59 => absurd (by decide) c59)
      refine lv_iconst (v := (-1)) hx hb dX12_holder_62 (by decide) ?_
      exact z_iret hx hb hr hK hS (Nat.le_of_ble_eq_true rfl) (Nat.le_of_ble_eq_true rfl) hlocks dX12_holder_63 (shM, ad, I, J, PM ad) hW ⟨I, J, rfl, ⟨(by show 0 ≤ (I 0 0).toInt ∧ (I 0 0).toInt ≤ 719; exact hma.1), (by show 0 ≤ (I 0 1).toInt ∧ (I 0 1).toInt ≤ 30; exact hma.2.1), (by show 0 ≤ (I 0 2).toInt ∧ (I 0 2).toInt ≤ 200; exact hma.2.2)⟩, z_fr_0, (Or.inr ⟨by omega, by decide, (by show (I 0 1).toInt = (I 0 1).toInt; omega)⟩)⟩
  · have h60 := h1
    have z61 := z_l1
    have z62 := z_l9
    refine lv_if_eq (tgt := 62) hx hb dX12_holder_7 (by decide) (fun c63 => ?_) (fun c63 => absurd (by decide) c63)
    refine lv_iconst (v := (-1)) hx hb dX12_holder_62 (by decide) ?_
    exact z_iret hx hb hr hK hS (Nat.le_of_ble_eq_true rfl) (Nat.le_of_ble_eq_true rfl) hlocks dX12_holder_63 (shM, ad, I, J, PM ad) hW ⟨I, J, rfl, ⟨(by show 0 ≤ (I 0 0).toInt ∧ (I 0 0).toInt ≤ 719; exact hma.1), (by show 0 ≤ (I 0 1).toInt ∧ (I 0 1).toInt ≤ 30; exact hma.2.1), (by show 0 ≤ (I 0 2).toInt ∧ (I 0 2).toInt ≤ 200; exact hma.2.2)⟩, z_fr_0, (Or.inr ⟨by omega, by decide, (by show (I 0 1).toInt = (I 0 1).toInt; omega)⟩)⟩
noncomputable def L_X12_ask_e : z_L := [(59, 999), (60, 999), (61, 999), (62, 999), (63, 999), (64, 999), (65, 999), (66, 999), (67, 999), (0, 83), (24, 999), (30, 999)]
set_option maxHeartbeats 8000000 in
set_option maxRecDepth 100000 in
theorem sx_X12_ask_e (l : Launch) (G : z_G) (ad : Nat → Nat) (I : z_I) (J : z_J) (hma : z_ima I) (hmb : z_imb I) (hmj : z_imj I) (hAtf : z_rg 11 0 288 I) (hAtm : z_rg 12 0 24 I) (hAjw : z_rg 59 0 29 I) (hNd : z_Nd I) (hAsf : z_rg 19 0 6200 I) (hAst : z_rg 20 0 6200 I) (hAsc : z_rg 18 (-1) 6199 I) (hEx : z_Ex I) (a1 : Int32) (a2 : Int32) (a3 : Int32) (a4 : Int32) (a5 : Int32) (a6 : Int32) : z_M l yX12_ask wsX12_ask { frames := 6, cells := 0, slots := 0, locals := 130 } [.ref (ad 0), .int a1, .int a2, .int a3, .int a4, .int a5, .int a6] G (shM, ad, I, J, PM ad) (fun r u1 => ∃ (I1 : z_I) (J1 : z_J), u1 = (shM, ad, I1, J1, PM ad) ∧ z_ima I1 ∧ z_imb I1 ∧ z_imj I1 ∧ z_rg 11 0 288 I1 ∧ z_rg 12 0 24 I1 ∧ z_rg 59 0 29 I1 ∧ z_Nd I1 ∧ z_rg 19 0 6200 I1 ∧ z_rg 20 0 6200 I1 ∧ z_rg 18 (-1) 6199 I1 ∧ z_Ex I1 ∧ z_fr L_X12_ask_e I1 I ∧ (((0 ≤ a1.toInt ∧ a1.toInt < (I 0 1).toInt ∧ 1 ≤ a2.toInt ∧ a2.toInt ≤ 500 ∧ 1 ≤ a3.toInt ∧ a3.toInt ≤ 8 ∧ 0 ≤ a4.toInt ∧ a4.toInt ≤ 4 ∧ (I 0 0).toInt ≤ a5.toInt ∧ a5.toInt ≤ 719 ∧ 0 ≤ a6.toInt ∧ a6.toInt ≤ 99 ∧ a6.toInt / 10 ≠ a6.toInt % 10 ∧ (I 0 83).toInt < 60) ∧ r.toInt = (I 0 83).toInt ∧ (I1 0 83).toInt = (I 0 83).toInt + 1) ∨ (¬ (0 ≤ a1.toInt ∧ a1.toInt < (I 0 1).toInt ∧ 1 ≤ a2.toInt ∧ a2.toInt ≤ 500 ∧ 1 ≤ a3.toInt ∧ a3.toInt ≤ 8 ∧ 0 ≤ a4.toInt ∧ a4.toInt ≤ 4 ∧ (I 0 0).toInt ≤ a5.toInt ∧ a5.toInt ≤ 719 ∧ 0 ≤ a6.toInt ∧ a6.toInt ≤ 99 ∧ a6.toInt / 10 ≠ a6.toInt % 10 ∧ (I 0 83).toInt < 60) ∧ r.toInt = -1 ∧ (I1 0 83).toInt = (I 0 83).toInt))) 0 0 := by
  intro sz
  refine z_headQ (cc := cX12_ask) (maxL := 8) (ret := (some .int)) (by decide) rfl (Nat.le_of_ble_eq_true rfl) ?_
  intro p e s m below meth c0 ls hIn hK hsz hW hl
  obtain ⟨hx, hb, hr, hml, hown, hts, hlocks, hname⟩ := hIn
  subst hsz
  have hown : s.vm.findClass RX12 = some m.cls := hown
  have hA : ∀ q : Nat, s.heap.size ≤ q → z_A (shM, ad, I, J, PM ad) s.heap.size q := fun q h => Or.inr h
  generalize hAe : z_A (shM, ad, I, J, PM ad) s.heap.size = A at *
  have hS : va_S A s.heap s.heap [] := va_S.rf
  have hl : lv_has ls 8 [(0, .ref (ad 0)), (1, .int a1), (2, .int a2), (3, .int a3), (4, .int a4), (5, .int a5), (6, .int a6)] := hl
  refine lv_aload_n hx hb dX12_ask_0 rfl (lv_at hl 0 rfl) ?_
  refine lv_iload_n hx hb dX12_ask_1 rfl (lv_at hl 1 rfl) ?_
  refine z_ci hW hS hA (va_runV (As := [.int a1]) (rest := []) ⟨hx, hb, hml, hown, hts⟩ (sx_X12_isHolder_e l G ad I J ⟨(by show 0 ≤ (I 0 0).toInt ∧ (I 0 0).toInt ≤ 719; exact hma.1), (by show 0 ≤ (I 0 1).toInt ∧ (I 0 1).toInt ≤ 30; exact hma.2.1), (by show 0 ≤ (I 0 2).toInt ∧ (I 0 2).toInt ≤ 200; exact hma.2.2)⟩ a1 _) (cwV 1 hts gX12_ask_X12_isHolder rfl rfl rfl hy_X12_isHolder ⟨Nat.le_of_ble_eq_true rfl, Nat.le_of_ble_eq_true rfl⟩) (z_preV (i := 0) hK hW rfl rfl) rfl rfl hl.1 rfl (lv_room (Nat.le_of_ble_eq_true rfl)) dX12_ask_2 ⟨Nat.le_of_ble_eq_true rfl, Nat.le_of_ble_eq_true rfl⟩) (fun r u1 H locs hp hW hS => ?_)
  obtain ⟨e9, hp⟩ := hp
  rw [e9] at hW
  rcases hp with ⟨rfl, h1⟩ | ⟨rfl, h1⟩
  · have h2 := h1
    have r3 : 0 ≤ (I 0 1).toInt ∧ (I 0 1).toInt ≤ 30 := hma.2.1
    refine lv_if_eq (tgt := 87) hx hb dX12_ask_5 (by decide) (fun c4 => absurd c4 (by decide)) (fun c4 => ?_)
    refine lv_iload_n hx hb dX12_ask_8 rfl (lv_at hl 2 rfl) ?_
    refine lv_iconst (v := 1) hx hb dX12_ask_9 (by decide) ?_
    refine lv_sipush (v := 500) hx hb dX12_ask_10 (by decide) ?_
    refine z_ci hW hS hA (va_runS (As := [.int a2, .int 1, .int 500]) (rest := []) ⟨hx, hb, hml, hown, hts⟩ (sx_X12_within_e l G ad I J  a2 1 500 _) (va_cwS 3 hts gX12_ask_X12_within rfl rfl rfl hy_X12_within.2 ⟨Nat.le_of_ble_eq_true rfl, Nat.le_of_ble_eq_true rfl⟩) (z_preS hK hW) rfl rfl hl.1 rfl (lv_room (Nat.le_of_ble_eq_true rfl)) dX12_ask_13 ⟨Nat.le_of_ble_eq_true rfl, Nat.le_of_ble_eq_true rfl⟩) (fun r u1 H locs hp hW hS => ?_)
    obtain ⟨e9, hp⟩ := hp
    rw [e9] at hW
    rcases hp with ⟨rfl, h5⟩ | ⟨rfl, h5⟩
    · have h6 := h5
      have z7 := z_l1
      have z8 := z_l500
      refine lv_if_eq (tgt := 87) hx hb dX12_ask_16 (by decide) (fun c9 => absurd c9 (by decide)) (fun c9 => ?_)
      refine lv_iload_n hx hb dX12_ask_19 rfl (lv_at hl 3 rfl) ?_
      refine lv_iconst (v := 1) hx hb dX12_ask_20 (by decide) ?_
      refine lv_bipush (v := 8) hx hb dX12_ask_21 (by decide) ?_
      refine z_ci hW hS hA (va_runS (As := [.int a3, .int 1, .int 8]) (rest := []) ⟨hx, hb, hml, hown, hts⟩ (sx_X12_within_e l G ad I J  a3 1 8 _) (va_cwS 3 hts gX12_ask_X12_within rfl rfl rfl hy_X12_within.2 ⟨Nat.le_of_ble_eq_true rfl, Nat.le_of_ble_eq_true rfl⟩) (z_preS hK hW) rfl rfl hl.1 rfl (lv_room (Nat.le_of_ble_eq_true rfl)) dX12_ask_23 ⟨Nat.le_of_ble_eq_true rfl, Nat.le_of_ble_eq_true rfl⟩) (fun r u1 H locs hp hW hS => ?_)
      obtain ⟨e9, hp⟩ := hp
      rw [e9] at hW
      rcases hp with ⟨rfl, h11⟩ | ⟨rfl, h11⟩
      · have h12 := h11
        have z13 := z_l1
        have z14 := z_l8
        refine lv_if_eq (tgt := 87) hx hb dX12_ask_26 (by decide) (fun c15 => absurd c15 (by decide)) (fun c15 => ?_)
        refine lv_iload hx hb dX12_ask_29 (lv_at hl 4 rfl) ?_
        refine lv_iconst (v := 0) hx hb dX12_ask_31 (by decide) ?_
        refine lv_iconst (v := 4) hx hb dX12_ask_32 (by decide) ?_
        refine z_ci hW hS hA (va_runS (As := [.int a4, .int 0, .int 4]) (rest := []) ⟨hx, hb, hml, hown, hts⟩ (sx_X12_within_e l G ad I J  a4 0 4 _) (va_cwS 3 hts gX12_ask_X12_within rfl rfl rfl hy_X12_within.2 ⟨Nat.le_of_ble_eq_true rfl, Nat.le_of_ble_eq_true rfl⟩) (z_preS hK hW) rfl rfl hl.1 rfl (lv_room (Nat.le_of_ble_eq_true rfl)) dX12_ask_33 ⟨Nat.le_of_ble_eq_true rfl, Nat.le_of_ble_eq_true rfl⟩) (fun r u1 H locs hp hW hS => ?_)
        obtain ⟨e9, hp⟩ := hp
        rw [e9] at hW
        rcases hp with ⟨rfl, h16⟩ | ⟨rfl, h16⟩
        · have h17 := h16
          have z18 := z_l0
          have z19 := z_l4
          refine lv_if_eq (tgt := 87) hx hb dX12_ask_36 (by decide) (fun c20 => absurd c20 (by decide)) (fun c20 => ?_)
          refine lv_iload hx hb dX12_ask_39 (lv_at hl 5 rfl) ?_
          refine lv_aload_n hx hb dX12_ask_41 rfl (lv_at hl 0 rfl) ?_
          have r21 : 0 ≤ (I 0 0).toInt ∧ (I 0 0).toInt ≤ 719 := hma.1
          refine z_get (T := TX12) (N := 96) (ci := 12) (i := 0) (v := .int (I 0 0)) hx hb hts zj_X12_ask_X12 hown hK hW rfl rfl 0 (by decide) (hts (.fieldLink RX12 232 "PetrolBoardModel" "today" "I") (me_s (me_l (me_l (List.mem_of_getElem? (i := 0) rfl))))) (fun _ h => h) rfl dX12_ask_42 ?_
          refine lv_sipush (v := 719) hx hb dX12_ask_45 (by decide) ?_
          refine z_ci hW hS hA (va_runS (As := [.int a5, .int (I 0 0), .int 719]) (rest := []) ⟨hx, hb, hml, hown, hts⟩ (sx_X12_within_e l G ad I J  a5 (I 0 0) 719 _) (va_cwS 3 hts gX12_ask_X12_within rfl rfl rfl hy_X12_within.2 ⟨Nat.le_of_ble_eq_true rfl, Nat.le_of_ble_eq_true rfl⟩) (z_preS hK hW) rfl rfl hl.1 rfl (lv_room (Nat.le_of_ble_eq_true rfl)) dX12_ask_48 ⟨Nat.le_of_ble_eq_true rfl, Nat.le_of_ble_eq_true rfl⟩) (fun r u1 H locs hp hW hS => ?_)
          obtain ⟨e9, hp⟩ := hp
          rw [e9] at hW
          rcases hp with ⟨rfl, h22⟩ | ⟨rfl, h22⟩
          · have h23 := h22
            have z24 := z_l719
            refine lv_if_eq (tgt := 87) hx hb dX12_ask_51 (by decide) (fun c25 => absurd c25 (by decide)) (fun c25 => ?_)
            refine lv_iload hx hb dX12_ask_54 (lv_at hl 6 rfl) ?_
            refine lv_iconst (v := 0) hx hb dX12_ask_56 (by decide) ?_
            refine lv_bipush (v := 99) hx hb dX12_ask_57 (by decide) ?_
            refine z_ci hW hS hA (va_runS (As := [.int a6, .int 0, .int 99]) (rest := []) ⟨hx, hb, hml, hown, hts⟩ (sx_X12_within_e l G ad I J  a6 0 99 _) (va_cwS 3 hts gX12_ask_X12_within rfl rfl rfl hy_X12_within.2 ⟨Nat.le_of_ble_eq_true rfl, Nat.le_of_ble_eq_true rfl⟩) (z_preS hK hW) rfl rfl hl.1 rfl (lv_room (Nat.le_of_ble_eq_true rfl)) dX12_ask_59 ⟨Nat.le_of_ble_eq_true rfl, Nat.le_of_ble_eq_true rfl⟩) (fun r u1 H locs hp hW hS => ?_)
            obtain ⟨e9, hp⟩ := hp
            rw [e9] at hW
            rcases hp with ⟨rfl, h26⟩ | ⟨rfl, h26⟩
            · have h27 := h26
              have z28 := z_l0
              have z29 := z_l99
              refine lv_if_eq (tgt := 87) hx hb dX12_ask_62 (by decide) (fun c30 => absurd c30 (by decide)) (fun c30 => ?_)
              refine lv_iload hx hb dX12_ask_65 (lv_at hl 6 rfl) ?_
              refine lv_bipush (v := 10) hx hb dX12_ask_67 (by decide) ?_
              refine lv_idiv hx hb dX12_ask_69 (by decide) ?_
              refine lv_topi (fun x31 ex31 => ?_)
              have tx31 := z_tdiv ex31 rfl z_l10 (by decide)
              refine lv_iload hx hb dX12_ask_70 (lv_at hl 6 rfl) ?_
              refine lv_bipush (v := 10) hx hb dX12_ask_72 (by decide) ?_
              refine lv_irem hx hb dX12_ask_74 (by decide) ?_
              refine lv_topi (fun x32 ex32 => ?_)
              have tx32 := z_trem ex32 rfl z_l10 (by decide)
              refine lv_icmp_eq (tgt := 87) hx hb dX12_ask_75 (by decide) (fun c33 => ?_) (fun c33 => ?_)
              · have g34 := z_f_eq rfl rfl c33
                refine lv_iconst (v := (-1)) hx hb dX12_ask_87 (by decide) ?_
                exact z_iret hx hb hr hK hS (Nat.le_of_ble_eq_true rfl) (Nat.le_of_ble_eq_true rfl) hlocks dX12_ask_88 (shM, ad, I, J, PM ad) hW ⟨I, J, rfl, ⟨(by show 0 ≤ (I 0 0).toInt ∧ (I 0 0).toInt ≤ 719; exact hma.1), (by show 0 ≤ (I 0 1).toInt ∧ (I 0 1).toInt ≤ 30; exact hma.2.1), (by show 0 ≤ (I 0 2).toInt ∧ (I 0 2).toInt ≤ 200; exact hma.2.2)⟩, ⟨(by show 0 ≤ (I 0 13).toInt ∧ (I 0 13).toInt ≤ 12; exact hmb.1), (by show 0 ≤ (I 0 14).toInt ∧ (I 0 14).toInt ≤ 288; exact hmb.2)⟩, (by show 0 ≤ (I 0 83).toInt ∧ (I 0 83).toInt ≤ 60; exact hmj), hAtf, hAtm, hAjw, hNd, hAsf, hAst, hAsc, hEx, z_fr_0, (Or.inr ⟨by omega, by decide, (by show (I 0 83).toInt = (I 0 83).toInt; omega)⟩)⟩
              · have g35 := z_f_ne rfl rfl c33
                refine lv_aload_n hx hb dX12_ask_78 rfl (lv_at hl 0 rfl) ?_
                have r36 : 0 ≤ (I 0 83).toInt ∧ (I 0 83).toInt ≤ 60 := hmj
                refine z_get (T := TX12) (N := 96) (ci := 12) (i := 0) (v := .int (I 0 83)) hx hb hts zj_X12_ask_X12 hown hK hW rfl rfl 83 (by decide) (hts (.fieldLink RX12 505 "PetrolBoardModel" "journeys" "I") (me_s (me_l (me_l (List.mem_of_getElem? (i := 1) rfl))))) (fun _ h => h) rfl dX12_ask_79 ?_
                refine lv_bipush (v := 60) hx hb dX12_ask_82 (by decide) ?_
                refine lv_icmp_ne (tgt := 89) hx hb dX12_ask_84 (by decide) (fun c37 => ?_) (fun c37 => ?_)
                · have g38 := z_f_ne rfl z_l60 c37
                  refine lv_aload_n hx hb dX12_ask_89 rfl (lv_at hl 0 rfl) ?_
                  refine z_get (T := TX12) (N := 96) (ci := 12) (i := 0) (v := .int (I 0 83)) hx hb hts zj_X12_ask_X12 hown hK hW rfl rfl 83 (by decide) (hts (.fieldLink RX12 505 "PetrolBoardModel" "journeys" "I") (me_s (me_l (me_l (List.mem_of_getElem? (i := 1) rfl))))) (fun _ h => h) rfl dX12_ask_90 ?_
                  refine lv_istore (lv' := [(7, .int (I 0 83)), (0, .ref (ad 0)), (1, .int a1), (2, .int a2), (3, .int a3), (4, .int a4), (5, .int a5), (6, .int a6)]) hx hb dX12_ask_93 hl (by decide) rfl (fun ls hl => ?_)
                  refine lv_aload_n hx hb dX12_ask_95 rfl (lv_at hl 1 rfl) ?_
                  refine z_get (T := TX12) (N := 96) (ci := 12) (i := 0) (v := .ref (ad 59)) hx hb hts zj_X12_ask_X12 hown hK hW rfl rfl 84 (by decide) (hts (.fieldLink RX12 193 "PetrolBoardModel" "jWho" "[I") (me_s (me_l (me_l (List.mem_of_getElem? (i := 2) rfl))))) (fun _ h => h) rfl dX12_ask_96 ?_
                  refine lv_iload hx hb dX12_ask_99 (lv_at hl 0 rfl) ?_
                  refine lv_iload_n hx hb dX12_ask_101 rfl (lv_at hl 2 rfl) ?_
                  refine z_iast (i := 59) hx hb hK hW hS rfl (z_ix rfl (by omega) (by omega)) dX12_ask_102 (fun H locs hz1 hW hS => ?_)
                  obtain ⟨I39, eI39⟩ : ∃ K : z_I, K = z_up I 59 (I 0 83).toNatClampNeg a1 := ⟨_, rfl⟩
                  rw [← eI39] at hW
                  have f40 := z_fr_a z_fr_0 (show z_wa L_X12_ask_e 59 = true by decide) eI39
                  have a41 := z_rg_n hAtf (by decide) eI39
                  have a42 := z_rg_n hAtm (by decide) eI39
                  have a43 := z_rg_a hAjw (by omega) eI39
                  have a44 := z_Nd_n hNd (by decide) eI39
                  have a45 := z_rg_n hAsf (by decide) eI39
                  have a46 := z_rg_n hAst (by decide) eI39
                  have a47 := z_rg_n hAsc (by decide) eI39
                  have a48 := z_Ex_n hEx (by decide) eI39
                  refine lv_aload_n hx hb dX12_ask_103 rfl (lv_at hl 1 rfl) ?_
                  refine z_get (T := TX12) (N := 96) (ci := 12) (i := 0) (v := .ref (ad 60)) hx hb hts zj_X12_ask_X12 hown hK hW rfl rfl 85 (by decide) (hts (.fieldLink RX12 196 "PetrolBoardModel" "jMiles" "[I") (me_s (me_l (me_l (List.mem_of_getElem? (i := 3) rfl))))) (fun _ h => h) rfl dX12_ask_104 ?_
                  refine lv_iload hx hb dX12_ask_107 (lv_at hl 0 rfl) ?_
                  refine lv_iload_n hx hb dX12_ask_109 rfl (lv_at hl 3 rfl) ?_
                  refine z_iast (i := 60) hx hb hK hW hS rfl (z_ix rfl (by omega) (by omega)) dX12_ask_110 (fun H locs hz1 hW hS => ?_)
                  obtain ⟨I49, eI49⟩ : ∃ K : z_I, K = z_up I39 60 (I 0 83).toNatClampNeg a2 := ⟨_, rfl⟩
                  rw [← eI49] at hW
                  have f50 := z_fr_a f40 (show z_wa L_X12_ask_e 60 = true by decide) eI49
                  have a51 := z_rg_n a41 (by decide) eI49
                  have a52 := z_rg_n a42 (by decide) eI49
                  have a53 := z_rg_n a43 (by decide) eI49
                  have a54 := z_Nd_n a44 (by decide) eI49
                  have a55 := z_rg_n a45 (by decide) eI49
                  have a56 := z_rg_n a46 (by decide) eI49
                  have a57 := z_rg_n a47 (by decide) eI49
                  have a58 := z_Ex_n a48 (by decide) eI49
                  refine lv_aload_n hx hb dX12_ask_111 rfl (lv_at hl 1 rfl) ?_
                  refine z_get (T := TX12) (N := 96) (ci := 12) (i := 0) (v := .ref (ad 61)) hx hb hts zj_X12_ask_X12 hown hK hW rfl rfl 86 (by decide) (hts (.fieldLink RX12 199 "PetrolBoardModel" "jPeople" "[I") (me_s (me_l (me_l (List.mem_of_getElem? (i := 4) rfl))))) (fun _ h => h) rfl dX12_ask_112 ?_
                  refine lv_iload hx hb dX12_ask_115 (lv_at hl 0 rfl) ?_
                  refine lv_iload_n hx hb dX12_ask_117 rfl (lv_at hl 4 rfl) ?_
                  refine z_iast (i := 61) hx hb hK hW hS rfl (z_ix rfl (by omega) (by omega)) dX12_ask_118 (fun H locs hz1 hW hS => ?_)
                  obtain ⟨I59, eI59⟩ : ∃ K : z_I, K = z_up I49 61 (I 0 83).toNatClampNeg a3 := ⟨_, rfl⟩
                  rw [← eI59] at hW
                  have f60 := z_fr_a f50 (show z_wa L_X12_ask_e 61 = true by decide) eI59
                  have a61 := z_rg_n a51 (by decide) eI59
                  have a62 := z_rg_n a52 (by decide) eI59
                  have a63 := z_rg_n a53 (by decide) eI59
                  have a64 := z_Nd_n a54 (by decide) eI59
                  have a65 := z_rg_n a55 (by decide) eI59
                  have a66 := z_rg_n a56 (by decide) eI59
                  have a67 := z_rg_n a57 (by decide) eI59
                  have a68 := z_Ex_n a58 (by decide) eI59
                  refine lv_aload_n hx hb dX12_ask_119 rfl (lv_at hl 1 rfl) ?_
                  refine z_get (T := TX12) (N := 96) (ci := 12) (i := 0) (v := .ref (ad 62)) hx hb hts zj_X12_ask_X12 hown hK hW rfl rfl 87 (by decide) (hts (.fieldLink RX12 202 "PetrolBoardModel" "jReason" "[I") (me_s (me_l (me_l (List.mem_of_getElem? (i := 5) rfl))))) (fun _ h => h) rfl dX12_ask_120 ?_
                  refine lv_iload hx hb dX12_ask_123 (lv_at hl 0 rfl) ?_
                  refine lv_iload hx hb dX12_ask_125 (lv_at hl 5 rfl) ?_
                  refine z_iast (i := 62) hx hb hK hW hS rfl (z_ix rfl (by omega) (by omega)) dX12_ask_127 (fun H locs hz1 hW hS => ?_)
                  obtain ⟨I69, eI69⟩ : ∃ K : z_I, K = z_up I59 62 (I 0 83).toNatClampNeg a4 := ⟨_, rfl⟩
                  rw [← eI69] at hW
                  have f70 := z_fr_a f60 (show z_wa L_X12_ask_e 62 = true by decide) eI69
                  have a71 := z_rg_n a61 (by decide) eI69
                  have a72 := z_rg_n a62 (by decide) eI69
                  have a73 := z_rg_n a63 (by decide) eI69
                  have a74 := z_Nd_n a64 (by decide) eI69
                  have a75 := z_rg_n a65 (by decide) eI69
                  have a76 := z_rg_n a66 (by decide) eI69
                  have a77 := z_rg_n a67 (by decide) eI69
                  have a78 := z_Ex_n a68 (by decide) eI69
                  refine lv_aload_n hx hb dX12_ask_128 rfl (lv_at hl 1 rfl) ?_
                  refine z_get (T := TX12) (N := 96) (ci := 12) (i := 0) (v := .ref (ad 63)) hx hb hts zj_X12_ask_X12 hown hK hW rfl rfl 88 (by decide) (hts (.fieldLink RX12 205 "PetrolBoardModel" "jDay" "[I") (me_s (me_l (me_l (List.mem_of_getElem? (i := 6) rfl))))) (fun _ h => h) rfl dX12_ask_129 ?_
                  refine lv_iload hx hb dX12_ask_132 (lv_at hl 0 rfl) ?_
                  refine lv_iload hx hb dX12_ask_134 (lv_at hl 6 rfl) ?_
                  refine z_iast (i := 63) hx hb hK hW hS rfl (z_ix rfl (by omega) (by omega)) dX12_ask_136 (fun H locs hz1 hW hS => ?_)
                  obtain ⟨I79, eI79⟩ : ∃ K : z_I, K = z_up I69 63 (I 0 83).toNatClampNeg a5 := ⟨_, rfl⟩
                  rw [← eI79] at hW
                  have f80 := z_fr_a f70 (show z_wa L_X12_ask_e 63 = true by decide) eI79
                  have a81 := z_rg_n a71 (by decide) eI79
                  have a82 := z_rg_n a72 (by decide) eI79
                  have a83 := z_rg_n a73 (by decide) eI79
                  have a84 := z_Nd_n a74 (by decide) eI79
                  have a85 := z_rg_n a75 (by decide) eI79
                  have a86 := z_rg_n a76 (by decide) eI79
                  have a87 := z_rg_n a77 (by decide) eI79
                  have a88 := z_Ex_n a78 (by decide) eI79
                  refine lv_aload_n hx hb dX12_ask_137 rfl (lv_at hl 1 rfl) ?_
                  refine z_get (T := TX12) (N := 96) (ci := 12) (i := 0) (v := .ref (ad 64)) hx hb hts zj_X12_ask_X12 hown hK hW rfl rfl 89 (by decide) (hts (.fieldLink RX12 208 "PetrolBoardModel" "jWay" "[I") (me_s (me_l (me_l (List.mem_of_getElem? (i := 7) rfl))))) (fun _ h => h) rfl dX12_ask_138 ?_
                  refine lv_iload hx hb dX12_ask_141 (lv_at hl 0 rfl) ?_
                  refine lv_iload hx hb dX12_ask_143 (lv_at hl 7 rfl) ?_
                  refine z_iast (i := 64) hx hb hK hW hS rfl (z_ix rfl (by omega) (by omega)) dX12_ask_145 (fun H locs hz1 hW hS => ?_)
                  obtain ⟨I89, eI89⟩ : ∃ K : z_I, K = z_up I79 64 (I 0 83).toNatClampNeg a6 := ⟨_, rfl⟩
                  rw [← eI89] at hW
                  have f90 := z_fr_a f80 (show z_wa L_X12_ask_e 64 = true by decide) eI89
                  have a91 := z_rg_n a81 (by decide) eI89
                  have a92 := z_rg_n a82 (by decide) eI89
                  have a93 := z_rg_n a83 (by decide) eI89
                  have a94 := z_Nd_n a84 (by decide) eI89
                  have a95 := z_rg_n a85 (by decide) eI89
                  have a96 := z_rg_n a86 (by decide) eI89
                  have a97 := z_rg_n a87 (by decide) eI89
                  have a98 := z_Ex_n a88 (by decide) eI89
                  refine lv_aload_n hx hb dX12_ask_146 rfl (lv_at hl 1 rfl) ?_
                  refine z_get (T := TX12) (N := 96) (ci := 12) (i := 0) (v := .ref (ad 65)) hx hb hts zj_X12_ask_X12 hown hK hW rfl rfl 90 (by decide) (hts (.fieldLink RX12 211 "PetrolBoardModel" "jAsked" "[I") (me_s (me_l (me_l (List.mem_of_getElem? (i := 8) rfl))))) (fun _ h => h) rfl dX12_ask_147 ?_
                  refine lv_iload hx hb dX12_ask_150 (lv_at hl 0 rfl) ?_
                  refine lv_aload_n hx hb dX12_ask_152 rfl (lv_at hl 1 rfl) ?_
                  refine z_get (T := TX12) (N := 96) (ci := 12) (i := 0) (v := .int (I 0 0)) hx hb hts zj_X12_ask_X12 hown hK hW rfl rfl 0 (by decide) (hts (.fieldLink RX12 232 "PetrolBoardModel" "today" "I") (me_s (me_l (me_l (List.mem_of_getElem? (i := 0) rfl))))) (fun _ h => h) (congrArg Value.int (by rw [eI89, z_up_n (by decide), eI79, z_up_n (by decide), eI69, z_up_n (by decide), eI59, z_up_n (by decide), eI49, z_up_n (by decide), eI39, z_up_n (by decide)])) dX12_ask_153 ?_
                  refine z_iast (i := 65) hx hb hK hW hS rfl (z_ix rfl (by omega) (by omega)) dX12_ask_156 (fun H locs hz1 hW hS => ?_)
                  obtain ⟨I99, eI99⟩ : ∃ K : z_I, K = z_up I89 65 (I 0 83).toNatClampNeg (I 0 0) := ⟨_, rfl⟩
                  rw [← eI99] at hW
                  have f100 := z_fr_a f90 (show z_wa L_X12_ask_e 65 = true by decide) eI99
                  have a101 := z_rg_n a91 (by decide) eI99
                  have a102 := z_rg_n a92 (by decide) eI99
                  have a103 := z_rg_n a93 (by decide) eI99
                  have a104 := z_Nd_n a94 (by decide) eI99
                  have a105 := z_rg_n a95 (by decide) eI99
                  have a106 := z_rg_n a96 (by decide) eI99
                  have a107 := z_rg_n a97 (by decide) eI99
                  have a108 := z_Ex_n a98 (by decide) eI99
                  refine lv_aload_n hx hb dX12_ask_157 rfl (lv_at hl 1 rfl) ?_
                  refine z_get (T := TX12) (N := 96) (ci := 12) (i := 0) (v := .ref (ad 66)) hx hb hts zj_X12_ask_X12 hown hK hW rfl rfl 91 (by decide) (hts (.fieldLink RX12 214 "PetrolBoardModel" "jGranted" "[I") (me_s (me_l (me_l (List.mem_of_getElem? (i := 9) rfl))))) (fun _ h => h) rfl dX12_ask_158 ?_
                  refine lv_iload hx hb dX12_ask_161 (lv_at hl 0 rfl) ?_
                  refine lv_aload_n hx hb dX12_ask_163 rfl (lv_at hl 1 rfl) ?_
                  refine lv_iload hx hb dX12_ask_164 (lv_at hl 0 rfl) ?_
                  refine z_ci hW hS hA (va_runV (As := [.int (I 0 83)]) (rest := [.int (I 0 83), .ref (ad 66)]) ⟨hx, hb, hml, hown, hts⟩ (sx_X12_granted l G ad I99 J ⟨(by show 0 ≤ (I99 0 0).toInt ∧ (I99 0 0).toInt ≤ 719; rw [eI99, z_up_n (by decide), eI89, z_up_n (by decide), eI79, z_up_n (by decide), eI69, z_up_n (by decide), eI59, z_up_n (by decide), eI49, z_up_n (by decide), eI39, z_up_n (by decide)]; exact hma.1), (by show 0 ≤ (I99 0 1).toInt ∧ (I99 0 1).toInt ≤ 30; rw [eI99, z_up_n (by decide), eI89, z_up_n (by decide), eI79, z_up_n (by decide), eI69, z_up_n (by decide), eI59, z_up_n (by decide), eI49, z_up_n (by decide), eI39, z_up_n (by decide)]; exact hma.2.1), (by show 0 ≤ (I99 0 2).toInt ∧ (I99 0 2).toInt ≤ 200; rw [eI99, z_up_n (by decide), eI89, z_up_n (by decide), eI79, z_up_n (by decide), eI69, z_up_n (by decide), eI59, z_up_n (by decide), eI49, z_up_n (by decide), eI39, z_up_n (by decide)]; exact hma.2.2)⟩ ⟨(by show 0 ≤ (I99 0 13).toInt ∧ (I99 0 13).toInt ≤ 12; rw [eI99, z_up_n (by decide), eI89, z_up_n (by decide), eI79, z_up_n (by decide), eI69, z_up_n (by decide), eI59, z_up_n (by decide), eI49, z_up_n (by decide), eI39, z_up_n (by decide)]; exact hmb.1), (by show 0 ≤ (I99 0 14).toInt ∧ (I99 0 14).toInt ≤ 288; rw [eI99, z_up_n (by decide), eI89, z_up_n (by decide), eI79, z_up_n (by decide), eI69, z_up_n (by decide), eI59, z_up_n (by decide), eI49, z_up_n (by decide), eI39, z_up_n (by decide)]; exact hmb.2)⟩ (by show 0 ≤ (I99 0 83).toInt ∧ (I99 0 83).toInt ≤ 60; rw [eI99, z_up_n (by decide), eI89, z_up_n (by decide), eI79, z_up_n (by decide), eI69, z_up_n (by decide), eI59, z_up_n (by decide), eI49, z_up_n (by decide), eI39, z_up_n (by decide)]; exact hmj) a101 a102 a103 a104 a105 a106 a107 a108 (I 0 83) (by first | omega | decide) _) (cwV 1 hts gX12_ask_X12_granted rfl rfl rfl hy_X12_granted ⟨Nat.le_of_ble_eq_true rfl, Nat.le_of_ble_eq_true rfl⟩) (z_preV (i := 0) hK hW rfl rfl) rfl rfl hl.1 rfl (lv_room (Nat.le_of_ble_eq_true rfl)) dX12_ask_166 ⟨Nat.le_of_ble_eq_true rfl, Nat.le_of_ble_eq_true rfl⟩) (fun r u1 H locs hp hW hS => ?_)
                  obtain ⟨I109, J111, e9, hI109ma, hI109mb, hI109mj, hI109Atf, hI109Atm, hI109Ajw, hI109Nd, hI109Asf, hI109Ast, hI109Asc, hI109Ex, fI109⟩ := hp
                  rw [e9] at hW
                  have f110 := z_fr_sub (L := L_X12_ask_e) f100 fI109 (by decide)
                  have k112 : (I109 0 0).toInt = (I 0 0).toInt := by rw [fI109 0 0 (by decide), eI99, z_up_n (by decide), eI89, z_up_n (by decide), eI79, z_up_n (by decide), eI69, z_up_n (by decide), eI59, z_up_n (by decide), eI49, z_up_n (by decide), eI39, z_up_n (by decide)]
                  have k113 : (I109 0 83).toInt = (I 0 83).toInt := by rw [fI109 0 83 (by decide), eI99, z_up_n (by decide), eI89, z_up_n (by decide), eI79, z_up_n (by decide), eI69, z_up_n (by decide), eI59, z_up_n (by decide), eI49, z_up_n (by decide), eI39, z_up_n (by decide)]
                  have k114 : (I109 0 83).toInt = (I 0 83).toInt := by rw [fI109 0 83 (by decide), eI99, z_up_n (by decide), eI89, z_up_n (by decide), eI79, z_up_n (by decide), eI69, z_up_n (by decide), eI59, z_up_n (by decide), eI49, z_up_n (by decide), eI39, z_up_n (by decide)]
                  refine lv_topi (fun x115 ex115 => ?_)
                  refine z_iast (i := 66) hx hb hK hW hS rfl (z_ix rfl (by omega) (by omega)) dX12_ask_169 (fun H locs hz1 hW hS => ?_)
                  obtain ⟨I116, eI116⟩ : ∃ K : z_I, K = z_up I109 66 (I 0 83).toNatClampNeg x115 := ⟨_, rfl⟩
                  rw [← eI116] at hW
                  have f117 := z_fr_a f110 (show z_wa L_X12_ask_e 66 = true by decide) eI116
                  have a118 := z_rg_n hI109Atf (by decide) eI116
                  have a119 := z_rg_n hI109Atm (by decide) eI116
                  have a120 := z_rg_n hI109Ajw (by decide) eI116
                  have a121 := z_Nd_n hI109Nd (by decide) eI116
                  have a122 := z_rg_n hI109Asf (by decide) eI116
                  have a123 := z_rg_n hI109Ast (by decide) eI116
                  have a124 := z_rg_n hI109Asc (by decide) eI116
                  have a125 := z_Ex_n hI109Ex (by decide) eI116
                  refine lv_aload_n hx hb dX12_ask_170 rfl (lv_at hl 1 rfl) ?_
                  refine z_get (T := TX12) (N := 96) (ci := 12) (i := 0) (v := .ref (ad 67)) hx hb hts zj_X12_ask_X12 hown hK hW rfl rfl 92 (by decide) (hts (.fieldLink RX12 217 "PetrolBoardModel" "jFirst" "[I") (me_s (me_l (me_l (List.mem_of_getElem? (i := 10) rfl))))) (fun _ h => h) rfl dX12_ask_171 ?_
                  refine lv_iload hx hb dX12_ask_174 (lv_at hl 0 rfl) ?_
                  refine lv_aload_n hx hb dX12_ask_176 rfl (lv_at hl 1 rfl) ?_
                  refine z_get (T := TX12) (N := 96) (ci := 12) (i := 0) (v := .ref (ad 66)) hx hb hts zj_X12_ask_X12 hown hK hW rfl rfl 91 (by decide) (hts (.fieldLink RX12 214 "PetrolBoardModel" "jGranted" "[I") (me_s (me_l (me_l (List.mem_of_getElem? (i := 9) rfl))))) (fun _ h => h) rfl dX12_ask_177 ?_
                  refine lv_iload hx hb dX12_ask_180 (lv_at hl 0 rfl) ?_
                  refine z_iald (i := 66) hx hb hK hW rfl (z_ix rfl (by omega) (by omega)) dX12_ask_182 ?_
                  refine lv_topi (fun x126 ex126 => ?_)
                  refine z_iast (i := 67) hx hb hK hW hS rfl (z_ix rfl (by omega) (by omega)) dX12_ask_183 (fun H locs hz1 hW hS => ?_)
                  obtain ⟨I127, eI127⟩ : ∃ K : z_I, K = z_up I116 67 (I 0 83).toNatClampNeg x126 := ⟨_, rfl⟩
                  rw [← eI127] at hW
                  have f128 := z_fr_a f117 (show z_wa L_X12_ask_e 67 = true by decide) eI127
                  have a129 := z_rg_n a118 (by decide) eI127
                  have a130 := z_rg_n a119 (by decide) eI127
                  have a131 := z_rg_n a120 (by decide) eI127
                  have a132 := z_Nd_n a121 (by decide) eI127
                  have a133 := z_rg_n a122 (by decide) eI127
                  have a134 := z_rg_n a123 (by decide) eI127
                  have a135 := z_rg_n a124 (by decide) eI127
                  have a136 := z_Ex_n a125 (by decide) eI127
                  refine lv_aload_n hx hb dX12_ask_184 rfl (lv_at hl 1 rfl) ?_
                  refine lv_dup hx hb dX12_ask_185 rfl ?_
                  have r137 : 0 ≤ (I109 0 83).toInt ∧ (I109 0 83).toInt ≤ 60 := hI109mj
                  refine z_get (T := TX12) (N := 96) (ci := 12) (i := 0) (v := .int (I109 0 83)) hx hb hts zj_X12_ask_X12 hown hK hW rfl rfl 83 (by decide) (hts (.fieldLink RX12 505 "PetrolBoardModel" "journeys" "I") (me_s (me_l (me_l (List.mem_of_getElem? (i := 1) rfl))))) (fun _ h => h) (congrArg Value.int (by rw [eI127, z_up_n (by decide), eI116, z_up_n (by decide)])) dX12_ask_186 ?_
                  refine lv_iconst (v := 1) hx hb dX12_ask_189 (by decide) ?_
                  refine lv_iadd hx hb dX12_ask_190 ?_
                  refine lv_topi (fun x138 ex138 => ?_)
                  have tx138 : x138.toInt = (I109 0 83).toInt + 1 := z_tadd ex138 rfl z_l1 (by omega) (by omega)
                  refine z_put (T := TX12) (N := 96) (ci := 12) (i := 0) (v := .int x138) (I1 := z_up I127 0 83 x138) (J1 := J111) (P1 := PM ad) hx hb hts zj_X12_ask_X12 tyX12 tyX12_ok nmX12 hown hK hW hS rfl rfl 83 (by decide) (hts (.fieldLink RX12 505 "PetrolBoardModel" "journeys" "I") (me_s (me_l (me_l (List.mem_of_getElem? (i := 1) rfl))))) (fun _ h => h) rfl rfl rfl (by first | rfl | exact congrArg _ z_up_s) (fun a b h ty => z_vI h ty) dX12_ask_191 (fun H locs hz1 hW hS => ?_)
                  obtain ⟨I139, eI139⟩ : ∃ K : z_I, K = z_up I127 0 83 x138 := ⟨_, rfl⟩
                  rw [← eI139] at hW
                  have f140 := z_fr_k f128 (show z_wr L_X12_ask_e 0 83 = true by decide) eI139
                  have a141 := z_rg_n a129 (by decide) eI139
                  have a142 := z_rg_n a130 (by decide) eI139
                  have a143 := z_rg_n a131 (by decide) eI139
                  have a144 := z_Nd_n a132 (by decide) eI139
                  have a145 := z_rg_n a133 (by decide) eI139
                  have a146 := z_rg_n a134 (by decide) eI139
                  have a147 := z_rg_n a135 (by decide) eI139
                  have a148 := z_Ex_n a136 (by decide) eI139
                  refine lv_iload hx hb dX12_ask_194 (lv_at hl 0 rfl) ?_
                  exact z_iret hx hb hr hK hS (Nat.le_of_ble_eq_true rfl) (Nat.le_of_ble_eq_true rfl) hlocks dX12_ask_196 (shM, ad, I139, J111, PM ad) hW ⟨I139, J111, rfl, ⟨(by show 0 ≤ (I139 0 0).toInt ∧ (I139 0 0).toInt ≤ 719; rw [eI139, z_up_k (by decide), eI127, z_up_n (by decide), eI116, z_up_n (by decide)]; exact hI109ma.1), (by show 0 ≤ (I139 0 1).toInt ∧ (I139 0 1).toInt ≤ 30; rw [eI139, z_up_k (by decide), eI127, z_up_n (by decide), eI116, z_up_n (by decide)]; exact hI109ma.2.1), (by show 0 ≤ (I139 0 2).toInt ∧ (I139 0 2).toInt ≤ 200; rw [eI139, z_up_k (by decide), eI127, z_up_n (by decide), eI116, z_up_n (by decide)]; exact hI109ma.2.2)⟩, ⟨(by show 0 ≤ (I139 0 13).toInt ∧ (I139 0 13).toInt ≤ 12; rw [eI139, z_up_k (by decide), eI127, z_up_n (by decide), eI116, z_up_n (by decide)]; exact hI109mb.1), (by show 0 ≤ (I139 0 14).toInt ∧ (I139 0 14).toInt ≤ 288; rw [eI139, z_up_k (by decide), eI127, z_up_n (by decide), eI116, z_up_n (by decide)]; exact hI109mb.2)⟩, (by show 0 ≤ (I139 0 83).toInt ∧ (I139 0 83).toInt ≤ 60; rw [eI139, z_up_s]; omega), a141, a142, a143, a144, a145, a146, a147, a148, f140, (Or.inl ⟨by omega, by omega, (by have q9 : (I139 0 83) = x138 := (by rw [eI139, z_up_s]); show (I139 0 83).toInt = (I 0 83).toInt + 1; rw [q9]; first | done | omega)⟩)⟩
                · have g149 := z_f_eq rfl z_l60 c37
                  refine lv_iconst (v := (-1)) hx hb dX12_ask_87 (by decide) ?_
                  exact z_iret hx hb hr hK hS (Nat.le_of_ble_eq_true rfl) (Nat.le_of_ble_eq_true rfl) hlocks dX12_ask_88 (shM, ad, I, J, PM ad) hW ⟨I, J, rfl, ⟨(by show 0 ≤ (I 0 0).toInt ∧ (I 0 0).toInt ≤ 719; exact hma.1), (by show 0 ≤ (I 0 1).toInt ∧ (I 0 1).toInt ≤ 30; exact hma.2.1), (by show 0 ≤ (I 0 2).toInt ∧ (I 0 2).toInt ≤ 200; exact hma.2.2)⟩, ⟨(by show 0 ≤ (I 0 13).toInt ∧ (I 0 13).toInt ≤ 12; exact hmb.1), (by show 0 ≤ (I 0 14).toInt ∧ (I 0 14).toInt ≤ 288; exact hmb.2)⟩, (by show 0 ≤ (I 0 83).toInt ∧ (I 0 83).toInt ≤ 60; exact hmj), hAtf, hAtm, hAjw, hNd, hAsf, hAst, hAsc, hEx, z_fr_0, (Or.inr ⟨by omega, by decide, (by show (I 0 83).toInt = (I 0 83).toInt; omega)⟩)⟩
            · have h150 := h26
              have z151 := z_l0
              have z152 := z_l99
              refine lv_if_eq (tgt := 87) hx hb dX12_ask_62 (by decide) (fun c153 => ?_) (fun c153 => absurd (by decide) c153)
              refine lv_iconst (v := (-1)) hx hb dX12_ask_87 (by decide) ?_
              exact z_iret hx hb hr hK hS (Nat.le_of_ble_eq_true rfl) (Nat.le_of_ble_eq_true rfl) hlocks dX12_ask_88 (shM, ad, I, J, PM ad) hW ⟨I, J, rfl, ⟨(by show 0 ≤ (I 0 0).toInt ∧ (I 0 0).toInt ≤ 719; exact hma.1), (by show 0 ≤ (I 0 1).toInt ∧ (I 0 1).toInt ≤ 30; exact hma.2.1), (by show 0 ≤ (I 0 2).toInt ∧ (I 0 2).toInt ≤ 200; exact hma.2.2)⟩, ⟨(by show 0 ≤ (I 0 13).toInt ∧ (I 0 13).toInt ≤ 12; exact hmb.1), (by show 0 ≤ (I 0 14).toInt ∧ (I 0 14).toInt ≤ 288; exact hmb.2)⟩, (by show 0 ≤ (I 0 83).toInt ∧ (I 0 83).toInt ≤ 60; exact hmj), hAtf, hAtm, hAjw, hNd, hAsf, hAst, hAsc, hEx, z_fr_0, (Or.inr ⟨by omega, by decide, (by show (I 0 83).toInt = (I 0 83).toInt; omega)⟩)⟩
          · have h154 := h22
            have z155 := z_l719
            refine lv_if_eq (tgt := 87) hx hb dX12_ask_51 (by decide) (fun c156 => ?_) (fun c156 => absurd (by decide) c156)
            refine lv_iconst (v := (-1)) hx hb dX12_ask_87 (by decide) ?_
            exact z_iret hx hb hr hK hS (Nat.le_of_ble_eq_true rfl) (Nat.le_of_ble_eq_true rfl) hlocks dX12_ask_88 (shM, ad, I, J, PM ad) hW ⟨I, J, rfl, ⟨(by show 0 ≤ (I 0 0).toInt ∧ (I 0 0).toInt ≤ 719; exact hma.1), (by show 0 ≤ (I 0 1).toInt ∧ (I 0 1).toInt ≤ 30; exact hma.2.1), (by show 0 ≤ (I 0 2).toInt ∧ (I 0 2).toInt ≤ 200; exact hma.2.2)⟩, ⟨(by show 0 ≤ (I 0 13).toInt ∧ (I 0 13).toInt ≤ 12; exact hmb.1), (by show 0 ≤ (I 0 14).toInt ∧ (I 0 14).toInt ≤ 288; exact hmb.2)⟩, (by show 0 ≤ (I 0 83).toInt ∧ (I 0 83).toInt ≤ 60; exact hmj), hAtf, hAtm, hAjw, hNd, hAsf, hAst, hAsc, hEx, z_fr_0, (Or.inr ⟨by omega, by decide, (by show (I 0 83).toInt = (I 0 83).toInt; omega)⟩)⟩
        · have h157 := h16
          have z158 := z_l0
          have z159 := z_l4
          refine lv_if_eq (tgt := 87) hx hb dX12_ask_36 (by decide) (fun c160 => ?_) (fun c160 => absurd (by decide) c160)
          refine lv_iconst (v := (-1)) hx hb dX12_ask_87 (by decide) ?_
          exact z_iret hx hb hr hK hS (Nat.le_of_ble_eq_true rfl) (Nat.le_of_ble_eq_true rfl) hlocks dX12_ask_88 (shM, ad, I, J, PM ad) hW ⟨I, J, rfl, ⟨(by show 0 ≤ (I 0 0).toInt ∧ (I 0 0).toInt ≤ 719; exact hma.1), (by show 0 ≤ (I 0 1).toInt ∧ (I 0 1).toInt ≤ 30; exact hma.2.1), (by show 0 ≤ (I 0 2).toInt ∧ (I 0 2).toInt ≤ 200; exact hma.2.2)⟩, ⟨(by show 0 ≤ (I 0 13).toInt ∧ (I 0 13).toInt ≤ 12; exact hmb.1), (by show 0 ≤ (I 0 14).toInt ∧ (I 0 14).toInt ≤ 288; exact hmb.2)⟩, (by show 0 ≤ (I 0 83).toInt ∧ (I 0 83).toInt ≤ 60; exact hmj), hAtf, hAtm, hAjw, hNd, hAsf, hAst, hAsc, hEx, z_fr_0, (Or.inr ⟨by omega, by decide, (by show (I 0 83).toInt = (I 0 83).toInt; omega)⟩)⟩
      · have h161 := h11
        have z162 := z_l1
        have z163 := z_l8
        refine lv_if_eq (tgt := 87) hx hb dX12_ask_26 (by decide) (fun c164 => ?_) (fun c164 => absurd (by decide) c164)
        refine lv_iconst (v := (-1)) hx hb dX12_ask_87 (by decide) ?_
        exact z_iret hx hb hr hK hS (Nat.le_of_ble_eq_true rfl) (Nat.le_of_ble_eq_true rfl) hlocks dX12_ask_88 (shM, ad, I, J, PM ad) hW ⟨I, J, rfl, ⟨(by show 0 ≤ (I 0 0).toInt ∧ (I 0 0).toInt ≤ 719; exact hma.1), (by show 0 ≤ (I 0 1).toInt ∧ (I 0 1).toInt ≤ 30; exact hma.2.1), (by show 0 ≤ (I 0 2).toInt ∧ (I 0 2).toInt ≤ 200; exact hma.2.2)⟩, ⟨(by show 0 ≤ (I 0 13).toInt ∧ (I 0 13).toInt ≤ 12; exact hmb.1), (by show 0 ≤ (I 0 14).toInt ∧ (I 0 14).toInt ≤ 288; exact hmb.2)⟩, (by show 0 ≤ (I 0 83).toInt ∧ (I 0 83).toInt ≤ 60; exact hmj), hAtf, hAtm, hAjw, hNd, hAsf, hAst, hAsc, hEx, z_fr_0, (Or.inr ⟨by omega, by decide, (by show (I 0 83).toInt = (I 0 83).toInt; omega)⟩)⟩
    · have h165 := h5
      have z166 := z_l1
      have z167 := z_l500
      refine lv_if_eq (tgt := 87) hx hb dX12_ask_16 (by decide) (fun c168 => ?_) (fun c168 => absurd (by decide) c168)
      refine lv_iconst (v := (-1)) hx hb dX12_ask_87 (by decide) ?_
      exact z_iret hx hb hr hK hS (Nat.le_of_ble_eq_true rfl) (Nat.le_of_ble_eq_true rfl) hlocks dX12_ask_88 (shM, ad, I, J, PM ad) hW ⟨I, J, rfl, ⟨(by show 0 ≤ (I 0 0).toInt ∧ (I 0 0).toInt ≤ 719; exact hma.1), (by show 0 ≤ (I 0 1).toInt ∧ (I 0 1).toInt ≤ 30; exact hma.2.1), (by show 0 ≤ (I 0 2).toInt ∧ (I 0 2).toInt ≤ 200; exact hma.2.2)⟩, ⟨(by show 0 ≤ (I 0 13).toInt ∧ (I 0 13).toInt ≤ 12; exact hmb.1), (by show 0 ≤ (I 0 14).toInt ∧ (I 0 14).toInt ≤ 288; exact hmb.2)⟩, (by show 0 ≤ (I 0 83).toInt ∧ (I 0 83).toInt ≤ 60; exact hmj), hAtf, hAtm, hAjw, hNd, hAsf, hAst, hAsc, hEx, z_fr_0, (Or.inr ⟨by omega, by decide, (by show (I 0 83).toInt = (I 0 83).toInt; omega)⟩)⟩
  · have h169 := h1
    have r170 : 0 ≤ (I 0 1).toInt ∧ (I 0 1).toInt ≤ 30 := hma.2.1
    refine lv_if_eq (tgt := 87) hx hb dX12_ask_5 (by decide) (fun c171 => ?_) (fun c171 => absurd (by decide) c171)
    refine lv_iconst (v := (-1)) hx hb dX12_ask_87 (by decide) ?_
    exact z_iret hx hb hr hK hS (Nat.le_of_ble_eq_true rfl) (Nat.le_of_ble_eq_true rfl) hlocks dX12_ask_88 (shM, ad, I, J, PM ad) hW ⟨I, J, rfl, ⟨(by show 0 ≤ (I 0 0).toInt ∧ (I 0 0).toInt ≤ 719; exact hma.1), (by show 0 ≤ (I 0 1).toInt ∧ (I 0 1).toInt ≤ 30; exact hma.2.1), (by show 0 ≤ (I 0 2).toInt ∧ (I 0 2).toInt ≤ 200; exact hma.2.2)⟩, ⟨(by show 0 ≤ (I 0 13).toInt ∧ (I 0 13).toInt ≤ 12; exact hmb.1), (by show 0 ≤ (I 0 14).toInt ∧ (I 0 14).toInt ≤ 288; exact hmb.2)⟩, (by show 0 ≤ (I 0 83).toInt ∧ (I 0 83).toInt ≤ 60; exact hmj), hAtf, hAtm, hAjw, hNd, hAsf, hAst, hAsc, hEx, z_fr_0, (Or.inr ⟨by omega, by decide, (by show (I 0 83).toInt = (I 0 83).toInt; omega)⟩)⟩
