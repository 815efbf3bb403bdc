section SG60f5
theorem z_lm1999999999 : ((-1999999999) : Int32).toInt = -1999999999 := by decide


set_option maxHeartbeats 8000000 in
set_option maxRecDepth 100000 in
theorem sx_X11_isDay_e (l : Launch) (G : z_G) (ad : Nat → Nat) (c : z_C) (I : z_I) (a1 : Int32) : z_M l yX11_isDay wsX11_isDay { frames := 2, cells := 0, slots := 0, locals := 34 } [.int a1] G (shC c, ad, I, JX, PC c ad) (fun r u1 => u1 = (shC c, ad, I, JX, PC c ad) ∧ ((r = 1 ∧ 0 ≤ a1.toInt ∧ a1.toInt ≤ 719) ∨ (r = 0 ∧ ¬ (0 ≤ a1.toInt ∧ a1.toInt ≤ 719)))) 0 0 := by
  intro sz
  refine z_headQ (cc := cX11_isDay) (maxL := 1) (ret := (some .boolean)) (by decide) rfl (Nat.le_of_ble_eq_true rfl) ?_
  intro p e s m below meth c0 ls hIn hK hsz hW hl
  obtain ⟨hx, hb, hr, hml, hown, hts, hlocks, hname⟩ := hIn
  subst hsz
  have hown : s.vm.findClass RX11 = some m.cls := hown
  have hA : ∀ q : Nat, s.heap.size ≤ q → z_A (shC c, ad, I, JX, PC c ad) s.heap.size q := fun q h => Or.inr h
  generalize hAe : z_A (shC c, ad, I, JX, PC c ad) s.heap.size = A at *
  have hS : va_S A s.heap s.heap [] := va_S.rf
  have hl : lv_has ls 1 [(0, .int a1)] := hl
  refine lv_iload_n hx hb dX11_isDay_0 rfl (lv_at hl 0 rfl) ?_
  refine lv_iconst (v := 0) hx hb dX11_isDay_1 (by decide) ?_
  refine lv_sipush (v := 719) hx hb dX11_isDay_2 (by decide) ?_
  refine z_ci hW hS hA (va_runS (As := [.int a1, .int 0, .int 719]) (rest := []) ⟨hx, hb, hml, hown, hts⟩ (sx_X11_within_e l G ad c I  a1 0 719 _) (va_cwS 3 hts gX11_isDay_X11_within rfl rfl rfl (by decide +kernel) ⟨Nat.le_of_ble_eq_true rfl, Nat.le_of_ble_eq_true rfl⟩) (z_preS hK hW) rfl rfl hl.1 rfl (lv_room (Nat.le_of_ble_eq_true rfl)) dX11_isDay_5 ⟨Nat.le_of_ble_eq_true rfl, Nat.le_of_ble_eq_true rfl⟩) (fun r u1 H locs hp hW hS => ?_)
  obtain ⟨e9, hp⟩ := hp
  rw [e9] at hW
  rcases hp with ⟨rfl, h1⟩ | ⟨rfl, h1⟩
  · have h2 := h1
    have z3 := z_l0
    have z4 := z_l719
    exact z_zret hx hb hr (by decide) hK hS (Nat.le_of_ble_eq_true rfl) (Nat.le_of_ble_eq_true rfl) hlocks dX11_isDay_8 (shC c, ad, I, JX, PC c ad) hW ⟨rfl, (Or.inl ⟨rfl, by omega⟩)⟩
  · have h5 := h1
    have z6 := z_l0
    have z7 := z_l719
    exact z_zret hx hb hr (by decide) hK hS (Nat.le_of_ble_eq_true rfl) (Nat.le_of_ble_eq_true rfl) hlocks dX11_isDay_8 (shC c, ad, I, JX, PC c ad) hW ⟨rfl, (Or.inr ⟨rfl, by omega⟩)⟩
set_option maxHeartbeats 8000000 in
set_option maxRecDepth 100000 in
theorem sx_X11_isReason_e (l : Launch) (G : z_G) (ad : Nat → Nat) (c : z_C) (I : z_I) (a1 : Int32) : z_M l yX11_isReason wsX11_isReason { frames := 2, cells := 0, slots := 0, locals := 34 } [.int a1] G (shC c, ad, I, JX, PC c ad) (fun r u1 => u1 = (shC c, ad, I, JX, PC c ad) ∧ ((r = 1 ∧ 0 ≤ a1.toInt ∧ a1.toInt ≤ 4) ∨ (r = 0 ∧ ¬ (0 ≤ a1.toInt ∧ a1.toInt ≤ 4)))) 0 0 := by
  intro sz
  refine z_headQ (cc := cX11_isReason) (maxL := 1) (ret := (some .boolean)) (by decide) rfl (Nat.le_of_ble_eq_true rfl) ?_
  intro p e s m below meth c0 ls hIn hK hsz hW hl
  obtain ⟨hx, hb, hr, hml, hown, hts, hlocks, hname⟩ := hIn
  subst hsz
  have hown : s.vm.findClass RX11 = some m.cls := hown
  have hA : ∀ q : Nat, s.heap.size ≤ q → z_A (shC c, ad, I, JX, PC c ad) s.heap.size q := fun q h => Or.inr h
  generalize hAe : z_A (shC c, ad, I, JX, PC c ad) s.heap.size = A at *
  have hS : va_S A s.heap s.heap [] := va_S.rf
  have hl : lv_has ls 1 [(0, .int a1)] := hl
  refine lv_iload_n hx hb dX11_isReason_0 rfl (lv_at hl 0 rfl) ?_
  refine lv_iconst (v := 0) hx hb dX11_isReason_1 (by decide) ?_
  refine lv_iconst (v := 4) hx hb dX11_isReason_2 (by decide) ?_
  refine z_ci hW hS hA (va_runS (As := [.int a1, .int 0, .int 4]) (rest := []) ⟨hx, hb, hml, hown, hts⟩ (sx_X11_within_e l G ad c I  a1 0 4 _) (va_cwS 3 hts gX11_isReason_X11_within rfl rfl rfl (by decide +kernel) ⟨Nat.le_of_ble_eq_true rfl, Nat.le_of_ble_eq_true rfl⟩) (z_preS hK hW) rfl rfl hl.1 rfl (lv_room (Nat.le_of_ble_eq_true rfl)) dX11_isReason_3 ⟨Nat.le_of_ble_eq_true rfl, Nat.le_of_ble_eq_true rfl⟩) (fun r u1 H locs hp hW hS => ?_)
  obtain ⟨e9, hp⟩ := hp
  rw [e9] at hW
  rcases hp with ⟨rfl, h1⟩ | ⟨rfl, h1⟩
  · have h2 := h1
    have z3 := z_l0
    have z4 := z_l4
    exact z_zret hx hb hr (by decide) hK hS (Nat.le_of_ble_eq_true rfl) (Nat.le_of_ble_eq_true rfl) hlocks dX11_isReason_6 (shC c, ad, I, JX, PC c ad) hW ⟨rfl, (Or.inl ⟨rfl, by omega⟩)⟩
  · have h5 := h1
    have z6 := z_l0
    have z7 := z_l4
    exact z_zret hx hb hr (by decide) hK hS (Nat.le_of_ble_eq_true rfl) (Nat.le_of_ble_eq_true rfl) hlocks dX11_isReason_6 (shC c, ad, I, JX, PC c ad) hW ⟨rfl, (Or.inr ⟨rfl, by omega⟩)⟩
set_option maxHeartbeats 8000000 in
set_option maxRecDepth 100000 in
theorem sx_X11_isWay_e (l : Launch) (G : z_G) (ad : Nat → Nat) (c : z_C) (I : z_I) (a1 : Int32) : z_M l yX11_isWay wsX11_isWay { frames := 2, cells := 0, slots := 0, locals := 34 } [.int a1] G (shC c, ad, I, JX, PC c ad) (fun r u1 => u1 = (shC c, ad, I, JX, PC c ad) ∧ ((r = 1 ∧ 0 ≤ a1.toInt ∧ a1.toInt ≤ 99 ∧ a1.toInt / 10 ≠ a1.toInt % 10) ∨ (r = 0 ∧ ¬ (0 ≤ a1.toInt ∧ a1.toInt ≤ 99 ∧ a1.toInt / 10 ≠ a1.toInt % 10)))) 0 0 := by
  intro sz
  refine z_headQ (cc := cX11_isWay) (maxL := 1) (ret := (some .boolean)) (by decide) rfl (Nat.le_of_ble_eq_true rfl) ?_
  intro p e s m below meth c0 ls hIn hK hsz hW hl
  obtain ⟨hx, hb, hr, hml, hown, hts, hlocks, hname⟩ := hIn
  subst hsz
  have hown : s.vm.findClass RX11 = some m.cls := hown
  have hA : ∀ q : Nat, s.heap.size ≤ q → z_A (shC c, ad, I, JX, PC c ad) s.heap.size q := fun q h => Or.inr h
  generalize hAe : z_A (shC c, ad, I, JX, PC c ad) s.heap.size = A at *
  have hS : va_S A s.heap s.heap [] := va_S.rf
  have hl : lv_has ls 1 [(0, .int a1)] := hl
  refine lv_iload_n hx hb dX11_isWay_0 rfl (lv_at hl 0 rfl) ?_
  refine lv_iconst (v := 0) hx hb dX11_isWay_1 (by decide) ?_
  refine lv_bipush (v := 99) hx hb dX11_isWay_2 (by decide) ?_
  refine z_ci hW hS hA (va_runS (As := [.int a1, .int 0, .int 99]) (rest := []) ⟨hx, hb, hml, hown, hts⟩ (sx_X11_within_e l G ad c I  a1 0 99 _) (va_cwS 3 hts gX11_isWay_X11_within rfl rfl rfl (by decide +kernel) ⟨Nat.le_of_ble_eq_true rfl, Nat.le_of_ble_eq_true rfl⟩) (z_preS hK hW) rfl rfl hl.1 rfl (lv_room (Nat.le_of_ble_eq_true rfl)) dX11_isWay_4 ⟨Nat.le_of_ble_eq_true rfl, Nat.le_of_ble_eq_true rfl⟩) (fun r u1 H locs hp hW hS => ?_)
  obtain ⟨e9, hp⟩ := hp
  rw [e9] at hW
  rcases hp with ⟨rfl, h1⟩ | ⟨rfl, h1⟩
  · have h2 := h1
    have z3 := z_l0
    have z4 := z_l99
    refine lv_if_eq (tgt := 25) hx hb dX11_isWay_7 (by decide) (fun c5 => absurd c5 (by decide)) (fun c5 => ?_)
    refine lv_iload_n hx hb dX11_isWay_10 rfl (lv_at hl 0 rfl) ?_
    refine lv_bipush (v := 10) hx hb dX11_isWay_11 (by decide) ?_
    refine lv_idiv hx hb dX11_isWay_13 (by decide) ?_
    refine lv_topi (fun x6 ex6 => ?_)
    have tx6 := z_tdiv ex6 rfl z_l10 (by decide)
    refine lv_iload_n hx hb dX11_isWay_14 rfl (lv_at hl 0 rfl) ?_
    refine lv_bipush (v := 10) hx hb dX11_isWay_15 (by decide) ?_
    refine lv_irem hx hb dX11_isWay_17 (by decide) ?_
    refine lv_topi (fun x7 ex7 => ?_)
    have tx7 := z_trem ex7 rfl z_l10 (by decide)
    refine lv_icmp_eq (tgt := 25) hx hb dX11_isWay_18 (by decide) (fun c8 => ?_) (fun c8 => ?_)
    · have g9 := z_f_eq rfl rfl c8
      refine lv_iconst (v := 0) hx hb dX11_isWay_25 (by decide) ?_
      exact z_zret hx hb hr (by decide) hK hS (Nat.le_of_ble_eq_true rfl) (Nat.le_of_ble_eq_true rfl) hlocks dX11_isWay_26 (shC c, ad, I, JX, PC c ad) hW ⟨rfl, (Or.inr ⟨rfl, by omega⟩)⟩
    · have g10 := z_f_ne rfl rfl c8
      refine lv_iconst (v := 1) hx hb dX11_isWay_21 (by decide) ?_
      refine lv_goto (tgt := 26) hx hb dX11_isWay_22 (by decide) ?_
      exact z_zret hx hb hr (by decide) hK hS (Nat.le_of_ble_eq_true rfl) (Nat.le_of_ble_eq_true rfl) hlocks dX11_isWay_26 (shC c, ad, I, JX, PC c ad) hW ⟨rfl, (Or.inl ⟨rfl, by omega⟩)⟩
  · have h11 := h1
    have z12 := z_l0
    have z13 := z_l99
    refine lv_if_eq (tgt := 25) hx hb dX11_isWay_7 (by decide) (fun c14 => ?_) (fun c14 => absurd (by decide) c14)
    refine lv_iconst (v := 0) hx hb dX11_isWay_25 (by decide) ?_
    exact z_zret hx hb hr (by decide) hK hS (Nat.le_of_ble_eq_true rfl) (Nat.le_of_ble_eq_true rfl) hlocks dX11_isWay_26 (shC c, ad, I, JX, PC c ad) hW ⟨rfl, (Or.inr ⟨rfl, by omega⟩)⟩
set_option maxHeartbeats 8000000 in
set_option maxRecDepth 100000 in
theorem sx_X2_has_e (l : Launch) (G : z_G) (ad : Nat → Nat) (c : z_C) (I : z_I) (hH : z_iH I) (a1 : Int32) : z_M l yX2_has wsX2_has { frames := 1, cells := 0, slots := 0, locals := 12 } [.ref (ad 1), .int a1] G (shC c, ad, I, JX, PC c ad) (fun r u1 => u1 = (shC c, ad, I, JX, PC c ad) ∧ ((r = 1 ∧ 0 ≤ a1.toInt ∧ a1.toInt < (I 1 5).toInt) ∨ (r = 0 ∧ ¬ (0 ≤ a1.toInt ∧ a1.toInt < (I 1 5).toInt)))) 0 0 := by
  intro sz
  refine z_headQ (cc := cX2_has) (maxL := 2) (ret := (some .boolean)) (by decide) rfl (Nat.le_of_ble_eq_true rfl) ?_
  intro p e s m below meth c0 ls hIn hK hsz hW hl
  obtain ⟨hx, hb, hr, hml, hown, hts, hlocks, hname⟩ := hIn
  subst hsz
  have hown : s.vm.findClass RX2 = some m.cls := hown
  have hA : ∀ q : Nat, s.heap.size ≤ q → z_A (shC c, ad, I, JX, PC c ad) s.heap.size q := fun q h => Or.inr h
  generalize hAe : z_A (shC c, ad, I, JX, PC c ad) s.heap.size = A at *
  have hS : va_S A s.heap s.heap [] := va_S.rf
  have hl : lv_has ls 2 [(0, .ref (ad 1)), (1, .int a1)] := hl
  refine lv_iload_n hx hb dX2_has_0 rfl (lv_at hl 1 rfl) ?_
  refine lv_if_lt (tgt := 22) hx hb dX2_has_1 (by decide) (fun c1 => ?_) (fun c1 => ?_)
  · have g2 := z_f_lt rfl z_l0 c1
    have b3 := Int32.toInt_lt a1
    refine lv_iconst (v := 0) hx hb dX2_has_22 (by decide) ?_
    exact z_zret hx hb hr (by decide) hK hS (Nat.le_of_ble_eq_true rfl) (Nat.le_of_ble_eq_true rfl) hlocks dX2_has_23 (shC c, ad, I, JX, PC c ad) hW ⟨rfl, (Or.inr ⟨rfl, by omega⟩)⟩
  · have g4 := z_f_nlt rfl z_l0 c1
    have b5 := Int32.toInt_lt a1
    refine lv_iload_n hx hb dX2_has_4 rfl (lv_at hl 1 rfl) ?_
    refine lv_aload_n hx hb dX2_has_5 rfl (lv_at hl 0 rfl) ?_
    have r6 : 0 ≤ (I 1 5).toInt ∧ (I 1 5).toInt ≤ 30 := hH.1
    refine z_get (T := TX2) (N := 12) (ci := 2) (i := 1) (v := .int (I 1 5)) hx hb hts zj_X2_has_X2 hown hK hW rfl rfl 5 (by decide) (hts (.fieldLink RX2 42 "PetrolBoard$Holders" "number" "I") (me_s (me_l (List.mem_of_getElem? (i := 0) rfl)))) (fun _ h => h) rfl dX2_has_6 ?_
    refine lv_icmp_ge (tgt := 22) hx hb dX2_has_9 (by decide) (fun c7 => ?_) (fun c7 => ?_)
    · have g8 := z_f_ge rfl rfl c7
      refine lv_iconst (v := 0) hx hb dX2_has_22 (by decide) ?_
      exact z_zret hx hb hr (by decide) hK hS (Nat.le_of_ble_eq_true rfl) (Nat.le_of_ble_eq_true rfl) hlocks dX2_has_23 (shC c, ad, I, JX, PC c ad) hW ⟨rfl, (Or.inr ⟨rfl, by omega⟩)⟩
    · have g9 := z_f_nge rfl rfl c7
      refine lv_iload_n hx hb dX2_has_12 rfl (lv_at hl 1 rfl) ?_
      refine lv_bipush (v := 30) hx hb dX2_has_13 (by decide) ?_
      refine lv_icmp_ge (tgt := 22) hx hb dX2_has_15 (by decide) (fun c10 => (by have g := z_f_ge rfl z_l30 c10; omega)) (fun c10 => ?_)
      have g11 := z_f_nge rfl z_l30 c10
      refine lv_iconst (v := 1) hx hb dX2_has_18 (by decide) ?_
      refine lv_goto (tgt := 23) hx hb dX2_has_19 (by decide) ?_
      exact z_zret hx hb hr (by decide) hK hS (Nat.le_of_ble_eq_true rfl) (Nat.le_of_ble_eq_true rfl) hlocks dX2_has_23 (shC c, ad, I, JX, PC c ad) hW ⟨rfl, (Or.inl ⟨rfl, by omega⟩)⟩
set_option maxHeartbeats 8000000 in
set_option maxRecDepth 100000 in
theorem sx_X12_isDay_e (l : Launch) (G : z_G) (ad : Nat → Nat) (I : z_I) (J : z_J) (a1 : Int32) : z_M l yX12_isDay wsX12_isDay { frames := 1, cells := 0, slots := 0, locals := 12 } [.int a1] G (shM, ad, I, J, PM ad) (fun r u1 => u1 = (shM, ad, I, J, PM ad) ∧ ((r = 1 ∧ 0 ≤ a1.toInt ∧ a1.toInt ≤ 719) ∨ (r = 0 ∧ ¬ (0 ≤ a1.toInt ∧ a1.toInt ≤ 719)))) 0 0 := by
  intro sz
  refine z_headQ (cc := cX12_isDay) (maxL := 1) (ret := (some .boolean)) (by decide) rfl (Nat.le_of_ble_eq_true rfl) ?_
  intro p e s m below meth c0 ls hIn hK hsz hW hl
  obtain ⟨hx, hb, hr, hml, hown, hts, hlocks, hname⟩ := hIn
  subst hsz
  have hown : s.vm.findClass RX12 = some m.cls := hown
  have hA : ∀ q : Nat, s.heap.size ≤ q → z_A (shM, ad, I, J, PM ad) s.heap.size q := fun q h => Or.inr h
  generalize hAe : z_A (shM, ad, I, J, PM ad) s.heap.size = A at *
  have hS : va_S A s.heap s.heap [] := va_S.rf
  have hl : lv_has ls 1 [(0, .int a1)] := hl
  refine lv_iload_n hx hb dX12_isDay_0 rfl (lv_at hl 0 rfl) ?_
  refine lv_if_lt (tgt := 15) hx hb dX12_isDay_1 (by decide) (fun c1 => ?_) (fun c1 => ?_)
  · have g2 := z_f_lt rfl z_l0 c1
    have b3 := Int32.toInt_lt a1
    refine lv_iconst (v := 0) hx hb dX12_isDay_15 (by decide) ?_
    exact z_zret hx hb hr (by decide) hK hS (Nat.le_of_ble_eq_true rfl) (Nat.le_of_ble_eq_true rfl) hlocks dX12_isDay_16 (shM, ad, I, J, PM ad) hW ⟨rfl, (Or.inr ⟨rfl, by omega⟩)⟩
  · have g4 := z_f_nlt rfl z_l0 c1
    have b5 := Int32.toInt_lt a1
    refine lv_iload_n hx hb dX12_isDay_4 rfl (lv_at hl 0 rfl) ?_
    refine lv_sipush (v := 719) hx hb dX12_isDay_5 (by decide) ?_
    refine lv_icmp_gt (tgt := 15) hx hb dX12_isDay_8 (by decide) (fun c6 => ?_) (fun c6 => ?_)
    · have g7 := z_f_gt rfl z_l719 c6
      refine lv_iconst (v := 0) hx hb dX12_isDay_15 (by decide) ?_
      exact z_zret hx hb hr (by decide) hK hS (Nat.le_of_ble_eq_true rfl) (Nat.le_of_ble_eq_true rfl) hlocks dX12_isDay_16 (shM, ad, I, J, PM ad) hW ⟨rfl, (Or.inr ⟨rfl, by omega⟩)⟩
    · have g8 := z_f_ngt rfl z_l719 c6
      refine lv_iconst (v := 1) hx hb dX12_isDay_11 (by decide) ?_
      refine lv_goto (tgt := 16) hx hb dX12_isDay_12 (by decide) ?_
      exact z_zret hx hb hr (by decide) hK hS (Nat.le_of_ble_eq_true rfl) (Nat.le_of_ble_eq_true rfl) hlocks dX12_isDay_16 (shM, ad, I, J, PM ad) hW ⟨rfl, (Or.inl ⟨rfl, by omega⟩)⟩
set_option maxHeartbeats 8000000 in
set_option maxRecDepth 100000 in
theorem sx_X12_isHolder_e (l : Launch) (G : z_G) (ad : Nat → Nat) (I : z_I) (J : z_J) (hma : z_ima I) (a1 : Int32) : z_M l yX12_isHolder wsX12_isHolder { frames := 1, cells := 0, slots := 0, locals := 12 } [.ref (ad 0), .int a1] G (shM, ad, I, J, PM ad) (fun r u1 => u1 = (shM, ad, I, J, PM ad) ∧ ((r = 1 ∧ 0 ≤ a1.toInt ∧ a1.toInt < (I 0 1).toInt) ∨ (r = 0 ∧ ¬ (0 ≤ a1.toInt ∧ a1.toInt < (I 0 1).toInt)))) 0 0 := by
  intro sz
  refine z_headQ (cc := cX12_isHolder) (maxL := 2) (ret := (some .boolean)) (by decide) rfl (Nat.le_of_ble_eq_true rfl) ?_
  intro p e s m below meth c0 ls hIn hK hsz hW hl
  obtain ⟨hx, hb, hr, hml, hown, hts, hlocks, hname⟩ := hIn
  subst hsz
  have hown : s.vm.findClass RX12 = some m.cls := hown
  have hA : ∀ q : Nat, s.heap.size ≤ q → z_A (shM, ad, I, J, PM ad) s.heap.size q := fun q h => Or.inr h
  generalize hAe : z_A (shM, ad, I, J, PM ad) s.heap.size = A at *
  have hS : va_S A s.heap s.heap [] := va_S.rf
  have hl : lv_has ls 2 [(0, .ref (ad 0)), (1, .int a1)] := hl
  refine lv_iload_n hx hb dX12_isHolder_0 rfl (lv_at hl 1 rfl) ?_
  refine lv_if_lt (tgt := 16) hx hb dX12_isHolder_1 (by decide) (fun c1 => ?_) (fun c1 => ?_)
  · have g2 := z_f_lt rfl z_l0 c1
    have b3 := Int32.toInt_lt a1
    refine lv_iconst (v := 0) hx hb dX12_isHolder_16 (by decide) ?_
    exact z_zret hx hb hr (by decide) hK hS (Nat.le_of_ble_eq_true rfl) (Nat.le_of_ble_eq_true rfl) hlocks dX12_isHolder_17 (shM, ad, I, J, PM ad) hW ⟨rfl, (Or.inr ⟨rfl, by omega⟩)⟩
  · have g4 := z_f_nlt rfl z_l0 c1
    have b5 := Int32.toInt_lt a1
    refine lv_iload_n hx hb dX12_isHolder_4 rfl (lv_at hl 1 rfl) ?_
    refine lv_aload_n hx hb dX12_isHolder_5 rfl (lv_at hl 0 rfl) ?_
    have r6 : 0 ≤ (I 0 1).toInt ∧ (I 0 1).toInt ≤ 30 := hma.2.1
    refine z_get (T := TX12) (N := 96) (ci := 12) (i := 0) (v := .int (I 0 1)) hx hb hts zj_X12_isHolder_X12 hown hK hW rfl rfl 1 (by decide) (hts (.fieldLink RX12 229 "PetrolBoardModel" "holders" "I") (me_s (me_l (List.mem_of_getElem? (i := 0) rfl)))) (fun _ h => h) rfl dX12_isHolder_6 ?_
    refine lv_icmp_ge (tgt := 16) hx hb dX12_isHolder_9 (by decide) (fun c7 => ?_) (fun c7 => ?_)
    · have g8 := z_f_ge rfl rfl c7
      refine lv_iconst (v := 0) hx hb dX12_isHolder_16 (by decide) ?_
      exact z_zret hx hb hr (by decide) hK hS (Nat.le_of_ble_eq_true rfl) (Nat.le_of_ble_eq_true rfl) hlocks dX12_isHolder_17 (shM, ad, I, J, PM ad) hW ⟨rfl, (Or.inr ⟨rfl, by omega⟩)⟩
    · have g9 := z_f_nge rfl rfl c7
      refine lv_iconst (v := 1) hx hb dX12_isHolder_12 (by decide) ?_
      refine lv_goto (tgt := 17) hx hb dX12_isHolder_13 (by decide) ?_
      exact z_zret hx hb hr (by decide) hK hS (Nat.le_of_ble_eq_true rfl) (Nat.le_of_ble_eq_true rfl) hlocks dX12_isHolder_17 (shM, ad, I, J, PM ad) hW ⟨rfl, (Or.inl ⟨rfl, by omega⟩)⟩
noncomputable abbrev zp_F : Type := Int × Int × Int × Int
noncomputable abbrev zp_N : Type := Int × Int × Int
noncomputable abbrev zp_S : Type := Sum Nat (Nat × List zp_F × Int × Int × List zp_N)
noncomputable def zp_op (w t : Int) : Int := if w = 0 then (if t = 43 then 2 else if t = 45 then 3 else 0) else (if t = 42 then 4 else if t = 47 then 5 else 0)
noncomputable def zp_cm (t : Int) : Int := if t = 60 then 8 else if t = 62 then 9 else if t = 61 then 10 else 0
noncomputable def zp_cb (n0 s x g : Int) (N : List zp_N) : Int × List zp_N := if x < 0 then (g, N) else (n0 + N.length, N ++ [(s, x, g)])
noncomputable def zp_st (tk va : Nat → Int) (n0 : Int) : zp_S → zp_S
  | .inl f => .inl f
  | .inr (k, [], o, g, N) => .inr (k, [], o, g, N)
  | .inr (k, (w, a, x, s) :: S, o, g, N) =>
    if w = 0 ∨ w = 1 then
      if a = 0 then .inr (k, (w + 1, 0, -1, 0) :: (w, 1, x, s) :: S, o, g, N)
      else if 0 < zp_op w (tk k) then .inr (k + 1, (w + 1, 0, -1, 0) :: (w, a, (zp_cb n0 s x g N).1, zp_op w (tk k)) :: S, o, g, (zp_cb n0 s x g N).2)
      else .inr (k, S, o, (zp_cb n0 s x g N).1, (zp_cb n0 s x g N).2)
    else if w = 2 then
      if a = 0 then
        if tk k = 400 then .inr (k + 1, S, o, n0 + N.length, N ++ [(0, va k, 0)])
        else if tk k = 40 then (if o = 9 then .inl k else .inr (k + 1, (0, 0, -1, 0) :: (2, 1, x, s) :: S, o + 1, g, N))
        else if tk k = 312 ∨ tk k = 313 then
          (if o = 9 then .inl k else if tk (k + 1) = 40 then .inr (k + 2, (0, 0, -1, 0) :: (2, 2, x, tk k - 306) :: S, o + 1, g, N) else .inl (k + 1))
        else if 314 ≤ tk k ∧ tk k ≤ 320 then .inr (k + 1, S, o, n0 + N.length, N ++ [(1, tk k - 314, 0)])
        else .inl k
      else if a = 2 then (if tk k = 44 then .inr (k + 1, (0, 0, -1, 0) :: (2, 3, g, s) :: S, o, g, N) else .inl k)
      else if tk k = 41 then (if a = 1 then .inr (k + 1, S, o - 1, g, N) else .inr (k + 1, S, o - 1, n0 + N.length, N ++ [(s, x, g)]))
      else .inl k
    else if w = 3 ∨ w = 4 then
      if a = 0 then .inr (k, (w + 1, 0, -1, 0) :: (w, 1, x, s) :: S, o, g, N)
      else if tk k = 306 + w then .inr (k + 1, (w + 1, 0, -1, 0) :: (w, a, (zp_cb n0 (16 - w) x g N).1, s) :: S, o, g, (zp_cb n0 (16 - w) x g N).2)
      else .inr (k, S, o, (zp_cb n0 (16 - w) x g N).1, (zp_cb n0 (16 - w) x g N).2)
    else
      if a = 0 then
        if tk k = 311 then (if o = 9 then .inl k else .inr (k + 1, (5, 0, -1, 0) :: (5, 1, x, s) :: S, o + 1, g, N))
        else if tk k = 123 then (if o = 9 then .inl k else .inr (k + 1, (3, 0, -1, 0) :: (5, 2, x, s) :: S, o + 1, g, N))
        else .inr (k, (0, 0, -1, 0) :: (5, 3, x, s) :: S, o, g, N)
      else if a = 1 then .inr (k, S, o - 1, n0 + N.length, N ++ [(11, g, 0)])
      else if a = 2 then (if tk k = 125 then .inr (k + 1, S, o - 1, g, N) else .inl k)
      else if a = 3 then (if 0 < zp_cm (tk k) then .inr (k + 1, (0, 0, -1, 0) :: (5, 4, g, zp_cm (tk k)) :: S, o, g, N) else .inl k)
      else .inr (k, S, o, n0 + N.length, N ++ [(s, x, g)])
noncomputable def zp_it (tk va : Nat → Int) (n0 : Int) : Nat → zp_S → zp_S
  | 0, a => a
  | n + 1, a => zp_it tk va n0 n (zp_st tk va n0 a)
noncomputable def zp_R (tk va : Nat → Int) (n0 : Int) (a b : zp_S) : Prop := ∃ n, zp_it tk va n0 n a = b
section ZP
variable {tk va : Nat → Int} {n0 : Int}
theorem zp_R.rf {a : zp_S} : zp_R tk va n0 a a := ⟨0, rfl⟩
end ZP
noncomputable def zp_en (n : zp_N) : Int := if n.1 = 0 then n.2.1 else if n.1 = 1 then -20 - n.2.1 else if n.1 = 12 then -10 else if n.1 = 13 then -11 else if n.1 = 11 then -12 else 1 - n.1
noncomputable def zp_ok (tk va : Nat → Int) (w d : Int) (k k1 : Nat) (cs : List Int) : Prop := ∀ (n0 : Int) (S : List zp_F) (g : Int) (N : List zp_N), 0 ≤ n0 → ∃ (sg : List zp_N) (g1 : Int), sg.map zp_en = cs ∧ 0 ≤ g1 ∧ zp_R tk va n0 (.inr (k, (w, 0, -1, 0) :: S, d, g, N)) (.inr (k1, S, d, g1, N ++ sg))
noncomputable def zp_no (tk va : Nat → Int) (w d : Int) (k f : Nat) : Prop := ∀ (n0 : Int) (S : List zp_F) (g : Int) (N : List zp_N), 0 ≤ n0 → zp_R tk va n0 (.inr (k, (w, 0, -1, 0) :: S, d, g, N)) (.inl f)
section ZQ
variable {tk va : Nat → Int} {w d c e : Int} {k k1 k2 f : Nat} {cs cs2 : List Int}
end ZQ

noncomputable abbrev zp_Y : Type := List (Int × Bool)
noncomputable def zp_y1 (i : Int) (n : zp_N) (st : zp_Y) : Option zp_Y :=
  if (n.1 = 0 ∧ 0 ≤ n.2.1 ∧ n.2.1 ≤ 999999) ∨ (n.1 = 1 ∧ 0 ≤ n.2.1 ∧ n.2.1 ≤ 6) then (if st.length ≤ 40 then some ((i, false) :: st) else none)
  else if n.1 = 11 then (match st with
    | (x, t) :: r => if n.2.1 = x ∧ t = true then some ((i, true) :: r) else none
    | [] => none)
  else (match st with
    | (y, t2) :: (x, t1) :: r => if n.2.1 = x ∧ n.2.2 = y ∧ 2 ≤ n.1 ∧ n.1 ≤ 13 ∧ (n.1 < 12 ∨ (t1 = true ∧ t2 = true)) then some ((i, decide (8 ≤ n.1)) :: r) else none
    | _ => none)
noncomputable def zp_sy : Int → List zp_N → zp_Y → Option zp_Y
  | _, [], st => some st
  | i, n :: N, st => (zp_y1 i n st).bind (fun s1 => zp_sy (i + 1) N s1)
section ZV
variable {n0 w0 w a x s o g : Int} {N0 N sg : List zp_N} {S : List zp_F} {st r : zp_Y} {k : Nat} {t t2 : Bool}
end ZV
section ZX
variable {tk va : Nat → Int} {n0 w0 w a x s o g : Int} {N0 N sg : List zp_N} {S : List zp_F} {st r : zp_Y} {k k1 : Nat}
end ZX

noncomputable def zp_h (v : Int) : Int := if 1000000000 < v then 1000000000 else if v < -1000000000 then -1000000000 else v
noncomputable def zp_vl (A : Int → Int) (n : zp_N) (a b : Int) : Int := zp_h (
  if n.1 = 0 then n.2.1 else if n.1 = 1 then A n.2.1 else if n.1 = 2 then a + b else if n.1 = 3 then a - b else if n.1 = 4 then a * b
  else if n.1 = 5 then (if b = 0 then 0 else a.tdiv b) else if n.1 = 6 then (if a < b then a else b) else if n.1 = 7 then (if b < a then a else b)
  else if n.1 = 8 then (if a < b then 1 else 0) else if n.1 = 9 then (if b < a then 1 else 0) else if n.1 = 10 then (if a = b then 1 else 0)
  else if n.1 = 11 then (if a = 0 then 1 else 0) else if n.1 = 12 then (if a ≠ 0 ∧ b ≠ 0 then 1 else 0) else (if a ≠ 0 ∨ b ≠ 0 then 1 else 0))
noncomputable def zp_jn (c a b : Int) : Int := zp_h (
  if c = -1 then a + b else if c = -2 then a - b else if c = -3 then a * b else if c = -4 then (if b = 0 then 0 else a.tdiv b)
  else if c = -5 then (if a < b then a else b) else if c = -6 then (if b < a then a else b) else if c = -7 then (if a < b then 1 else 0)
  else if c = -8 then (if b < a then 1 else 0) else if c = -9 then (if a = b then 1 else 0)
  else if c = -10 then (Int32.ofInt a &&& Int32.ofInt b).toInt else (Int32.ofInt a ||| Int32.ofInt b).toInt)
noncomputable def zp_e1 (F : List Int → Int) : List Int → Int
  | [] => 0
  | x :: r => F ((1 - x) :: r)
noncomputable def zp_e2 (c : Int) (F : List Int → Int) : List Int → Int
  | b :: a :: r => F (zp_jn c a b :: r)
  | _ => 0
noncomputable def zp_ev (A : Int → Int) (cd : Nat → Int) : Nat → Nat → List Int → Int
  | 0, _, st => if st.length = 1 then st.headD 0 else 0
  | f + 1, p, st =>
    if cd p = -13 then (if st.length = 1 then st.headD 0 else 0)
    else if 0 ≤ cd p ∨ cd p ≤ -20 then (if 64 ≤ st.length then 0 else zp_ev A cd f (p + 1) ((if 0 ≤ cd p then cd p else A (-20 - cd p)) :: st))
    else if cd p = -12 then zp_e1 (zp_ev A cd f (p + 1)) st
    else zp_e2 (cd p) (zp_ev A cd f (p + 1)) st
noncomputable def zp_cd (cd : Nat → Int) : Nat → List Int → Prop
  | _, [] => True
  | p, c :: cs => cd p = c ∧ zp_cd cd (p + 1) cs
noncomputable def zp_RV (A R : Int → Int) : Int → List zp_N → Prop
  | _, [] => True
  | i, n :: N => R i = zp_vl A n (R n.2.1) (R n.2.2) ∧ zp_RV A R (i + 1) N
noncomputable def zp_ty (R : Int → Int) : zp_Y → Prop
  | [] => True
  | (j, t) :: r => (t = true → R j = 0 ∨ R j = 1) ∧ zp_ty R r
noncomputable def zp_vs (R : Int → Int) (st : zp_Y) : List Int := st.map (fun q => R q.1)
theorem zp_h_b (v : Int) : -1000000000 ≤ zp_h v ∧ zp_h v ≤ 1000000000 := by
  unfold zp_h
  repeat' split
  all_goals omega
theorem zp_h_i {v : Int} (h : -1000000000 ≤ v ∧ v ≤ 1000000000) : zp_h v = v := by
  unfold zp_h
  rw [if_neg (by omega), if_neg (by omega)]
theorem zp_h_01 {p : Prop} [Decidable p] : zp_h (if p then 1 else 0) = if p then 1 else 0 := by
  split <;> rfl
section ZE
variable {A R : Int → Int} {cd : Nat → Int} {f p : Nat} {st : List Int} {i x y : Int}
theorem zp_ev_end (h : cd p = -13) : zp_ev A cd (f + 1) p st = if st.length = 1 then st.headD 0 else 0 := by
  rw [zp_ev, if_pos h]
theorem zp_ev_num {v : Int} (h : cd p = v) (hv : 0 ≤ v) (hl : st.length < 64) : zp_ev A cd (f + 1) p st = zp_ev A cd f (p + 1) (v :: st) := by
  rw [zp_ev, if_neg (by omega), if_pos (Or.inl (by omega)), if_neg (by omega), if_pos (by omega), h]
theorem zp_ev_nam {v : Int} (h : cd p = -20 - v) (hv : 0 ≤ v) (hl : st.length < 64) : zp_ev A cd (f + 1) p st = zp_ev A cd f (p + 1) (A v :: st) := by
  rw [zp_ev, if_neg (by omega), if_pos (Or.inr (by omega)), if_neg (by omega), if_neg (by omega), h, show -20 - (-20 - v) = v by omega]
theorem zp_ev_not (h : cd p = -12) : zp_ev A cd (f + 1) p (x :: st) = zp_ev A cd f (p + 1) ((1 - x) :: st) := by
  rw [zp_ev, if_neg (by omega), if_neg (by omega), if_pos h]
  rfl
theorem zp_ev_bin {c : Int} (h : cd p = c) (hc : -11 ≤ c ∧ c ≤ -1) : zp_ev A cd (f + 1) p (y :: x :: st) = zp_ev A cd f (p + 1) (zp_jn c x y :: st) := by
  rw [zp_ev, if_neg (by omega), if_neg (by omega), if_neg (by omega), h]
  rfl
theorem zp_and {a b : Int} (ha : a = 0 ∨ a = 1) (hb : b = 0 ∨ b = 1) : (Int32.ofInt a &&& Int32.ofInt b).toInt = if a ≠ 0 ∧ b ≠ 0 then 1 else 0 := by
  rcases ha with rfl | rfl <;> rcases hb with rfl | rfl <;> decide
theorem zp_or {a b : Int} (ha : a = 0 ∨ a = 1) (hb : b = 0 ∨ b = 1) : (Int32.ofInt a ||| Int32.ofInt b).toInt = if a ≠ 0 ∨ b ≠ 0 then 1 else 0 := by
  rcases ha with rfl | rfl <;> rcases hb with rfl | rfl <;> decide
theorem zp_jn_vl {n : zp_N} {a b : Int} (h2 : 2 ≤ n.1) (h13 : n.1 ≤ 13) (h11 : n.1 ≠ 11) (hb : n.1 < 12 ∨ ((a = 0 ∨ a = 1) ∧ (b = 0 ∨ b = 1))) : zp_jn (zp_en n) a b = zp_vl A n a b := by
  obtain ⟨kd, x, y⟩ := n
  have h2 : 2 ≤ kd := h2
  have h13 : kd ≤ 13 := h13
  have h11 : kd ≠ 11 := h11
  have hb : kd < 12 ∨ ((a = 0 ∨ a = 1) ∧ (b = 0 ∨ b = 1)) := hb
  have hk : kd = 2 ∨ kd = 3 ∨ kd = 4 ∨ kd = 5 ∨ kd = 6 ∨ kd = 7 ∨ kd = 8 ∨ kd = 9 ∨ kd = 10 ∨ kd = 12 ∨ kd = 13 := by omega
  rcases hk with rfl | rfl | rfl | rfl | rfl | rfl | rfl | rfl | rfl | rfl | rfl
  · rfl
  · rfl
  · rfl
  · rfl
  · rfl
  · rfl
  · rfl
  · rfl
  · rfl
  · have q := hb.resolve_left (by decide)
    have e := zp_and q.1 q.2
    show zp_h ((Int32.ofInt a &&& Int32.ofInt b).toInt) = zp_h (if a ≠ 0 ∧ b ≠ 0 then 1 else 0)
    rw [e]
  · have q := hb.resolve_left (by decide)
    have e := zp_or q.1 q.2
    show zp_h ((Int32.ofInt a ||| Int32.ofInt b).toInt) = zp_h (if a ≠ 0 ∨ b ≠ 0 then 1 else 0)
    rw [e]
theorem zp_en_b {n : zp_N} (h2 : 2 ≤ n.1) (h13 : n.1 ≤ 13) (h11 : n.1 ≠ 11) : -11 ≤ zp_en n ∧ zp_en n ≤ -1 := by
  unfold zp_en
  rw [if_neg (by omega), if_neg (by omega)]
  repeat' split
  all_goals omega
theorem zp_vl_01 {n : zp_N} {a b : Int} (h8 : 8 ≤ n.1) : zp_vl A n a b = 0 ∨ zp_vl A n a b = 1 := by
  unfold zp_vl
  rw [if_neg (by omega), if_neg (by omega), if_neg (by omega), if_neg (by omega), if_neg (by omega), if_neg (by omega), if_neg (by omega), if_neg (by omega)]
  repeat' split
  all_goals first | exact Or.inl rfl | exact Or.inr rfl
theorem zp_ev_1 {n : zp_N} {s s1 : zp_Y} (hA : ∀ j, 0 ≤ j → j ≤ 6 → -1000000000 ≤ A j ∧ A j ≤ 1000000000) (hs : zp_y1 i n s = some s1) (hc : cd p = zp_en n) (hR : R i = zp_vl A n (R n.2.1) (R n.2.2)) (ht : zp_ty R s) : zp_ev A cd (f + 1) p (zp_vs R s) = zp_ev A cd f (p + 1) (zp_vs R s1) ∧ zp_ty R s1 := by
  obtain ⟨kd, a, b⟩ := n
  unfold zp_y1 at hs
  by_cases q1 : (kd = 0 ∧ 0 ≤ a ∧ a ≤ 999999) ∨ (kd = 1 ∧ 0 ≤ a ∧ a ≤ 6)
  · rw [if_pos q1] at hs
    by_cases q2 : s.length ≤ 40
    · rw [if_pos q2] at hs
      have e := Option.some.inj hs
      subst e
      have hl : (zp_vs R s).length < 64 := by
        rw [zp_vs, List.length_map]
        omega
      refine ⟨?_, (fun z => by cases z), ht⟩
      rcases q1 with ⟨rfl, q3, q4⟩ | ⟨rfl, q3, q4⟩
      · have e : R i = a := by
          rw [hR]
          exact zp_h_i (by show -1000000000 ≤ a ∧ a ≤ 1000000000; omega)
        rw [zp_ev_num hc q3 hl]
        show _ = zp_ev A cd f (p + 1) (R i :: zp_vs R s)
        rw [e]
        rfl
      · have e : R i = A a := by
          rw [hR]
          exact zp_h_i (hA a q3 q4)
        rw [zp_ev_nam hc q3 hl]
        show _ = zp_ev A cd f (p + 1) (R i :: zp_vs R s)
        rw [e]
    · rw [if_neg q2] at hs
      cases hs
  · rw [if_neg q1] at hs
    by_cases q2 : kd = 11
    · subst q2
      rw [if_pos rfl] at hs
      match s, hs, ht with
      | (x, t) :: r, hs, ht =>
        have hs : (if a = x ∧ t = true then some ((i, true) :: r) else none) = some s1 := hs
        by_cases q3 : a = x ∧ t = true
        · rw [if_pos q3] at hs
          have e := Option.some.inj hs
          subst e
          have hx := ht.1 q3.2
          have e : R i = if R x = 0 then 1 else 0 := by
            rw [hR, ← q3.1]
            exact zp_h_01
          have e2 : R i = 1 - R x := by
            rw [e]
            rcases hx with z | z <;> rw [z] <;> rfl
          refine ⟨?_, fun _ => by omega, ht.2⟩
          show zp_ev A cd (f + 1) p (R x :: zp_vs R r) = zp_ev A cd f (p + 1) (R i :: zp_vs R r)
          rw [zp_ev_not hc, e2]
        · rw [if_neg q3] at hs
          cases hs
    · rw [if_neg q2] at hs
      match s, hs, ht with
      | (y, t2) :: (x, t1) :: r, hs, ht =>
        have hs : (if a = x ∧ b = y ∧ 2 ≤ kd ∧ kd ≤ 13 ∧ (kd < 12 ∨ (t1 = true ∧ t2 = true)) then some ((i, decide (8 ≤ kd)) :: r) else none) = some s1 := hs
        by_cases q3 : a = x ∧ b = y ∧ 2 ≤ kd ∧ kd ≤ 13 ∧ (kd < 12 ∨ (t1 = true ∧ t2 = true))
        · rw [if_pos q3] at hs
          have e := Option.some.inj hs
          subst e
          obtain ⟨rfl, rfl, k2, k13, kb⟩ := q3
          have e : zp_jn (zp_en (kd, a, b)) (R a) (R b) = R i := by
            rw [hR]
            exact zp_jn_vl k2 k13 q2 (kb.elim Or.inl (fun z => Or.inr ⟨ht.2.1 z.1, ht.1 z.2⟩))
          refine ⟨?_, fun z => ?_, ht.2.2⟩
          · show zp_ev A cd (f + 1) p (R b :: R a :: zp_vs R r) = zp_ev A cd f (p + 1) (R i :: zp_vs R r)
            rw [zp_ev_bin hc (zp_en_b k2 k13 q2), e]
          · rw [hR]
            exact zp_vl_01 (of_decide_eq_true z)
        · rw [if_neg q3] at hs
          cases hs
theorem zp_ev_all (hA : ∀ j, 0 ≤ j → j ≤ 6 → -1000000000 ≤ A j ∧ A j ≤ 1000000000) : ∀ (sg : List zp_N) (i : Int) (p f : Nat) (s s1 : zp_Y), zp_sy i sg s = some s1 → zp_cd cd p (sg.map zp_en) → zp_RV A R i sg → zp_ty R s → zp_ev A cd (sg.length + f) p (zp_vs R s) = zp_ev A cd f (p + sg.length) (zp_vs R s1) ∧ zp_ty R s1
  | [], i, p, f, s, s1, hs, _, _, ht => by
    have e := Option.some.inj hs
    subst e
    rw [List.length_nil, Nat.zero_add]
    exact ⟨rfl, ht⟩
  | n :: sg, i, p, f, s, s1, hs, hc, hR, ht => by
    have hs : (zp_y1 i n s).bind (fun s1 => zp_sy (i + 1) sg s1) = some s1 := hs
    cases h1 : zp_y1 i n s with
    | none =>
      rw [h1] at hs
      cases hs
    | some s2 =>
      rw [h1] at hs
      have hs : zp_sy (i + 1) sg s2 = some s1 := hs
      obtain ⟨e1, t1⟩ := zp_ev_1 (f := sg.length + f) hA h1 hc.1 hR.1 ht
      obtain ⟨e2, t2⟩ := zp_ev_all hA sg (i + 1) (p + 1) f s2 s1 hs hc.2 hR.2 t1
      have q1 : (n :: sg).length + f = sg.length + f + 1 := by
        rw [List.length_cons]
        omega
      have q2 : p + (n :: sg).length = p + 1 + sg.length := by
        rw [List.length_cons]
        omega
      rw [q1, q2, e1]
      exact ⟨e2, t2⟩
theorem zp_ev_fin (hA : ∀ j, 0 ≤ j → j ≤ 6 → -1000000000 ≤ A j ∧ A j ≤ 1000000000) {sg : List zp_N} {g : Int} {t : Bool} {len : Nat} (hs : zp_sy i sg [] = some [(g, t)]) (hc : zp_cd cd p (sg.map zp_en)) (hR : zp_RV A R i sg) (he : cd (p + sg.length) = -13) (hl : p + sg.length < len) : zp_ev A cd (len - p) p [] = R g ∧ (t = true → R g = 0 ∨ R g = 1) := by
  obtain ⟨f, hf⟩ : ∃ f, len - p = sg.length + (f + 1) := ⟨len - p - sg.length - 1, by omega⟩
  obtain ⟨e1, t1⟩ := zp_ev_all hA sg i p (f + 1) [] _ hs hc hR trivial
  refine ⟨?_, t1.1⟩
  rw [hf]
  have e1 : zp_ev A cd (sg.length + (f + 1)) p [] = zp_ev A cd (f + 1) (p + sg.length) [R g] := e1
  rw [e1, zp_ev_end he]
  rfl
end ZE

noncomputable abbrev zp_T : Type := Int × Int × List Int × List Int
noncomputable def zp_sm (tk va : Nat → Int) (k k1 : Nat) (s : zp_T) : Prop := s.1 = tk k ∧
  (((s.1 = 300 ∨ s.1 = 301) ∧ ∃ k2, zp_ok tk va 0 0 (k + 1) k2 s.2.2.1 ∧ ((tk k2 = 308 ∧ zp_ok tk va 3 0 (k2 + 1) k1 s.2.2.2 ∧ s.2.2.2 ≠ []) ∨ (tk k2 ≠ 308 ∧ k1 = k2 ∧ s.2.2.2 = []))) ∨
   (s.1 = 302 ∧ s.2.2.1 = [] ∧ zp_ok tk va 3 0 (k + 1) k1 s.2.2.2 ∧ s.2.2.2 ≠ []) ∨
   (303 ≤ s.1 ∧ s.1 ≤ 307 ∧ s.2.2.1 = [] ∧ s.2.2.2 = [] ∧ tk (k + 1) = 400 ∧ (s.1 = 303 → 1 ≤ va (k + 1)) ∧ s.2.1 = va (k + 1) ∧ k1 = k + 2))
noncomputable def zp_sn (tk va : Nat → Int) (k f : Nat) : Prop :=
  ((tk k = 300 ∨ tk k = 301) ∧ (zp_no tk va 0 0 (k + 1) f ∨ ∃ k2 ce, zp_ok tk va 0 0 (k + 1) k2 ce ∧ tk k2 = 308 ∧ zp_no tk va 3 0 (k2 + 1) f)) ∨
  (tk k = 302 ∧ zp_no tk va 3 0 (k + 1) f) ∨
  (303 ≤ tk k ∧ tk k ≤ 307 ∧ (tk (k + 1) ≠ 400 ∨ (tk k = 303 ∧ va (k + 1) < 1)) ∧ f = k + 1) ∨
  (¬ (300 ≤ tk k ∧ tk k ≤ 307) ∧ f = k)
noncomputable def zp_ts (tk va : Nat → Int) : Nat → List zp_T → Nat → Prop
  | k, [], ke => ke = k
  | k, s :: ss, ke => ∃ k1, zp_sm tk va k k1 s ∧ tk k1 = 59 ∧ zp_ts tk va (k1 + 1) ss ke


theorem zp_cd_ap {h : Nat → Int} : ∀ (a b : List Int) (p : Nat), zp_cd h p (a ++ b) ↔ zp_cd h p a ∧ zp_cd h (p + a.length) b
  | [], b, p => by simp [zp_cd]
  | x :: a, b, p => by
    have e : p + (x :: a).length = p + 1 + a.length := by
      rw [List.length_cons]
      omega
    rw [e]
    show (h p = x ∧ zp_cd h (p + 1) (a ++ b)) ↔ (h p = x ∧ zp_cd h (p + 1) a) ∧ _
    rw [zp_cd_ap a b (p + 1), and_assoc]


theorem zp_cd_of {h : Nat → Int} : ∀ (l : List Int) (p : Nat), (∀ j, j < l.length → h (p + j) = l.getD j 0) → zp_cd h p l
  | [], _, _ => trivial
  | c :: l, p, hl => ⟨hl 0 (by rw [List.length_cons]; omega), zp_cd_of l (p + 1) (fun j hj => by
    have := hl (j + 1) (by rw [List.length_cons]; omega)
    rw [List.getD_cons_succ] at this
    rw [← this]
    congr 1
    omega)⟩


set_option maxHeartbeats 8000000 in
set_option maxRecDepth 100000 in
theorem sx_X11_isMonth_e (l : Launch) (G : z_G) (ad : Nat → Nat) (c : z_C) (I : z_I) (a1 : Int32) : z_M l yX11_isMonth wsX11_isMonth { frames := 2, cells := 0, slots := 0, locals := 34 } [.int a1] G (shC c, ad, I, JX, PC c ad) (fun r u1 => u1 = (shC c, ad, I, JX, PC c ad) ∧ ((r = 1 ∧ 0 ≤ a1.toInt ∧ a1.toInt ≤ 23) ∨ (r = 0 ∧ ¬ (0 ≤ a1.toInt ∧ a1.toInt ≤ 23)))) 0 0 := by
  intro sz
  refine z_headQ (cc := cX11_isMonth) (maxL := 1) (ret := (some .boolean)) (by decide) rfl (Nat.le_of_ble_eq_true rfl) ?_
  intro p e s m below meth c0 ls hIn hK hsz hW hl
  obtain ⟨hx, hb, hr, hml, hown, hts, hlocks, hname⟩ := hIn
  subst hsz
  have hown : s.vm.findClass RX11 = some m.cls := hown
  have hA : ∀ q : Nat, s.heap.size ≤ q → z_A (shC c, ad, I, JX, PC c ad) s.heap.size q := fun q h => Or.inr h
  generalize hAe : z_A (shC c, ad, I, JX, PC c ad) s.heap.size = A at *
  have hS : va_S A s.heap s.heap [] := va_S.rf
  have hl : lv_has ls 1 [(0, .int a1)] := hl
  refine lv_iload_n hx hb dX11_isMonth_0 rfl (lv_at hl 0 rfl) ?_
  refine lv_iconst (v := 0) hx hb dX11_isMonth_1 (by decide) ?_
  refine lv_bipush (v := 23) hx hb dX11_isMonth_2 (by decide) ?_
  refine z_ci hW hS hA (va_runS (As := [.int a1, .int 0, .int 23]) (rest := []) ⟨hx, hb, hml, hown, hts⟩ (sx_X11_within_e l G ad c I  a1 0 23 _) (va_cwS 3 hts gX11_isMonth_X11_within rfl rfl rfl (by decide +kernel) ⟨Nat.le_of_ble_eq_true rfl, Nat.le_of_ble_eq_true rfl⟩) (z_preS hK hW) rfl rfl hl.1 rfl (lv_room (Nat.le_of_ble_eq_true rfl)) dX11_isMonth_4 ⟨Nat.le_of_ble_eq_true rfl, Nat.le_of_ble_eq_true rfl⟩) (fun r u1 H locs hp hW hS => ?_)
  obtain ⟨e9, hp⟩ := hp
  rw [e9] at hW
  rcases hp with ⟨rfl, h1⟩ | ⟨rfl, h1⟩
  · have h2 := h1
    have z3 := z_l0
    have z4 := z_l23
    exact z_zret hx hb hr (by decide) hK hS (Nat.le_of_ble_eq_true rfl) (Nat.le_of_ble_eq_true rfl) hlocks dX11_isMonth_7 (shC c, ad, I, JX, PC c ad) hW ⟨rfl, (Or.inl ⟨rfl, by omega⟩)⟩
  · have h5 := h1
    have z6 := z_l0
    have z7 := z_l23
    exact z_zret hx hb hr (by decide) hK hS (Nat.le_of_ble_eq_true rfl) (Nat.le_of_ble_eq_true rfl) hlocks dX11_isMonth_7 (shC c, ad, I, JX, PC c ad) hW ⟨rfl, (Or.inr ⟨rfl, by omega⟩)⟩


noncomputable def zm_Q (I : z_I) : Nat → List zp_N → Prop
  | _, [] => True
  | i, (kd, a, b) :: N => (I 21 i).toInt = kd ∧ (I 22 i).toInt = a ∧ (I 23 i).toInt = b ∧ zm_Q I (i + 1) N
noncomputable def zm_O (gI I : z_I) (n0 : Nat) : Prop := ∀ j, j < n0 → I 21 j = gI 21 j ∧ I 22 j = gI 22 j ∧ I 23 j = gI 23 j
theorem zm_Q_c {I K : z_I} : ∀ (N : List zp_N) (i : Nat), (∀ j, i ≤ j → j < i + N.length → K 21 j = I 21 j ∧ K 22 j = I 22 j ∧ K 23 j = I 23 j) → zm_Q I i N → zm_Q K i N
  | [], _, _, _ => trivial
  | (kd, a, b) :: N, i, hc, h => by
    rw [List.length_cons] at hc
    obtain ⟨c1, c2, c3⟩ := hc i (by omega) (by omega)
    exact ⟨by rw [c1]; exact h.1, by rw [c2]; exact h.2.1, by rw [c3]; exact h.2.2.1, zm_Q_c N (i + 1) (fun j p q => hc j (by omega) (by omega)) h.2.2.2⟩
theorem zm_Q_ap {I : z_I} : ∀ (N M : List zp_N) (i : Nat), zm_Q I i (N ++ M) ↔ zm_Q I i N ∧ zm_Q I (i + N.length) M
  | [], M, i => by simp [zm_Q]
  | (kd, a, b) :: N, M, i => by
    have e : i + ((kd, a, b) :: N).length = i + 1 + N.length := by
      rw [List.length_cons]
      omega
    rw [e]
    show ((I 21 i).toInt = kd ∧ (I 22 i).toInt = a ∧ (I 23 i).toInt = b ∧ zm_Q I (i + 1) (N ++ M)) ↔ ((I 21 i).toInt = kd ∧ (I 22 i).toInt = a ∧ (I 23 i).toInt = b ∧ zm_Q I (i + 1) N) ∧ _
    rw [zm_Q_ap N M (i + 1)]
    constructor
    · rintro ⟨a1, a2, a3, a4, a5⟩
      exact ⟨⟨a1, a2, a3, a4⟩, a5⟩
    · rintro ⟨⟨a1, a2, a3, a4⟩, a5⟩
      exact ⟨a1, a2, a3, a4, a5⟩
section ZME
variable {{gt gv : Nat → Int}} {{gp ge : Nat → Nat}} {{gh : Nat → Int}} {{gm n0 : Nat}} {gI I I1 K : z_I} {J J1 : z_J} {k f : Nat} {S : List zp_F} {w a x s o g : Int} {N : List zp_N}
end ZME


section ZMP
variable {{gt gv : Nat → Int}} {{gp ge : Nat → Nat}} {{gh : Nat → Int}} {{gm n0 : Nat}} {{gI : z_I}} {I I1 I2 K : z_I} {J J1 : z_J} {k f tq : Nat} {S FS : List zp_F} {w a x s o g fo fg : Int} {N NN : List zp_N}
noncomputable def zm_rw (K : z_I) (F0 i : Nat) (s : zp_T) (sg1 sg2 : List zp_N) : Prop := (K 15 i).toInt = s.1 - 300 ∧ (303 ≤ s.1 → (K 16 i).toInt = s.2.1) ∧ (K 19 i).toInt = (F0 : Int) ∧ (K 20 i).toInt = (F0 : Int) + (sg1.length : Int) + (sg2.length : Int) ∧ sg1.map zp_en = s.2.2.1 ∧ sg2.map zp_en = s.2.2.2 ∧ (s.1 ≤ 301 → ∃ t, zp_sy F0 sg1 [] = some [((K 17 i).toInt, t)]) ∧ (s.2.2.2 = [] → (K 18 i).toInt = -1) ∧ (s.2.2.2 ≠ [] → zp_sy ((F0 : Int) + (sg1.length : Int)) sg2 [] = some [((K 18 i).toInt, true)])
section ZSR
variable {i k9 k8 : Nat} {o9 g9 o8 g8 : Int} {N9 N8 : List zp_N}
end ZSR
end ZMP


noncomputable def zm_F (gt gv : Nat → Int) (ss : List zp_T) (ke ff : Nat) : Prop := gt ke ≠ 401 ∧ ((ss.length = 24 ∧ ff = ke) ∨ (ss.length < 24 ∧ (zp_sn gt gv ke ff ∨ ∃ k1 s, zp_sm gt gv ke k1 s ∧ gt k1 ≠ 59 ∧ ff = k1)))
noncomputable abbrev zm_row : Type := zp_T × List zp_N × List zp_N
noncomputable def zm_fl : List zm_row → List zp_N
  | [] => []
  | (_, a, b) :: rs => a ++ (b ++ zm_fl rs)
noncomputable def zm_q6 (K I : z_I) (j : Nat) : Prop := K 15 j = I 15 j ∧ K 16 j = I 16 j ∧ K 17 j = I 17 j ∧ K 18 j = I 18 j ∧ K 19 j = I 19 j ∧ K 20 j = I 20 j
theorem zm_rw_c {I K : z_I} {F0 i : Nat} {s : zp_T} {a b : List zp_N} (hc : zm_q6 K I i) (h : zm_rw I F0 i s a b) : zm_rw K F0 i s a b := by
  obtain ⟨c1, c2, c3, c4, c5, c6⟩ := hc
  unfold zm_rw
  rw [c1, c2, c3, c4, c5, c6]
  exact h
noncomputable def zm_RS (K : z_I) : Nat → Nat → List zm_row → Prop
  | _, _, [] => True
  | i, F0, (s, a, b) :: rs => zm_rw K F0 i s a b ∧ zm_RS K (i + 1) (F0 + a.length + b.length) rs
theorem zm_RS_c {I K : z_I} : ∀ (rs : List zm_row) (i F0 : Nat), (∀ j, i ≤ j → j < i + rs.length → zm_q6 K I j) → zm_RS I i F0 rs → zm_RS K i F0 rs
  | [], _, _, _, _ => trivial
  | (s, a, b) :: rs, i, F0, hc, h => by
    rw [List.length_cons] at hc
    exact ⟨zm_rw_c (hc i (by omega) (by omega)) h.1, zm_RS_c rs (i + 1) _ (fun j p q => hc j (by omega) (by omega)) h.2⟩
section ZMO
variable {{gt gv : Nat → Int}} {{gp ge : Nat → Nat}} {{gh : Nat → Int}} {{gm n0 : Nat}} {{gI : z_I}} {I I0 I1 K : z_I} {J J1 : z_J} {k ff keT ke1 st0 : Nat} {S FS FS8 : List zp_F} {o g o8 g8 : Int} {N : List zp_N} {ssT ss2 ss3 : List zp_T} {rs : List zm_row}
noncomputable def zm_ok (I : z_I) (n mo : Int) : Prop := 0 ≤ n ∧ n ≤ (I 0 31).toInt ∧ 0 ≤ mo ∧ mo ≤ 23
noncomputable def zm_tx (K I : z_I) (j : Nat) : Prop := K 11 j = I 11 j ∧ K 12 j = I 12 j ∧ K 13 j = I 13 j ∧ K 14 j = I 14 j
noncomputable def zm_PO (gt gv : Nat → Int) (gp : Nat → Nat) (I K : z_I) (J J1 : z_J) (n mo r : Int) (n0 st0 x0 : Nat) (ssT : List zp_T) (keT ff : Nat) : Prop :=
  (r = -2 ∧ ¬ zm_ok I n mo ∧ K = I ∧ J1 = J) ∨ (r = -3 ∧ zm_ok I n mo ∧ (I 0 13).toInt = 12 ∧ K = I ∧ J1 = J) ∨
  (zm_ok I n mo ∧ (I 0 13).toInt ≠ 12 ∧ (K 0 31).toInt = 0 ∧ (∀ j, j < st0 → zm_q6 K I j) ∧ zm_O I K n0 ∧
    ((r = -1 ∧ zm_F gt gv ssT keT ff ∧ (K 0 32).toInt = (gp ff : Int) ∧ (K 0 13).toInt = (x0 : Int) ∧ (K 0 14).toInt = (st0 : Int) ∧ (K 0 15).toInt = (n0 : Int) ∧ ∀ j, zm_tx K I j) ∨
     (r = (x0 : Int) ∧ gt keT = 401 ∧ (K 0 32).toInt = -1 ∧ (K 0 13).toInt = (x0 : Int) + 1 ∧ (∀ j, j ≠ x0 → zm_tx K I j) ∧ (K 11 x0).toInt = (st0 : Int) ∧ (K 12 x0).toInt = (ssT.length : Int) ∧ (K 13 x0).toInt = mo ∧ K 14 x0 = I 0 0 ∧ (K 0 14).toInt = (st0 : Int) + (ssT.length : Int) ∧ ∃ rs : List zm_row, rs.map Prod.fst = ssT ∧ zm_RS K st0 n0 rs ∧ (K 0 15).toInt = (n0 : Int) + ((zm_fl rs).length : Int) ∧ zm_Q K n0 (zm_fl rs))))
end ZMO
set_option maxHeartbeats 8000000 in
set_option maxRecDepth 100000 in
theorem sx_X12_isMonth_e (l : Launch) (G : z_G) (ad : Nat → Nat) (I : z_I) (J : z_J) (a1 : Int32) : z_M l yX12_isMonth wsX12_isMonth { frames := 1, cells := 0, slots := 0, locals := 12 } [.int a1] G (shM, ad, I, J, PM ad) (fun r u1 => u1 = (shM, ad, I, J, PM ad) ∧ ((r = 1 ∧ 0 ≤ a1.toInt ∧ a1.toInt ≤ 23) ∨ (r = 0 ∧ ¬ (0 ≤ a1.toInt ∧ a1.toInt ≤ 23)))) 0 0 := by
  intro sz
  refine z_headQ (cc := cX12_isMonth) (maxL := 1) (ret := (some .boolean)) (by decide) rfl (Nat.le_of_ble_eq_true rfl) ?_
  intro p e s m below meth c0 ls hIn hK hsz hW hl
  obtain ⟨hx, hb, hr, hml, hown, hts, hlocks, hname⟩ := hIn
  subst hsz
  have hown : s.vm.findClass RX12 = some m.cls := hown
  have hA : ∀ q : Nat, s.heap.size ≤ q → z_A (shM, ad, I, J, PM ad) s.heap.size q := fun q h => Or.inr h
  generalize hAe : z_A (shM, ad, I, J, PM ad) s.heap.size = A at *
  have hS : va_S A s.heap s.heap [] := va_S.rf
  have hl : lv_has ls 1 [(0, .int a1)] := hl
  refine lv_iload_n hx hb dX12_isMonth_0 rfl (lv_at hl 0 rfl) ?_
  refine lv_if_lt (tgt := 14) hx hb dX12_isMonth_1 (by decide) (fun c1 => ?_) (fun c1 => ?_)
  · have g2 := z_f_lt rfl z_l0 c1
    have b3 := Int32.toInt_lt a1
    refine lv_iconst (v := 0) hx hb dX12_isMonth_14 (by decide) ?_
    exact z_zret hx hb hr (by decide) hK hS (Nat.le_of_ble_eq_true rfl) (Nat.le_of_ble_eq_true rfl) hlocks dX12_isMonth_15 (shM, ad, I, J, PM ad) hW ⟨rfl, (Or.inr ⟨rfl, by omega⟩)⟩
  · have g4 := z_f_nlt rfl z_l0 c1
    have b5 := Int32.toInt_lt a1
    refine lv_iload_n hx hb dX12_isMonth_4 rfl (lv_at hl 0 rfl) ?_
    refine lv_bipush (v := 23) hx hb dX12_isMonth_5 (by decide) ?_
    refine lv_icmp_gt (tgt := 14) hx hb dX12_isMonth_7 (by decide) (fun c6 => ?_) (fun c6 => ?_)
    · have g7 := z_f_gt rfl z_l23 c6
      refine lv_iconst (v := 0) hx hb dX12_isMonth_14 (by decide) ?_
      exact z_zret hx hb hr (by decide) hK hS (Nat.le_of_ble_eq_true rfl) (Nat.le_of_ble_eq_true rfl) hlocks dX12_isMonth_15 (shM, ad, I, J, PM ad) hW ⟨rfl, (Or.inr ⟨rfl, by omega⟩)⟩
    · have g8 := z_f_ngt rfl z_l23 c6
      refine lv_iconst (v := 1) hx hb dX12_isMonth_10 (by decide) ?_
      refine lv_goto (tgt := 15) hx hb dX12_isMonth_11 (by decide) ?_
      exact z_zret hx hb hr (by decide) hK hS (Nat.le_of_ble_eq_true rfl) (Nat.le_of_ble_eq_true rfl) hlocks dX12_isMonth_15 (shM, ad, I, J, PM ad) hW ⟨rfl, (Or.inl ⟨rfl, by omega⟩)⟩


noncomputable def zo_row (I : z_I) (o : Nat) (us : Int) (j : Nat) (s : zp_T) : Prop := (I (o + 1) j).toInt = s.1 ∧ (s.1 ≤ 301 → ∃ p : Nat, (I (o + 2) j).toInt = (p : Int) ∧ zp_cd (fun j => (I (o + 4) j).toInt) p (s.2.2.1 ++ [-13]) ∧ (p : Int) + (s.2.2.1.length : Int) < us) ∧ (303 ≤ s.1 → (I (o + 2) j).toInt = s.2.1) ∧ ((s.2.2.2 = [] ∧ (I (o + 3) j).toInt = -1) ∨ (s.2.2.2 ≠ [] ∧ ∃ p : Nat, (I (o + 3) j).toInt = (p : Int) ∧ zp_cd (fun j => (I (o + 4) j).toInt) p (s.2.2.2 ++ [-13]) ∧ (p : Int) + (s.2.2.2.length : Int) < us))
noncomputable def zo_new (c c1 : z_C) (I I1 : z_I) (mo : Int) (ssT : List zp_T) : Prop := c1.2.1 = c.2.1 + 1 ∧ (∀ k, k < c.2.1 → c1.2.2.1 k = c.2.2.1 k ∧ c1.2.2.2 k = c.2.2.2 k) ∧ c1.2.2.1 c.2.1 = ssT.length ∧ (I1 (z_o0 c) 0).toInt = mo ∧ I1 (z_o0 c) 1 = I 0 0 ∧ ∀ (j : Nat) (s : zp_T), ssT[j]? = some s → zo_row I1 (z_o0 c) (c1.2.2.2 c.2.1 : Int) j s
section ZGO
variable {c c1 : z_C} {I I1 K K1 : z_I} {J J1 : z_J} {n mo r r1 : Int} {a : Int32}
noncomputable def zo_ln (c c1 : z_C) (I K I1 : z_I) (n mo r : Int) (gt gv : Nat → Int) (gp : Nat → Nat) (ssT : List zp_T) (keT ff : Nat) : Prop := (r = -2 ∧ ¬ zm_ok K n mo ∧ I1 = I ∧ c1 = c) ∨ (r = -3 ∧ zm_ok K n mo ∧ (K 0 13).toInt = 12 ∧ I1 = I ∧ c1 = c) ∨
  (zm_ok K n mo ∧ (K 0 13).toInt ≠ 12 ∧ (I1 12 1).toInt = 0 ∧ (∀ a k, 200 ≤ a → a < z_o0 c → I1 a k = I a k) ∧ ((r = -1 ∧ c1 = c ∧ gt keT ≠ 401 ∧ (I1 0 1).toInt = (gp ff : Int)) ∨ (r = (c.2.1 : Int) ∧ zo_new c c1 I I1 mo ssT ∧ gt keT = 401 ∧ (I1 0 1).toInt = -1)))
end ZGO
end SG60f5
section SG60g


/-! which CLASS the NOTES tell: both sides' ways, as functions of the rows -/
theorem z_wr_d {L : z_L} {c k : Nat} (hc : c < 100) (hL : L.all (fun e => e.1 != c) = true) : z_wr L c k = false := by
  cases hq : z_wr L c k with
  | false => rfl
  | true =>
    exfalso
    unfold z_wr at hq
    rw [List.any_eq_true] at hq
    obtain ⟨e, he, h2⟩ := hq
    rw [List.all_eq_true] at hL
    have h3 := hL e he
    simp only [z_ce, Bool.and_eq_true, Bool.or_eq_true, beq_iff_eq, decide_eq_true_eq, bne_iff_ne, ne_eq] at h2 h3
    omega
theorem z_up_j {α : Type} {f : Nat → Nat → α} {c k j : Nat} {v : α} : z_up f c k v c j = if j = k then v else f c j := by simp [z_up]
theorem z_cln {x y : Int32} (h : x.toInt = y.toInt + 1) (h0 : 0 ≤ y.toInt) : x.toNatClampNeg = y.toNatClampNeg + 1 := by
  show x.toInt.toNat = y.toInt.toNat + 1
  omega
noncomputable def z_kx (I : z_I) (h d kn : Int) : Nat → Int × Int
  | 0 => (-1, 0)
  | k + 1 => if ((I 7 k).toInt = h ∧ (I 9 k).toInt ≤ d ∧ (I 10 k).toInt ≤ kn ∧ kn < (I 11 k).toInt) ∧ (z_kx I h d kn k).1 ≤ (I 9 k).toInt then ((I 9 k).toInt, (I 8 k).toInt) else z_kx I h d kn k
theorem z_kx_no {I : z_I} {h d kn : Int} {k k1 : Int32} {la an : Int} (h0 : 0 ≤ k.toInt) (e : k1.toInt = k.toInt + 1) (hp : z_kx I h d kn k.toNatClampNeg = (la, an)) (hn : ¬ (((I 7 k.toNatClampNeg).toInt = h ∧ (I 9 k.toNatClampNeg).toInt ≤ d ∧ (I 10 k.toNatClampNeg).toInt ≤ kn ∧ kn < (I 11 k.toNatClampNeg).toInt) ∧ la ≤ (I 9 k.toNatClampNeg).toInt)) : z_kx I h d kn k1.toNatClampNeg = (la, an) := by
  rw [z_cln e h0, z_kx, hp, if_neg hn]
theorem z_kx_yes {I : z_I} {h d kn : Int} {k k1 x y : Int32} {la an : Int} (h0 : 0 ≤ k.toInt) (e : k1.toInt = k.toInt + 1) (hp : z_kx I h d kn k.toNatClampNeg = (la, an)) (ex : x = I 9 k.toNatClampNeg) (ey : y = I 8 k.toNatClampNeg) (hn : ((I 7 k.toNatClampNeg).toInt = h ∧ (I 9 k.toNatClampNeg).toInt ≤ d ∧ (I 10 k.toNatClampNeg).toInt ≤ kn ∧ kn < (I 11 k.toNatClampNeg).toInt) ∧ la ≤ (I 9 k.toNatClampNeg).toInt) : z_kx I h d kn k1.toNatClampNeg = (x.toInt, y.toInt) := by
  rw [z_cln e h0, z_kx, hp, if_pos hn, ex, ey]
noncomputable def z_km (I : z_I) (h d kn : Int) : Nat → Int
  | 0 => -1
  | k + 1 => if ((I 6 k).toInt = h ∧ (I 8 k).toInt ≤ d ∧ (I 9 k).toInt ≤ kn ∧ ¬ (0 ≤ (I 10 k).toInt ∧ (I 10 k).toInt ≤ kn)) ∧ (z_km I h d kn k < 0 ∨ (I 8 (z_km I h d kn k).toNat).toInt ≤ (I 8 k).toInt) then k else z_km I h d kn k
theorem z_km_no {I : z_I} {h d kn : Int} {k k1 b : Int32} (h0 : 0 ≤ k.toInt) (e : k1.toInt = k.toInt + 1) (hp : z_km I h d kn k.toNatClampNeg = b.toInt) (hn : ¬ (((I 6 k.toNatClampNeg).toInt = h ∧ (I 8 k.toNatClampNeg).toInt ≤ d ∧ (I 9 k.toNatClampNeg).toInt ≤ kn ∧ ¬ (0 ≤ (I 10 k.toNatClampNeg).toInt ∧ (I 10 k.toNatClampNeg).toInt ≤ kn)) ∧ (b.toInt < 0 ∨ (I 8 b.toNatClampNeg).toInt ≤ (I 8 k.toNatClampNeg).toInt))) : z_km I h d kn k1.toNatClampNeg = b.toInt := by
  rw [z_cln e h0, z_km, hp]
  exact if_neg hn
theorem z_km_yes {I : z_I} {h d kn : Int} {k k1 b : Int32} (h0 : 0 ≤ k.toInt) (e : k1.toInt = k.toInt + 1) (hp : z_km I h d kn k.toNatClampNeg = b.toInt) (hn : ((I 6 k.toNatClampNeg).toInt = h ∧ (I 8 k.toNatClampNeg).toInt ≤ d ∧ (I 9 k.toNatClampNeg).toInt ≤ kn ∧ ¬ (0 ≤ (I 10 k.toNatClampNeg).toInt ∧ (I 10 k.toNatClampNeg).toInt ≤ kn)) ∧ (b.toInt < 0 ∨ (I 8 b.toNatClampNeg).toInt ≤ (I 8 k.toNatClampNeg).toInt)) : z_km I h d kn k1.toNatClampNeg = k.toInt := by
  rw [z_cln e h0, z_km, hp]
  refine (if_pos hn).trans ?_
  show ((k.toInt.toNat : Nat) : Int) = k.toInt
  omega
noncomputable def z_kmr (I : z_I) (h d kn : Int) (n : Nat) : Int := if z_km I h d kn n < 0 then 0 else (I 7 (z_km I h d kn n).toNat).toInt
theorem z_kmr_0 {I : z_I} {h d kn : Int} {n : Nat} {b : Int32} (hp : z_km I h d kn n = b.toInt) (hb : b.toInt < 0) : z_kmr I h d kn n = 0 := by
  unfold z_kmr
  rw [hp, if_pos hb]
theorem z_kmr_1 {I : z_I} {h d kn : Int} {n : Nat} {b y : Int32} (hp : z_km I h d kn n = b.toInt) (hb : 0 ≤ b.toInt) (ey : y = I 7 b.toNatClampNeg) : z_kmr I h d kn n = y.toInt := by
  unfold z_kmr
  rw [hp, if_neg (by omega), ey]
  rfl
/-- the rows of NOTES are the same on both sides -/
noncomputable def z_RN (Ix Im : z_I) : Prop := ∀ j : Nat, (j : Int) < (Ix 1 11).toInt → Ix 7 j = Im 6 j ∧ Ix 8 j = Im 7 j ∧ Ix 9 j = Im 8 j ∧ Ix 10 j = Im 9 j ∧ 0 ≤ (Ix 9 j).toInt ∧ ((Im 10 j).toInt < 0 ∧ (Ix 11 j).toInt = 720 ∨ 0 ≤ (Im 10 j).toInt ∧ (Im 10 j).toInt ≤ 719 ∧ Ix 11 j = Im 10 j)
theorem z_RN_k {Ix Im : z_I} (h : z_RN Ix Im) {w d kn : Int} (hk : kn ≤ 719) : ∀ k : Nat, (k : Int) ≤ (Ix 1 11).toInt → (z_km Im w d kn k = -1 ∧ z_kx Ix w d kn k = (-1, 0)) ∨ ∃ b : Nat, z_km Im w d kn k = b ∧ z_kx Ix w d kn k = ((Im 8 b).toInt, (Im 7 b).toInt) := by
  intro k
  induction k with
  | zero => intro _; exact Or.inl ⟨rfl, rfl⟩
  | succ k ih =>
    intro hl
    obtain ⟨e1, e2, e3, e4, e5, e6⟩ := h k (by omega)
    have e3' := congrArg Int32.toInt e3
    rw [z_km, z_kx]
    rw [e1, e2, e3, e4]
    have eg : kn < (Ix 11 k).toInt ↔ ¬ (0 ≤ (Im 10 k).toInt ∧ (Im 10 k).toInt ≤ kn) := by
      rcases e6 with ⟨q1, q2⟩ | ⟨q1, q2, q3⟩
      · omega
      · rw [q3]; omega
    simp only [eg]
    rcases ih (by omega) with ⟨m1, m2⟩ | ⟨b, m1, m2⟩
    · rw [m1, m2]
      by_cases q : (Im 6 k).toInt = w ∧ (Im 8 k).toInt ≤ d ∧ (Im 9 k).toInt ≤ kn ∧ ¬ (0 ≤ (Im 10 k).toInt ∧ (Im 10 k).toInt ≤ kn)
      · right
        refine ⟨k, ?_, ?_⟩
        · rw [if_pos ⟨q, Or.inl (by decide)⟩]
        · rw [if_pos ⟨q, (by show (-1 : Int) ≤ _; omega)⟩]
      · left
        exact ⟨if_neg (fun z => q z.1), if_neg (fun z => q z.1)⟩
    · rw [m1, m2]
      by_cases q : ((Im 6 k).toInt = w ∧ (Im 8 k).toInt ≤ d ∧ (Im 9 k).toInt ≤ kn ∧ ¬ (0 ≤ (Im 10 k).toInt ∧ (Im 10 k).toInt ≤ kn)) ∧ (Im 8 b).toInt ≤ (Im 8 k).toInt
      · right
        refine ⟨k, ?_, ?_⟩
        · rw [if_pos ⟨q.1, Or.inr q.2⟩]
        · rw [if_pos q]
      · right
        refine ⟨b, ?_, ?_⟩
        · rw [if_neg (fun z => q ⟨z.1, z.2.resolve_left (by omega)⟩)]
        · rw [if_neg q]
theorem z_RN_r {Ix Im : z_I} (h : z_RN Ix Im) {w d kn : Int} (hk : kn ≤ 719) {n m : Nat} (hn : (n : Int) ≤ (Ix 1 11).toInt) (e : m = n) : (z_kx Ix w d kn n).2 = z_kmr Im w d kn m := by
  subst e
  unfold z_kmr
  rcases z_RN_k h (w := w) (d := d) hk _ hn with ⟨m1, m2⟩ | ⟨b, m1, m2⟩
  · rw [m1, m2, if_pos (by decide)]
  · rw [m1, m2, if_neg (by omega)]
    rfl
noncomputable def z_nrX (I1 I : z_I) (n : Nat) (w k f t : Int32) : Prop := (∀ j, I1 7 j = if j = n then w else I 7 j) ∧ (∀ j, I1 8 j = if j = n then k else I 8 j) ∧ (∀ j, I1 9 j = if j = n then f else I 9 j) ∧ (∀ j, I1 10 j = if j = n then t else I 10 j) ∧ ∀ j, I1 11 j = if j = n then 720 else I 11 j
noncomputable def z_nrM (I1 I : z_I) (n : Nat) (w k f t : Int32) : Prop := (∀ j, I1 6 j = if j = n then w else I 6 j) ∧ (∀ j, I1 7 j = if j = n then k else I 7 j) ∧ (∀ j, I1 8 j = if j = n then f else I 8 j) ∧ (∀ j, I1 9 j = if j = n then t else I 9 j) ∧ ∀ j, I1 10 j = if j = n then -1 else I 10 j
noncomputable def z_nsX (I1 I : z_I) : Prop := ∀ j, I1 7 j = I 7 j ∧ I1 8 j = I 8 j ∧ I1 9 j = I 9 j ∧ I1 10 j = I 10 j ∧ I1 11 j = I 11 j
noncomputable def z_nsM (I1 I : z_I) : Prop := ∀ j, I1 6 j = I 6 j ∧ I1 7 j = I 7 j ∧ I1 8 j = I 8 j ∧ I1 9 j = I 9 j ∧ I1 10 j = I 10 j
theorem z_RN_same {Ix Im Ix1 Im1 : z_I} (h : z_RN Ix Im) (eN : (Ix1 1 11).toInt = (Ix 1 11).toInt) (hx : z_nsX Ix1 Ix) (hm : z_nsM Im1 Im) : z_RN Ix1 Im1 := fun j hj => by
  obtain ⟨a1, a2, a3, a4, a5⟩ := hx j
  obtain ⟨b1, b2, b3, b4, b5⟩ := hm j
  rw [a1, a2, a3, a4, a5, b1, b2, b3, b4, b5]
  exact h j (by omega)
theorem z_RN_note {Ix Im Ix1 Im1 : z_I} {n n1 : Nat} {w k f t w1 k1 f1 t1 : Int32} (h : z_RN Ix Im) (eN : (Ix1 1 11).toInt = (Ix 1 11).toInt + 1) (en : (n : Int) = (Ix 1 11).toInt) (en1 : n1 = n) (hx : z_nrX Ix1 Ix n w k f t) (hm : z_nrM Im1 Im n1 w1 k1 f1 t1) (ew : w1 = w) (ek : k1 = k) (ef : f1 = f) (et : t1 = t) (hf : 0 ≤ f.toInt) : z_RN Ix1 Im1 := fun j hj => by
  subst en1 ew ek ef et
  obtain ⟨a1, a2, a3, a4, a5⟩ := hx
  obtain ⟨b1, b2, b3, b4, b5⟩ := hm
  rw [a1, a2, a3, a4, a5, b1, b2, b3, b4, b5]
  by_cases q : j = n1
  · simp only [if_pos q]
    exact ⟨trivial, trivial, trivial, trivial, hf, Or.inl ⟨by decide, by decide⟩⟩
  · simp only [if_neg q]
    exact h j (by omega)
theorem z_RN_undo {Ix Im Ix1 Im1 : z_I} {n n1 : Nat} {t t1 : Int32} (h : z_RN Ix Im) (eN : (Ix1 1 11).toInt = (Ix 1 11).toInt) (en1 : n1 = n) (hx : ∀ j, Ix1 7 j = Ix 7 j ∧ Ix1 8 j = Ix 8 j ∧ Ix1 9 j = Ix 9 j ∧ Ix1 10 j = Ix 10 j) (hx5 : ∀ j, Ix1 11 j = if j = n then t else Ix 11 j) (hm : ∀ j, Im1 6 j = Im 6 j ∧ Im1 7 j = Im 7 j ∧ Im1 8 j = Im 8 j ∧ Im1 9 j = Im 9 j) (hm5 : ∀ j, Im1 10 j = if j = n1 then t1 else Im 10 j) (et : t1 = t) (ht : 0 ≤ t.toInt ∧ t.toInt ≤ 719) : z_RN Ix1 Im1 := fun j hj => by
  subst en1 et
  obtain ⟨a1, a2, a3, a4⟩ := hx j
  obtain ⟨b1, b2, b3, b4⟩ := hm j
  rw [a1, a2, a3, a4, hx5, b1, b2, b3, b4, hm5]
  by_cases q : j = n1
  · simp only [if_pos q]
    obtain ⟨e1, e2, e3, e4, e5, e6⟩ := h j (by omega)
    exact ⟨e1, e2, e3, e4, e5, Or.inr ⟨ht.1, ht.2, trivial⟩⟩
  · simp only [if_neg q]
    exact h j (by omega)
theorem z_RN_uc {Ix Im : z_I} (h : z_RN Ix Im) {x : Int32} (eN : (Ix 1 11).toInt = (Im 0 2).toInt) : (0 ≤ x.toInt ∧ x.toInt < (Ix 1 11).toInt ∧ 720 ≤ (Ix 11 x.toNatClampNeg).toInt) ↔ (0 ≤ x.toInt ∧ x.toInt < (Im 0 2).toInt ∧ (Im 10 x.toNatClampNeg).toInt < 0) := by
  by_cases q : 0 ≤ x.toInt ∧ x.toInt < (Ix 1 11).toInt
  · obtain ⟨e1, e2, e3, e4, e5, e6⟩ := h x.toNatClampNeg (by show ((x.toInt.toNat : Nat) : Int) < _; omega)
    rcases e6 with ⟨q1, q2⟩ | ⟨q1, q2, q3⟩
    · omega
    · rw [q3]; omega
  · omega
set_option maxHeartbeats 8000000 in
set_option maxRecDepth 100000 in
theorem sx_X2_kindOn_r (l : Launch) (G : z_G) (ad : Nat → Nat) (c : z_C) (I : z_I) (hH : z_iH I) (a1 : Int32) (a2 : Int32) (a3 : Int32) : z_M l yX2_kindOn wsX2_kindOn { frames := 1, cells := 0, slots := 0, locals := 12 } [.ref (ad 1), .int a1, .int a2, .int a3] G (shC c, ad, I, JX, PC c ad) (fun r u1 => u1 = (shC c, ad, I, JX, PC c ad) ∧ (r.toInt = (z_kx I a1.toInt a2.toInt a3.toInt (I 1 11).toNatClampNeg).2)) 0 0 := by
  intro sz
  refine z_headQ (cc := cX2_kindOn) (maxL := 8) (ret := (some .int)) (by decide) rfl (Nat.le_of_ble_eq_true rfl) ?_
  intro p e s m below meth c0 ls hIn hK hsz hW hl
  obtain ⟨hx, hb, hr, hml, hown, hts, hlocks, hname⟩ := hIn
  subst hsz
  have hown : s.vm.findClass RX2 = some m.cls := hown
  have hA : ∀ q : Nat, s.heap.size ≤ q → z_A (shC c, ad, I, JX, PC c ad) s.heap.size q := fun q h => Or.inr h
  generalize hAe : z_A (shC c, ad, I, JX, PC c ad) s.heap.size = A at *
  have hS : va_S A s.heap s.heap [] := va_S.rf
  have hl : lv_has ls 8 [(0, .ref (ad 1)), (1, .int a1), (2, .int a2), (3, .int a3)] := hl
  refine lv_iconst (v := (-1)) hx hb dX2_kindOn_0 (by decide) ?_
  refine lv_istore (lv' := [(4, .int (-1)), (0, .ref (ad 1)), (1, .int a1), (2, .int a2), (3, .int a3)]) hx hb dX2_kindOn_1 hl (by decide) rfl (fun ls hl => ?_)
  refine lv_iconst (v := 0) hx hb dX2_kindOn_3 (by decide) ?_
  refine lv_istore (lv' := [(5, .int 0), (4, .int (-1)), (0, .ref (ad 1)), (1, .int a1), (2, .int a2), (3, .int a3)]) hx hb dX2_kindOn_4 hl (by decide) rfl (fun ls hl => ?_)
  refine lv_iconst (v := 0) hx hb dX2_kindOn_6 (by decide) ?_
  refine lv_istore (lv' := [(6, .int 0), (5, .int 0), (4, .int (-1)), (0, .ref (ad 1)), (1, .int a1), (2, .int a2), (3, .int a3)]) hx hb dX2_kindOn_7 hl (by decide) rfl (fun ls hl => ?_)
  have lp1 : ∀ (f : Nat) (y2 : Int32) (y3 : Int32) (y4 : Int32) (H : Heap) (locs : List Loc) (ls : Array Slot), (2147483647 < y2.toInt + (f : Int)) → (0 ≤ y2.toInt) → (z_kx I a1.toInt a2.toInt a3.toInt y2.toNatClampNeg = (y4.toInt, y3.toInt) ∧ y2.toInt ≤ (I 1 11).toInt) → z_W G A (shC c, ad, I, JX, PC c ad) H → va_S A s.heap H locs → lv_has ls 8 [(6, .int y2), (5, .int y3), (4, .int y4), (0, .ref (ad 1)), (1, .int a1), (2, .int a2), (3, .int a3)] → W p l e (headSpec wsX2_kindOn { frames := 1, cells := 0, slots := 0, locals := 12 }).room s m ([.ref (ad 1), .int a1, .int a2, .int a3] : List Value).toArray below meth c0 H locs 0 0 (MQ below (va_Qi (fun (r : Int32) (u1 : z_U) => u1 = (shC c, ad, I, JX, PC c ad) ∧ (r.toInt = (z_kx I a1.toInt a2.toInt a3.toInt (I 1 11).toNatClampNeg).2)) (z_B G A) A) ([.ref (ad 1), .int a1, .int a2, .int a3] : List Value).toArray s 0 0 A) (F0 m 9 ls []) := by
    intro f
    induction f with
    | zero => intro y2 y3 y4 H locs ls lp1m lp1l6 lp1kx hW hS hl; exact absurd lp1m (by have := Int32.toInt_lt y2; have := Int32.le_toInt y2; omega)
    | succ f lp1ih =>
      intro y2 y3 y4 H locs ls lp1m lp1l6 lp1kx hW hS hl
      refine lv_iload hx hb dX2_kindOn_9 (lv_at hl 0 rfl) ?_
      refine lv_aload_n hx hb dX2_kindOn_11 rfl (lv_at hl 3 rfl) ?_
      have r5 : 0 ≤ (I 1 11).toInt ∧ (I 1 11).toInt ≤ 200 := hH.2
      refine z_get (T := TX2) (N := 12) (ci := 2) (i := 1) (v := .int (I 1 11)) hx hb hts zj_X2_kindOn_X2 hown hK hW rfl rfl 11 (by decide) (hts (.fieldLink RX2 46 "PetrolBoard$Holders" "notes" "I") (me_s (me_l (List.mem_of_getElem? (i := 0) rfl)))) (fun _ h => h) rfl dX2_kindOn_12 ?_
      refine lv_icmp_ge (tgt := 118) hx hb dX2_kindOn_15 (by decide) (fun c6 => ?_) (fun c6 => ?_)
      · have g7 := z_f_ge rfl rfl c6
        have b8 := Int32.toInt_lt y2
        refine lv_iload hx hb dX2_kindOn_118 (lv_at hl 1 rfl) ?_
        exact z_iret hx hb hr hK hS (Nat.le_of_ble_eq_true rfl) (Nat.le_of_ble_eq_true rfl) hlocks dX2_kindOn_120 (shC c, ad, I, JX, PC c ad) hW ⟨rfl, (by have q1 := (lp1kx).1; have q2 := (lp1kx).2; have q3 : y2.toNatClampNeg = (I 1 11).toNatClampNeg := (by show y2.toInt.toNat = (I 1 11).toInt.toNat; omega); rw [← q3, q1])⟩
      · have g9 := z_f_nge rfl rfl c6
        have b10 := Int32.toInt_lt y2
        refine lv_iload hx hb dX2_kindOn_18 (lv_at hl 0 rfl) ?_
        refine lv_sipush (v := 200) hx hb dX2_kindOn_20 (by decide) ?_
        refine lv_icmp_ge (tgt := 118) hx hb dX2_kindOn_23 (by decide) (fun c11 => (by have g := z_f_ge rfl z_l200 c11; omega)) (fun c11 => ?_)
        have g12 := z_f_nge rfl z_l200 c11
        refine lv_aload_n hx hb dX2_kindOn_26 rfl (lv_at hl 3 rfl) ?_
        refine z_get (T := TX2) (N := 12) (ci := 2) (i := 1) (v := .ref (ad 7)) hx hb hts zj_X2_kindOn_X2 hown hK hW rfl rfl 6 (by decide) (hts (.fieldLink RX2 27 "PetrolBoard$Holders" "noteOf" "[I") (me_s (me_l (List.mem_of_getElem? (i := 1) rfl)))) (fun _ h => h) rfl dX2_kindOn_27 ?_
        refine lv_iload hx hb dX2_kindOn_30 (lv_at hl 0 rfl) ?_
        refine z_iald (i := 7) hx hb hK hW rfl (z_ix rfl (by omega) (by omega)) dX2_kindOn_32 ?_
        refine lv_topi (fun x13 ex13 => ?_)
        refine lv_iload_n hx hb dX2_kindOn_33 rfl (lv_at hl 4 rfl) ?_
        refine lv_icmp_ne (tgt := 74) hx hb dX2_kindOn_34 (by decide) (fun c14 => ?_) (fun c14 => ?_)
        · have g15 := z_f_ne rfl rfl c14
          have b16 := Int32.toInt_lt x13
          have b17 := Int32.toInt_lt a1
          refine lv_iconst (v := 0) hx hb dX2_kindOn_74 (by decide) ?_
          refine lv_istore (lv' := [(7, .int 0), (6, .int y2), (5, .int y3), (4, .int y4), (0, .ref (ad 1)), (1, .int a1), (2, .int a2), (3, .int a3)]) hx hb dX2_kindOn_75 hl (by decide) rfl (fun ls hl => ?_)
          refine lv_iload hx hb dX2_kindOn_77 (lv_at hl 0 rfl) ?_
          refine lv_if_eq (tgt := 112) hx hb dX2_kindOn_79 (by decide) (fun c18 => ?_) (fun c18 => absurd (by decide) c18)
          obtain ⟨x19, ex19⟩ : ∃ y : Int32, y = y2 + 1 := ⟨_, rfl⟩
          have tx19 : x19.toInt = y2.toInt + 1 := z_tadd ex19 rfl z_l1 (by omega) (by omega)
          refine lv_iinc (v := x19) (lv' := [(6, .int x19), (7, .int 0), (5, .int y3), (4, .int y4), (0, .ref (ad 1)), (1, .int a1), (2, .int a2), (3, .int a3)]) hx hb dX2_kindOn_112 hl (k := 1) rfl (by rw [ex19]; rfl) (by decide) rfl (fun ls hl => ?_)
          refine lv_goto (tgt := 9) hx hb dX2_kindOn_115 (by decide) ?_
          exact lp1ih x19 y3 y4 _ _ _ (by omega) (by omega) ⟨z_kx_no lp1l6 tx19 (lp1kx).1 (by have := congrArg Int32.toInt ex13; omega), by have := (lp1kx).2; omega⟩ hW hS (lv_sub hl [0, 2, 3, 4, 5, 6, 7] rfl)
        · have g20 := z_f_eq rfl rfl c14
          have b21 := Int32.toInt_lt x13
          have b22 := Int32.toInt_lt a1
          refine lv_aload_n hx hb dX2_kindOn_37 rfl (lv_at hl 3 rfl) ?_
          refine z_get (T := TX2) (N := 12) (ci := 2) (i := 1) (v := .ref (ad 9)) hx hb hts zj_X2_kindOn_X2 hown hK hW rfl rfl 8 (by decide) (hts (.fieldLink RX2 33 "PetrolBoard$Holders" "from" "[I") (me_s (me_l (List.mem_of_getElem? (i := 2) rfl)))) (fun _ h => h) rfl dX2_kindOn_38 ?_
          refine lv_iload hx hb dX2_kindOn_41 (lv_at hl 0 rfl) ?_
          refine z_iald (i := 9) hx hb hK hW rfl (z_ix rfl (by omega) (by omega)) dX2_kindOn_43 ?_
          refine lv_topi (fun x23 ex23 => ?_)
          refine lv_iload_n hx hb dX2_kindOn_44 rfl (lv_at hl 5 rfl) ?_
          refine lv_icmp_gt (tgt := 74) hx hb dX2_kindOn_45 (by decide) (fun c24 => ?_) (fun c24 => ?_)
          · have g25 := z_f_gt rfl rfl c24
            have b26 := Int32.toInt_lt x23
            have b27 := Int32.toInt_lt a2
            refine lv_iconst (v := 0) hx hb dX2_kindOn_74 (by decide) ?_
            refine lv_istore (lv' := [(7, .int 0), (6, .int y2), (5, .int y3), (4, .int y4), (0, .ref (ad 1)), (1, .int a1), (2, .int a2), (3, .int a3)]) hx hb dX2_kindOn_75 hl (by decide) rfl (fun ls hl => ?_)
            refine lv_iload hx hb dX2_kindOn_77 (lv_at hl 0 rfl) ?_
            refine lv_if_eq (tgt := 112) hx hb dX2_kindOn_79 (by decide) (fun c28 => ?_) (fun c28 => absurd (by decide) c28)
            obtain ⟨x29, ex29⟩ : ∃ y : Int32, y = y2 + 1 := ⟨_, rfl⟩
            have tx29 : x29.toInt = y2.toInt + 1 := z_tadd ex29 rfl z_l1 (by omega) (by omega)
            refine lv_iinc (v := x29) (lv' := [(6, .int x29), (7, .int 0), (5, .int y3), (4, .int y4), (0, .ref (ad 1)), (1, .int a1), (2, .int a2), (3, .int a3)]) hx hb dX2_kindOn_112 hl (k := 1) rfl (by rw [ex29]; rfl) (by decide) rfl (fun ls hl => ?_)
            refine lv_goto (tgt := 9) hx hb dX2_kindOn_115 (by decide) ?_
            exact lp1ih x29 y3 y4 _ _ _ (by omega) (by omega) ⟨z_kx_no lp1l6 tx29 (lp1kx).1 (by have := congrArg Int32.toInt ex13; have := congrArg Int32.toInt ex23; omega), by have := (lp1kx).2; omega⟩ hW hS (lv_sub hl [0, 2, 3, 4, 5, 6, 7] rfl)
          · have g30 := z_f_ngt rfl rfl c24
            have b31 := Int32.toInt_lt x23
            have b32 := Int32.toInt_lt a2
            refine lv_aload_n hx hb dX2_kindOn_48 rfl (lv_at hl 3 rfl) ?_
            refine z_get (T := TX2) (N := 12) (ci := 2) (i := 1) (v := .ref (ad 10)) hx hb hts zj_X2_kindOn_X2 hown hK hW rfl rfl 9 (by decide) (hts (.fieldLink RX2 36 "PetrolBoard$Holders" "toldOn" "[I") (me_s (me_l (List.mem_of_getElem? (i := 3) rfl)))) (fun _ h => h) rfl dX2_kindOn_49 ?_
            refine lv_iload hx hb dX2_kindOn_52 (lv_at hl 0 rfl) ?_
            refine z_iald (i := 10) hx hb hK hW rfl (z_ix rfl (by omega) (by omega)) dX2_kindOn_54 ?_
            refine lv_topi (fun x33 ex33 => ?_)
            refine lv_iload_n hx hb dX2_kindOn_55 rfl (lv_at hl 6 rfl) ?_
            refine lv_icmp_gt (tgt := 74) hx hb dX2_kindOn_56 (by decide) (fun c34 => ?_) (fun c34 => ?_)
            · have g35 := z_f_gt rfl rfl c34
              have b36 := Int32.toInt_lt x33
              have b37 := Int32.toInt_lt a3
              refine lv_iconst (v := 0) hx hb dX2_kindOn_74 (by decide) ?_
              refine lv_istore (lv' := [(7, .int 0), (6, .int y2), (5, .int y3), (4, .int y4), (0, .ref (ad 1)), (1, .int a1), (2, .int a2), (3, .int a3)]) hx hb dX2_kindOn_75 hl (by decide) rfl (fun ls hl => ?_)
              refine lv_iload hx hb dX2_kindOn_77 (lv_at hl 0 rfl) ?_
              refine lv_if_eq (tgt := 112) hx hb dX2_kindOn_79 (by decide) (fun c38 => ?_) (fun c38 => absurd (by decide) c38)
              obtain ⟨x39, ex39⟩ : ∃ y : Int32, y = y2 + 1 := ⟨_, rfl⟩
              have tx39 : x39.toInt = y2.toInt + 1 := z_tadd ex39 rfl z_l1 (by omega) (by omega)
              refine lv_iinc (v := x39) (lv' := [(6, .int x39), (7, .int 0), (5, .int y3), (4, .int y4), (0, .ref (ad 1)), (1, .int a1), (2, .int a2), (3, .int a3)]) hx hb dX2_kindOn_112 hl (k := 1) rfl (by rw [ex39]; rfl) (by decide) rfl (fun ls hl => ?_)
              refine lv_goto (tgt := 9) hx hb dX2_kindOn_115 (by decide) ?_
              exact lp1ih x39 y3 y4 _ _ _ (by omega) (by omega) ⟨z_kx_no lp1l6 tx39 (lp1kx).1 (by have := congrArg Int32.toInt ex13; have := congrArg Int32.toInt ex23; have := congrArg Int32.toInt ex33; omega), by have := (lp1kx).2; omega⟩ hW hS (lv_sub hl [0, 2, 3, 4, 5, 6, 7] rfl)
            · have g40 := z_f_ngt rfl rfl c34
              have b41 := Int32.toInt_lt x33
              have b42 := Int32.toInt_lt a3
              refine lv_iload_n hx hb dX2_kindOn_59 rfl (lv_at hl 6 rfl) ?_
              refine lv_aload_n hx hb dX2_kindOn_60 rfl (lv_at hl 3 rfl) ?_
              refine z_get (T := TX2) (N := 12) (ci := 2) (i := 1) (v := .ref (ad 11)) hx hb hts zj_X2_kindOn_X2 hown hK hW rfl rfl 10 (by decide) (hts (.fieldLink RX2 39 "PetrolBoard$Holders" "undoneOn" "[I") (me_s (me_l (List.mem_of_getElem? (i := 4) rfl)))) (fun _ h => h) rfl dX2_kindOn_61 ?_
              refine lv_iload hx hb dX2_kindOn_64 (lv_at hl 0 rfl) ?_
              refine z_iald (i := 11) hx hb hK hW rfl (z_ix rfl (by omega) (by omega)) dX2_kindOn_66 ?_
              refine lv_topi (fun x43 ex43 => ?_)
              refine lv_icmp_ge (tgt := 74) hx hb dX2_kindOn_67 (by decide) (fun c44 => ?_) (fun c44 => ?_)
              · have g45 := z_f_ge rfl rfl c44
                have b46 := Int32.toInt_lt x43
                refine lv_iconst (v := 0) hx hb dX2_kindOn_74 (by decide) ?_
                refine lv_istore (lv' := [(7, .int 0), (6, .int y2), (5, .int y3), (4, .int y4), (0, .ref (ad 1)), (1, .int a1), (2, .int a2), (3, .int a3)]) hx hb dX2_kindOn_75 hl (by decide) rfl (fun ls hl => ?_)
                refine lv_iload hx hb dX2_kindOn_77 (lv_at hl 0 rfl) ?_
                refine lv_if_eq (tgt := 112) hx hb dX2_kindOn_79 (by decide) (fun c47 => ?_) (fun c47 => absurd (by decide) c47)
                obtain ⟨x48, ex48⟩ : ∃ y : Int32, y = y2 + 1 := ⟨_, rfl⟩
                have tx48 : x48.toInt = y2.toInt + 1 := z_tadd ex48 rfl z_l1 (by omega) (by omega)
                refine lv_iinc (v := x48) (lv' := [(6, .int x48), (7, .int 0), (5, .int y3), (4, .int y4), (0, .ref (ad 1)), (1, .int a1), (2, .int a2), (3, .int a3)]) hx hb dX2_kindOn_112 hl (k := 1) rfl (by rw [ex48]; rfl) (by decide) rfl (fun ls hl => ?_)
                refine lv_goto (tgt := 9) hx hb dX2_kindOn_115 (by decide) ?_
                exact lp1ih x48 y3 y4 _ _ _ (by omega) (by omega) ⟨z_kx_no lp1l6 tx48 (lp1kx).1 (by have := congrArg Int32.toInt ex13; have := congrArg Int32.toInt ex23; have := congrArg Int32.toInt ex33; have := congrArg Int32.toInt ex43; omega), by have := (lp1kx).2; omega⟩ hW hS (lv_sub hl [0, 2, 3, 4, 5, 6, 7] rfl)
              · have g49 := z_f_nge rfl rfl c44
                have b50 := Int32.toInt_lt x43
                refine lv_iconst (v := 1) hx hb dX2_kindOn_70 (by decide) ?_
                refine lv_goto (tgt := 75) hx hb dX2_kindOn_71 (by decide) ?_
                refine lv_istore (lv' := [(7, .int 1), (6, .int y2), (5, .int y3), (4, .int y4), (0, .ref (ad 1)), (1, .int a1), (2, .int a2), (3, .int a3)]) hx hb dX2_kindOn_75 hl (by decide) rfl (fun ls hl => ?_)
                refine lv_iload hx hb dX2_kindOn_77 (lv_at hl 0 rfl) ?_
                refine lv_if_eq (tgt := 112) hx hb dX2_kindOn_79 (by decide) (fun c51 => absurd c51 (by decide)) (fun c51 => ?_)
                refine lv_aload_n hx hb dX2_kindOn_82 rfl (lv_at hl 4 rfl) ?_
                refine z_get (T := TX2) (N := 12) (ci := 2) (i := 1) (v := .ref (ad 9)) hx hb hts zj_X2_kindOn_X2 hown hK hW rfl rfl 8 (by decide) (hts (.fieldLink RX2 33 "PetrolBoard$Holders" "from" "[I") (me_s (me_l (List.mem_of_getElem? (i := 2) rfl)))) (fun _ h => h) rfl dX2_kindOn_83 ?_
                refine lv_iload hx hb dX2_kindOn_86 (lv_at hl 1 rfl) ?_
                refine z_iald (i := 9) hx hb hK hW rfl (z_ix rfl (by omega) (by omega)) dX2_kindOn_88 ?_
                refine z_topi (v := x23) ex23.symm ?_
                refine lv_iload hx hb dX2_kindOn_89 (lv_at hl 3 rfl) ?_
                refine lv_icmp_lt (tgt := 112) hx hb dX2_kindOn_91 (by decide) (fun c52 => ?_) (fun c52 => ?_)
                · have g53 := z_f_lt rfl rfl c52
                  have b54 := Int32.toInt_lt y4
                  obtain ⟨x55, ex55⟩ : ∃ y : Int32, y = y2 + 1 := ⟨_, rfl⟩
                  have tx55 : x55.toInt = y2.toInt + 1 := z_tadd ex55 rfl z_l1 (by omega) (by omega)
                  refine lv_iinc (v := x55) (lv' := [(6, .int x55), (7, .int 1), (5, .int y3), (4, .int y4), (0, .ref (ad 1)), (1, .int a1), (2, .int a2), (3, .int a3)]) hx hb dX2_kindOn_112 hl (k := 1) rfl (by rw [ex55]; rfl) (by decide) rfl (fun ls hl => ?_)
                  refine lv_goto (tgt := 9) hx hb dX2_kindOn_115 (by decide) ?_
                  exact lp1ih x55 y3 y4 _ _ _ (by omega) (by omega) ⟨z_kx_no lp1l6 tx55 (lp1kx).1 (by have := congrArg Int32.toInt ex13; have := congrArg Int32.toInt ex23; have := congrArg Int32.toInt ex33; have := congrArg Int32.toInt ex43; omega), by have := (lp1kx).2; omega⟩ hW hS (lv_sub hl [0, 2, 3, 4, 5, 6, 7] rfl)
                · have g56 := z_f_nlt rfl rfl c52
                  have b57 := Int32.toInt_lt y4
                  refine lv_aload_n hx hb dX2_kindOn_94 rfl (lv_at hl 4 rfl) ?_
                  refine z_get (T := TX2) (N := 12) (ci := 2) (i := 1) (v := .ref (ad 9)) hx hb hts zj_X2_kindOn_X2 hown hK hW rfl rfl 8 (by decide) (hts (.fieldLink RX2 33 "PetrolBoard$Holders" "from" "[I") (me_s (me_l (List.mem_of_getElem? (i := 2) rfl)))) (fun _ h => h) rfl dX2_kindOn_95 ?_
                  refine lv_iload hx hb dX2_kindOn_98 (lv_at hl 1 rfl) ?_
                  refine z_iald (i := 9) hx hb hK hW rfl (z_ix rfl (by omega) (by omega)) dX2_kindOn_100 ?_
                  refine z_topi (v := x23) ex23.symm ?_
                  refine lv_istore (lv' := [(4, .int x23), (7, .int 1), (6, .int y2), (5, .int y3), (0, .ref (ad 1)), (1, .int a1), (2, .int a2), (3, .int a3)]) hx hb dX2_kindOn_101 hl (by decide) rfl (fun ls hl => ?_)
                  refine lv_aload_n hx hb dX2_kindOn_103 rfl (lv_at hl 4 rfl) ?_
                  refine z_get (T := TX2) (N := 12) (ci := 2) (i := 1) (v := .ref (ad 8)) hx hb hts zj_X2_kindOn_X2 hown hK hW rfl rfl 7 (by decide) (hts (.fieldLink RX2 30 "PetrolBoard$Holders" "kind" "[I") (me_s (me_l (List.mem_of_getElem? (i := 5) rfl)))) (fun _ h => h) rfl dX2_kindOn_104 ?_
                  refine lv_iload hx hb dX2_kindOn_107 (lv_at hl 2 rfl) ?_
                  refine z_iald (i := 8) hx hb hK hW rfl (z_ix rfl (by omega) (by omega)) dX2_kindOn_109 ?_
                  refine lv_topi (fun x58 ex58 => ?_)
                  refine lv_istore (lv' := [(5, .int x58), (4, .int x23), (7, .int 1), (6, .int y2), (0, .ref (ad 1)), (1, .int a1), (2, .int a2), (3, .int a3)]) hx hb dX2_kindOn_110 hl (by decide) rfl (fun ls hl => ?_)
                  obtain ⟨x59, ex59⟩ : ∃ y : Int32, y = y2 + 1 := ⟨_, rfl⟩
                  have tx59 : x59.toInt = y2.toInt + 1 := z_tadd ex59 rfl z_l1 (by omega) (by omega)
                  refine lv_iinc (v := x59) (lv' := [(6, .int x59), (5, .int x58), (4, .int x23), (7, .int 1), (0, .ref (ad 1)), (1, .int a1), (2, .int a2), (3, .int a3)]) hx hb dX2_kindOn_112 hl (k := 3) rfl (by rw [ex59]; rfl) (by decide) rfl (fun ls hl => ?_)
                  refine lv_goto (tgt := 9) hx hb dX2_kindOn_115 (by decide) ?_
                  exact lp1ih x59 x58 x23 _ _ _ (by omega) (by omega) ⟨z_kx_yes lp1l6 tx59 (lp1kx).1 ex23 ex58 (by have := congrArg Int32.toInt ex13; have := congrArg Int32.toInt ex23; have := congrArg Int32.toInt ex33; have := congrArg Int32.toInt ex43; have := congrArg Int32.toInt ex58; omega), by have := (lp1kx).2; omega⟩ hW hS (lv_sub hl [0, 1, 2, 4, 5, 6, 7] rfl)
  exact lp1 4294967296 (0) (0) ((-1)) _ _ _ (z_m0u _) (by rw [z_l0]; omega) ⟨rfl, by have := hH.2.1; have := z_l0; omega⟩ hW hS (lv_sub hl [0, 1, 2, 3, 4, 5, 6] rfl)
set_option maxHeartbeats 8000000 in
set_option maxRecDepth 100000 in
theorem sx_X12_kindOn_r (l : Launch) (G : z_G) (ad : Nat → Nat) (I : z_I) (J : z_J) (hma : z_ima I) (a1 : Int32) (a2 : Int32) (a3 : Int32) : z_M l yX12_kindOn wsX12_kindOn { frames := 1, cells := 0, slots := 0, locals := 12 } [.ref (ad 0), .int a1, .int a2, .int a3] G (shM, ad, I, J, PM ad) (fun r u1 => u1 = (shM, ad, I, J, PM ad) ∧ (r.toInt = z_kmr I a1.toInt a2.toInt a3.toInt (I 0 2).toNatClampNeg)) 0 0 := by
  intro sz
  refine z_headQ (cc := cX12_kindOn) (maxL := 6) (ret := (some .int)) (by decide) rfl (Nat.le_of_ble_eq_true rfl) ?_
  intro p e s m below meth c0 ls hIn hK hsz hW hl
  obtain ⟨hx, hb, hr, hml, hown, hts, hlocks, hname⟩ := hIn
  subst hsz
  have hown : s.vm.findClass RX12 = some m.cls := hown
  have hA : ∀ q : Nat, s.heap.size ≤ q → z_A (shM, ad, I, J, PM ad) s.heap.size q := fun q h => Or.inr h
  generalize hAe : z_A (shM, ad, I, J, PM ad) s.heap.size = A at *
  have hS : va_S A s.heap s.heap [] := va_S.rf
  have hl : lv_has ls 6 [(0, .ref (ad 0)), (1, .int a1), (2, .int a2), (3, .int a3)] := hl
  refine lv_iconst (v := (-1)) hx hb dX12_kindOn_0 (by decide) ?_
  refine lv_istore (lv' := [(4, .int (-1)), (0, .ref (ad 0)), (1, .int a1), (2, .int a2), (3, .int a3)]) hx hb dX12_kindOn_1 hl (by decide) rfl (fun ls hl => ?_)
  refine lv_iconst (v := 0) hx hb dX12_kindOn_3 (by decide) ?_
  refine lv_istore (lv' := [(5, .int 0), (4, .int (-1)), (0, .ref (ad 0)), (1, .int a1), (2, .int a2), (3, .int a3)]) hx hb dX12_kindOn_4 hl (by decide) rfl (fun ls hl => ?_)
  have lp1 : ∀ (f : Nat) (y2 : Int32) (y3 : Int32) (H : Heap) (locs : List Loc) (ls : Array Slot), (2147483647 < y2.toInt + (f : Int)) → (0 ≤ y2.toInt) → ((-1) ≤ y3.toInt) → (y3.toInt ≤ 199) → (z_km I a1.toInt a2.toInt a3.toInt y2.toNatClampNeg = y3.toInt ∧ y2.toInt ≤ (I 0 2).toInt) → z_W G A (shM, ad, I, J, PM ad) H → va_S A s.heap H locs → lv_has ls 6 [(5, .int y2), (4, .int y3), (0, .ref (ad 0)), (1, .int a1), (2, .int a2), (3, .int a3)] → W p l e (headSpec wsX12_kindOn { frames := 1, cells := 0, slots := 0, locals := 12 }).room s m ([.ref (ad 0), .int a1, .int a2, .int a3] : List Value).toArray below meth c0 H locs 0 0 (MQ below (va_Qi (fun (r : Int32) (u1 : z_U) => u1 = (shM, ad, I, J, PM ad) ∧ (r.toInt = z_kmr I a1.toInt a2.toInt a3.toInt (I 0 2).toNatClampNeg)) (z_B G A) A) ([.ref (ad 0), .int a1, .int a2, .int a3] : List Value).toArray s 0 0 A) (F0 m 6 ls []) := by
    intro f
    induction f with
    | zero => intro y2 y3 H locs ls lp1m lp1l5 lp1l4 lp1u4 lp1km hW hS hl; exact absurd lp1m (by have := Int32.toInt_lt y2; have := Int32.le_toInt y2; omega)
    | succ f lp1ih =>
      intro y2 y3 H locs ls lp1m lp1l5 lp1l4 lp1u4 lp1km hW hS hl
      refine lv_iload hx hb dX12_kindOn_6 (lv_at hl 0 rfl) ?_
      refine lv_aload_n hx hb dX12_kindOn_8 rfl (lv_at hl 2 rfl) ?_
      have r4 : 0 ≤ (I 0 2).toInt ∧ (I 0 2).toInt ≤ 200 := hma.2.2
      refine z_get (T := TX12) (N := 96) (ci := 12) (i := 0) (v := .int (I 0 2)) hx hb hts zj_X12_kindOn_X12 hown hK hW rfl rfl 2 (by decide) (hts (.fieldLink RX12 246 "PetrolBoardModel" "notes" "I") (me_s (me_l (List.mem_of_getElem? (i := 0) rfl)))) (fun _ h => h) rfl dX12_kindOn_9 ?_
      refine lv_icmp_ge (tgt := 104) hx hb dX12_kindOn_12 (by decide) (fun c5 => ?_) (fun c5 => ?_)
      · have g6 := z_f_ge rfl rfl c5
        have b7 := Int32.toInt_lt y2
        refine lv_iload hx hb dX12_kindOn_104 (lv_at hl 1 rfl) ?_
        refine lv_if_ge (tgt := 113) hx hb dX12_kindOn_106 (by decide) (fun c8 => ?_) (fun c8 => ?_)
        · have g9 := z_f_ge rfl z_l0 c8
          refine lv_aload_n hx hb dX12_kindOn_113 rfl (lv_at hl 2 rfl) ?_
          refine z_get (T := TX12) (N := 96) (ci := 12) (i := 0) (v := .ref (ad 7)) hx hb hts zj_X12_kindOn_X12 hown hK hW rfl rfl 9 (by decide) (hts (.fieldLink RX12 28 "PetrolBoardModel" "noteClass" "[I") (me_s (me_l (List.mem_of_getElem? (i := 5) rfl)))) (fun _ h => h) rfl dX12_kindOn_114 ?_
          refine lv_iload hx hb dX12_kindOn_117 (lv_at hl 1 rfl) ?_
          refine z_iald (i := 7) hx hb hK hW rfl (z_ix rfl (by omega) (by omega)) dX12_kindOn_119 ?_
          refine lv_topi (fun x10 ex10 => ?_)
          exact z_iret hx hb hr hK hS (Nat.le_of_ble_eq_true rfl) (Nat.le_of_ble_eq_true rfl) hlocks dX12_kindOn_120 (shM, ad, I, J, PM ad) hW ⟨rfl, (by have q1 := (lp1km).1; have q2 := (lp1km).2; have q3 : y2.toNatClampNeg = (I 0 2).toNatClampNeg := (by show y2.toInt.toNat = (I 0 2).toInt.toNat; omega); rw [q3] at q1; exact (z_kmr_1 q1 (by omega) ex10).symm)⟩
        · have g11 := z_f_nge rfl z_l0 c8
          refine lv_iconst (v := 0) hx hb dX12_kindOn_109 (by decide) ?_
          refine lv_goto (tgt := 120) hx hb dX12_kindOn_110 (by decide) ?_
          exact z_iret hx hb hr hK hS (Nat.le_of_ble_eq_true rfl) (Nat.le_of_ble_eq_true rfl) hlocks dX12_kindOn_120 (shM, ad, I, J, PM ad) hW ⟨rfl, (by have q1 := (lp1km).1; have q2 := (lp1km).2; have q3 : y2.toNatClampNeg = (I 0 2).toNatClampNeg := (by show y2.toInt.toNat = (I 0 2).toInt.toNat; omega); rw [q3] at q1; exact (z_kmr_0 q1 (by omega)).symm)⟩
      · have g12 := z_f_nge rfl rfl c5
        have b13 := Int32.toInt_lt y2
        refine lv_aload_n hx hb dX12_kindOn_15 rfl (lv_at hl 2 rfl) ?_
        refine z_get (T := TX12) (N := 96) (ci := 12) (i := 0) (v := .ref (ad 6)) hx hb hts zj_X12_kindOn_X12 hown hK hW rfl rfl 8 (by decide) (hts (.fieldLink RX12 25 "PetrolBoardModel" "noteWho" "[I") (me_s (me_l (List.mem_of_getElem? (i := 1) rfl)))) (fun _ h => h) rfl dX12_kindOn_16 ?_
        refine lv_iload hx hb dX12_kindOn_19 (lv_at hl 0 rfl) ?_
        refine z_iald (i := 6) hx hb hK hW rfl (z_ix rfl (by omega) (by omega)) dX12_kindOn_21 ?_
        refine lv_topi (fun x14 ex14 => ?_)
        refine lv_iload_n hx hb dX12_kindOn_22 rfl (lv_at hl 3 rfl) ?_
        refine lv_icmp_ne (tgt := 98) hx hb dX12_kindOn_23 (by decide) (fun c15 => ?_) (fun c15 => ?_)
        · have g16 := z_f_ne rfl rfl c15
          have b17 := Int32.toInt_lt x14
          have b18 := Int32.toInt_lt a1
          obtain ⟨x19, ex19⟩ : ∃ y : Int32, y = y2 + 1 := ⟨_, rfl⟩
          have tx19 : x19.toInt = y2.toInt + 1 := z_tadd ex19 rfl z_l1 (by omega) (by omega)
          refine lv_iinc (v := x19) (lv' := [(5, .int x19), (4, .int y3), (0, .ref (ad 0)), (1, .int a1), (2, .int a2), (3, .int a3)]) hx hb dX12_kindOn_98 hl (k := 0) rfl (by rw [ex19]; rfl) (by decide) rfl (fun ls hl => ?_)
          refine lv_goto (tgt := 6) hx hb dX12_kindOn_101 (by decide) ?_
          exact lp1ih x19 y3 _ _ _ (by omega) (by omega) (by omega) (by omega) ⟨z_km_no lp1l5 tx19 (lp1km).1 (by have := congrArg Int32.toInt ex14; omega), by have := (lp1km).2; omega⟩ hW hS (lv_sub hl [0, 1, 2, 3, 4, 5] rfl)
        · have g20 := z_f_eq rfl rfl c15
          have b21 := Int32.toInt_lt x14
          have b22 := Int32.toInt_lt a1
          refine lv_aload_n hx hb dX12_kindOn_26 rfl (lv_at hl 2 rfl) ?_
          refine z_get (T := TX12) (N := 96) (ci := 12) (i := 0) (v := .ref (ad 8)) hx hb hts zj_X12_kindOn_X12 hown hK hW rfl rfl 10 (by decide) (hts (.fieldLink RX12 31 "PetrolBoardModel" "noteFrom" "[I") (me_s (me_l (List.mem_of_getElem? (i := 2) rfl)))) (fun _ h => h) rfl dX12_kindOn_27 ?_
          refine lv_iload hx hb dX12_kindOn_30 (lv_at hl 0 rfl) ?_
          refine z_iald (i := 8) hx hb hK hW rfl (z_ix rfl (by omega) (by omega)) dX12_kindOn_32 ?_
          refine lv_topi (fun x23 ex23 => ?_)
          refine lv_iload_n hx hb dX12_kindOn_33 rfl (lv_at hl 4 rfl) ?_
          refine lv_icmp_gt (tgt := 98) hx hb dX12_kindOn_34 (by decide) (fun c24 => ?_) (fun c24 => ?_)
          · have g25 := z_f_gt rfl rfl c24
            have b26 := Int32.toInt_lt x23
            have b27 := Int32.toInt_lt a2
            obtain ⟨x28, ex28⟩ : ∃ y : Int32, y = y2 + 1 := ⟨_, rfl⟩
            have tx28 : x28.toInt = y2.toInt + 1 := z_tadd ex28 rfl z_l1 (by omega) (by omega)
            refine lv_iinc (v := x28) (lv' := [(5, .int x28), (4, .int y3), (0, .ref (ad 0)), (1, .int a1), (2, .int a2), (3, .int a3)]) hx hb dX12_kindOn_98 hl (k := 0) rfl (by rw [ex28]; rfl) (by decide) rfl (fun ls hl => ?_)
            refine lv_goto (tgt := 6) hx hb dX12_kindOn_101 (by decide) ?_
            exact lp1ih x28 y3 _ _ _ (by omega) (by omega) (by omega) (by omega) ⟨z_km_no lp1l5 tx28 (lp1km).1 (by have := congrArg Int32.toInt ex14; have := congrArg Int32.toInt ex23; omega), by have := (lp1km).2; omega⟩ hW hS (lv_sub hl [0, 1, 2, 3, 4, 5] rfl)
          · have g29 := z_f_ngt rfl rfl c24
            have b30 := Int32.toInt_lt x23
            have b31 := Int32.toInt_lt a2
            refine lv_aload_n hx hb dX12_kindOn_37 rfl (lv_at hl 2 rfl) ?_
            refine z_get (T := TX12) (N := 96) (ci := 12) (i := 0) (v := .ref (ad 9)) hx hb hts zj_X12_kindOn_X12 hown hK hW rfl rfl 11 (by decide) (hts (.fieldLink RX12 34 "PetrolBoardModel" "noteTold" "[I") (me_s (me_l (List.mem_of_getElem? (i := 3) rfl)))) (fun _ h => h) rfl dX12_kindOn_38 ?_
            refine lv_iload hx hb dX12_kindOn_41 (lv_at hl 0 rfl) ?_
            refine z_iald (i := 9) hx hb hK hW rfl (z_ix rfl (by omega) (by omega)) dX12_kindOn_43 ?_
            refine lv_topi (fun x32 ex32 => ?_)
            refine lv_iload_n hx hb dX12_kindOn_44 rfl (lv_at hl 5 rfl) ?_
            refine lv_icmp_gt (tgt := 98) hx hb dX12_kindOn_45 (by decide) (fun c33 => ?_) (fun c33 => ?_)
            · have g34 := z_f_gt rfl rfl c33
              have b35 := Int32.toInt_lt x32
              have b36 := Int32.toInt_lt a3
              obtain ⟨x37, ex37⟩ : ∃ y : Int32, y = y2 + 1 := ⟨_, rfl⟩
              have tx37 : x37.toInt = y2.toInt + 1 := z_tadd ex37 rfl z_l1 (by omega) (by omega)
              refine lv_iinc (v := x37) (lv' := [(5, .int x37), (4, .int y3), (0, .ref (ad 0)), (1, .int a1), (2, .int a2), (3, .int a3)]) hx hb dX12_kindOn_98 hl (k := 0) rfl (by rw [ex37]; rfl) (by decide) rfl (fun ls hl => ?_)
              refine lv_goto (tgt := 6) hx hb dX12_kindOn_101 (by decide) ?_
              exact lp1ih x37 y3 _ _ _ (by omega) (by omega) (by omega) (by omega) ⟨z_km_no lp1l5 tx37 (lp1km).1 (by have := congrArg Int32.toInt ex14; have := congrArg Int32.toInt ex23; have := congrArg Int32.toInt ex32; omega), by have := (lp1km).2; omega⟩ hW hS (lv_sub hl [0, 1, 2, 3, 4, 5] rfl)
            · have g38 := z_f_ngt rfl rfl c33
              have b39 := Int32.toInt_lt x32
              have b40 := Int32.toInt_lt a3
              refine lv_aload_n hx hb dX12_kindOn_48 rfl (lv_at hl 2 rfl) ?_
              refine z_get (T := TX12) (N := 96) (ci := 12) (i := 0) (v := .ref (ad 10)) hx hb hts zj_X12_kindOn_X12 hown hK hW rfl rfl 12 (by decide) (hts (.fieldLink RX12 37 "PetrolBoardModel" "noteGone" "[I") (me_s (me_l (List.mem_of_getElem? (i := 4) rfl)))) (fun _ h => h) rfl dX12_kindOn_49 ?_
              refine lv_iload hx hb dX12_kindOn_52 (lv_at hl 0 rfl) ?_
              refine z_iald (i := 10) hx hb hK hW rfl (z_ix rfl (by omega) (by omega)) dX12_kindOn_54 ?_
              refine lv_topi (fun x41 ex41 => ?_)
              refine lv_if_lt (tgt := 72) hx hb dX12_kindOn_55 (by decide) (fun c42 => ?_) (fun c42 => ?_)
              · have g43 := z_f_lt rfl z_l0 c42
                have b44 := Int32.toInt_lt x41
                refine lv_iload hx hb dX12_kindOn_72 (lv_at hl 1 rfl) ?_
                refine lv_if_lt (tgt := 94) hx hb dX12_kindOn_74 (by decide) (fun c45 => ?_) (fun c45 => ?_)
                · have g46 := z_f_lt rfl z_l0 c45
                  refine lv_iload hx hb dX12_kindOn_94 (lv_at hl 0 rfl) ?_
                  refine lv_istore (lv' := [(4, .int y2), (5, .int y2), (0, .ref (ad 0)), (1, .int a1), (2, .int a2), (3, .int a3)]) hx hb dX12_kindOn_96 hl (by decide) rfl (fun ls hl => ?_)
                  obtain ⟨x47, ex47⟩ : ∃ y : Int32, y = y2 + 1 := ⟨_, rfl⟩
                  have tx47 : x47.toInt = y2.toInt + 1 := z_tadd ex47 rfl z_l1 (by omega) (by omega)
                  refine lv_iinc (v := x47) (lv' := [(5, .int x47), (4, .int y2), (0, .ref (ad 0)), (1, .int a1), (2, .int a2), (3, .int a3)]) hx hb dX12_kindOn_98 hl (k := 1) rfl (by rw [ex47]; rfl) (by decide) rfl (fun ls hl => ?_)
                  refine lv_goto (tgt := 6) hx hb dX12_kindOn_101 (by decide) ?_
                  exact lp1ih x47 y2 _ _ _ (by omega) (by omega) (by omega) (by omega) ⟨z_km_yes lp1l5 tx47 (lp1km).1 (by have := congrArg Int32.toInt ex14; have := congrArg Int32.toInt ex23; have := congrArg Int32.toInt ex32; have := congrArg Int32.toInt ex41; omega), by have := (lp1km).2; omega⟩ hW hS (lv_sub hl [0, 1, 2, 3, 4, 5] rfl)
                · have g48 := z_f_nlt rfl z_l0 c45
                  refine lv_aload_n hx hb dX12_kindOn_77 rfl (lv_at hl 2 rfl) ?_
                  refine z_get (T := TX12) (N := 96) (ci := 12) (i := 0) (v := .ref (ad 8)) hx hb hts zj_X12_kindOn_X12 hown hK hW rfl rfl 10 (by decide) (hts (.fieldLink RX12 31 "PetrolBoardModel" "noteFrom" "[I") (me_s (me_l (List.mem_of_getElem? (i := 2) rfl)))) (fun _ h => h) rfl dX12_kindOn_78 ?_
                  refine lv_iload hx hb dX12_kindOn_81 (lv_at hl 0 rfl) ?_
                  refine z_iald (i := 8) hx hb hK hW rfl (z_ix rfl (by omega) (by omega)) dX12_kindOn_83 ?_
                  refine z_topi (v := x23) ex23.symm ?_
                  refine lv_aload_n hx hb dX12_kindOn_84 rfl (lv_at hl 2 rfl) ?_
                  refine z_get (T := TX12) (N := 96) (ci := 12) (i := 0) (v := .ref (ad 8)) hx hb hts zj_X12_kindOn_X12 hown hK hW rfl rfl 10 (by decide) (hts (.fieldLink RX12 31 "PetrolBoardModel" "noteFrom" "[I") (me_s (me_l (List.mem_of_getElem? (i := 2) rfl)))) (fun _ h => h) rfl dX12_kindOn_85 ?_
                  refine lv_iload hx hb dX12_kindOn_88 (lv_at hl 1 rfl) ?_
                  refine z_iald (i := 8) hx hb hK hW rfl (z_ix rfl (by omega) (by omega)) dX12_kindOn_90 ?_
                  refine lv_topi (fun x49 ex49 => ?_)
                  refine lv_icmp_lt (tgt := 98) hx hb dX12_kindOn_91 (by decide) (fun c50 => ?_) (fun c50 => ?_)
                  · have g51 := z_f_lt rfl rfl c50
                    have b52 := Int32.toInt_lt x49
                    obtain ⟨x53, ex53⟩ : ∃ y : Int32, y = y2 + 1 := ⟨_, rfl⟩
                    have tx53 : x53.toInt = y2.toInt + 1 := z_tadd ex53 rfl z_l1 (by omega) (by omega)
                    refine lv_iinc (v := x53) (lv' := [(5, .int x53), (4, .int y3), (0, .ref (ad 0)), (1, .int a1), (2, .int a2), (3, .int a3)]) hx hb dX12_kindOn_98 hl (k := 0) rfl (by rw [ex53]; rfl) (by decide) rfl (fun ls hl => ?_)
                    refine lv_goto (tgt := 6) hx hb dX12_kindOn_101 (by decide) ?_
                    exact lp1ih x53 y3 _ _ _ (by omega) (by omega) (by omega) (by omega) ⟨z_km_no lp1l5 tx53 (lp1km).1 (by have := congrArg Int32.toInt ex14; have := congrArg Int32.toInt ex23; have := congrArg Int32.toInt ex32; have := congrArg Int32.toInt ex41; have := congrArg Int32.toInt ex49; omega), by have := (lp1km).2; omega⟩ hW hS (lv_sub hl [0, 1, 2, 3, 4, 5] rfl)
                  · have g54 := z_f_nlt rfl rfl c50
                    have b55 := Int32.toInt_lt x49
                    refine lv_iload hx hb dX12_kindOn_94 (lv_at hl 0 rfl) ?_
                    refine lv_istore (lv' := [(4, .int y2), (5, .int y2), (0, .ref (ad 0)), (1, .int a1), (2, .int a2), (3, .int a3)]) hx hb dX12_kindOn_96 hl (by decide) rfl (fun ls hl => ?_)
                    obtain ⟨x56, ex56⟩ : ∃ y : Int32, y = y2 + 1 := ⟨_, rfl⟩
                    have tx56 : x56.toInt = y2.toInt + 1 := z_tadd ex56 rfl z_l1 (by omega) (by omega)
                    refine lv_iinc (v := x56) (lv' := [(5, .int x56), (4, .int y2), (0, .ref (ad 0)), (1, .int a1), (2, .int a2), (3, .int a3)]) hx hb dX12_kindOn_98 hl (k := 1) rfl (by rw [ex56]; rfl) (by decide) rfl (fun ls hl => ?_)
                    refine lv_goto (tgt := 6) hx hb dX12_kindOn_101 (by decide) ?_
                    exact lp1ih x56 y2 _ _ _ (by omega) (by omega) (by omega) (by omega) ⟨z_km_yes lp1l5 tx56 (lp1km).1 (by have := congrArg Int32.toInt ex14; have := congrArg Int32.toInt ex23; have := congrArg Int32.toInt ex32; have := congrArg Int32.toInt ex41; have := congrArg Int32.toInt ex49; omega), by have := (lp1km).2; omega⟩ hW hS (lv_sub hl [0, 1, 2, 3, 4, 5] rfl)
              · have g57 := z_f_nlt rfl z_l0 c42
                have b58 := Int32.toInt_lt x41
                refine lv_aload_n hx hb dX12_kindOn_58 rfl (lv_at hl 2 rfl) ?_
                refine z_get (T := TX12) (N := 96) (ci := 12) (i := 0) (v := .ref (ad 10)) hx hb hts zj_X12_kindOn_X12 hown hK hW rfl rfl 12 (by decide) (hts (.fieldLink RX12 37 "PetrolBoardModel" "noteGone" "[I") (me_s (me_l (List.mem_of_getElem? (i := 4) rfl)))) (fun _ h => h) rfl dX12_kindOn_59 ?_
                refine lv_iload hx hb dX12_kindOn_62 (lv_at hl 0 rfl) ?_
                refine z_iald (i := 10) hx hb hK hW rfl (z_ix rfl (by omega) (by omega)) dX12_kindOn_64 ?_
                refine z_topi (v := x41) ex41.symm ?_
                refine lv_iload_n hx hb dX12_kindOn_65 rfl (lv_at hl 5 rfl) ?_
                refine lv_icmp_gt (tgt := 72) hx hb dX12_kindOn_66 (by decide) (fun c59 => ?_) (fun c59 => ?_)
                · have g60 := z_f_gt rfl rfl c59
                  refine lv_iload hx hb dX12_kindOn_72 (lv_at hl 1 rfl) ?_
                  refine lv_if_lt (tgt := 94) hx hb dX12_kindOn_74 (by decide) (fun c61 => ?_) (fun c61 => ?_)
                  · have g62 := z_f_lt rfl z_l0 c61
                    refine lv_iload hx hb dX12_kindOn_94 (lv_at hl 0 rfl) ?_
                    refine lv_istore (lv' := [(4, .int y2), (5, .int y2), (0, .ref (ad 0)), (1, .int a1), (2, .int a2), (3, .int a3)]) hx hb dX12_kindOn_96 hl (by decide) rfl (fun ls hl => ?_)
                    obtain ⟨x63, ex63⟩ : ∃ y : Int32, y = y2 + 1 := ⟨_, rfl⟩
                    have tx63 : x63.toInt = y2.toInt + 1 := z_tadd ex63 rfl z_l1 (by omega) (by omega)
                    refine lv_iinc (v := x63) (lv' := [(5, .int x63), (4, .int y2), (0, .ref (ad 0)), (1, .int a1), (2, .int a2), (3, .int a3)]) hx hb dX12_kindOn_98 hl (k := 1) rfl (by rw [ex63]; rfl) (by decide) rfl (fun ls hl => ?_)
                    refine lv_goto (tgt := 6) hx hb dX12_kindOn_101 (by decide) ?_
                    exact lp1ih x63 y2 _ _ _ (by omega) (by omega) (by omega) (by omega) ⟨z_km_yes lp1l5 tx63 (lp1km).1 (by have := congrArg Int32.toInt ex14; have := congrArg Int32.toInt ex23; have := congrArg Int32.toInt ex32; have := congrArg Int32.toInt ex41; omega), by have := (lp1km).2; omega⟩ hW hS (lv_sub hl [0, 1, 2, 3, 4, 5] rfl)
                  · have g64 := z_f_nlt rfl z_l0 c61
                    refine lv_aload_n hx hb dX12_kindOn_77 rfl (lv_at hl 2 rfl) ?_
                    refine z_get (T := TX12) (N := 96) (ci := 12) (i := 0) (v := .ref (ad 8)) hx hb hts zj_X12_kindOn_X12 hown hK hW rfl rfl 10 (by decide) (hts (.fieldLink RX12 31 "PetrolBoardModel" "noteFrom" "[I") (me_s (me_l (List.mem_of_getElem? (i := 2) rfl)))) (fun _ h => h) rfl dX12_kindOn_78 ?_
                    refine lv_iload hx hb dX12_kindOn_81 (lv_at hl 0 rfl) ?_
                    refine z_iald (i := 8) hx hb hK hW rfl (z_ix rfl (by omega) (by omega)) dX12_kindOn_83 ?_
                    refine z_topi (v := x23) ex23.symm ?_
                    refine lv_aload_n hx hb dX12_kindOn_84 rfl (lv_at hl 2 rfl) ?_
                    refine z_get (T := TX12) (N := 96) (ci := 12) (i := 0) (v := .ref (ad 8)) hx hb hts zj_X12_kindOn_X12 hown hK hW rfl rfl 10 (by decide) (hts (.fieldLink RX12 31 "PetrolBoardModel" "noteFrom" "[I") (me_s (me_l (List.mem_of_getElem? (i := 2) rfl)))) (fun _ h => h) rfl dX12_kindOn_85 ?_
                    refine lv_iload hx hb dX12_kindOn_88 (lv_at hl 1 rfl) ?_
                    refine z_iald (i := 8) hx hb hK hW rfl (z_ix rfl (by omega) (by omega)) dX12_kindOn_90 ?_
                    refine lv_topi (fun x65 ex65 => ?_)
                    refine lv_icmp_lt (tgt := 98) hx hb dX12_kindOn_91 (by decide) (fun c66 => ?_) (fun c66 => ?_)
                    · have g67 := z_f_lt rfl rfl c66
                      have b68 := Int32.toInt_lt x65
                      obtain ⟨x69, ex69⟩ : ∃ y : Int32, y = y2 + 1 := ⟨_, rfl⟩
                      have tx69 : x69.toInt = y2.toInt + 1 := z_tadd ex69 rfl z_l1 (by omega) (by omega)
                      refine lv_iinc (v := x69) (lv' := [(5, .int x69), (4, .int y3), (0, .ref (ad 0)), (1, .int a1), (2, .int a2), (3, .int a3)]) hx hb dX12_kindOn_98 hl (k := 0) rfl (by rw [ex69]; rfl) (by decide) rfl (fun ls hl => ?_)
                      refine lv_goto (tgt := 6) hx hb dX12_kindOn_101 (by decide) ?_
                      exact lp1ih x69 y3 _ _ _ (by omega) (by omega) (by omega) (by omega) ⟨z_km_no lp1l5 tx69 (lp1km).1 (by have := congrArg Int32.toInt ex14; have := congrArg Int32.toInt ex23; have := congrArg Int32.toInt ex32; have := congrArg Int32.toInt ex41; have := congrArg Int32.toInt ex65; omega), by have := (lp1km).2; omega⟩ hW hS (lv_sub hl [0, 1, 2, 3, 4, 5] rfl)
                    · have g70 := z_f_nlt rfl rfl c66
                      have b71 := Int32.toInt_lt x65
                      refine lv_iload hx hb dX12_kindOn_94 (lv_at hl 0 rfl) ?_
                      refine lv_istore (lv' := [(4, .int y2), (5, .int y2), (0, .ref (ad 0)), (1, .int a1), (2, .int a2), (3, .int a3)]) hx hb dX12_kindOn_96 hl (by decide) rfl (fun ls hl => ?_)
                      obtain ⟨x72, ex72⟩ : ∃ y : Int32, y = y2 + 1 := ⟨_, rfl⟩
                      have tx72 : x72.toInt = y2.toInt + 1 := z_tadd ex72 rfl z_l1 (by omega) (by omega)
                      refine lv_iinc (v := x72) (lv' := [(5, .int x72), (4, .int y2), (0, .ref (ad 0)), (1, .int a1), (2, .int a2), (3, .int a3)]) hx hb dX12_kindOn_98 hl (k := 1) rfl (by rw [ex72]; rfl) (by decide) rfl (fun ls hl => ?_)
                      refine lv_goto (tgt := 6) hx hb dX12_kindOn_101 (by decide) ?_
                      exact lp1ih x72 y2 _ _ _ (by omega) (by omega) (by omega) (by omega) ⟨z_km_yes lp1l5 tx72 (lp1km).1 (by have := congrArg Int32.toInt ex14; have := congrArg Int32.toInt ex23; have := congrArg Int32.toInt ex32; have := congrArg Int32.toInt ex41; have := congrArg Int32.toInt ex65; omega), by have := (lp1km).2; omega⟩ hW hS (lv_sub hl [0, 1, 2, 3, 4, 5] rfl)
                · have g73 := z_f_ngt rfl rfl c59
                  refine lv_goto (tgt := 98) hx hb dX12_kindOn_69 (by decide) ?_
                  obtain ⟨x74, ex74⟩ : ∃ y : Int32, y = y2 + 1 := ⟨_, rfl⟩
                  have tx74 : x74.toInt = y2.toInt + 1 := z_tadd ex74 rfl z_l1 (by omega) (by omega)
                  refine lv_iinc (v := x74) (lv' := [(5, .int x74), (4, .int y3), (0, .ref (ad 0)), (1, .int a1), (2, .int a2), (3, .int a3)]) hx hb dX12_kindOn_98 hl (k := 0) rfl (by rw [ex74]; rfl) (by decide) rfl (fun ls hl => ?_)
                  refine lv_goto (tgt := 6) hx hb dX12_kindOn_101 (by decide) ?_
                  exact lp1ih x74 y3 _ _ _ (by omega) (by omega) (by omega) (by omega) ⟨z_km_no lp1l5 tx74 (lp1km).1 (by have := congrArg Int32.toInt ex14; have := congrArg Int32.toInt ex23; have := congrArg Int32.toInt ex32; have := congrArg Int32.toInt ex41; omega), by have := (lp1km).2; omega⟩ hW hS (lv_sub hl [0, 1, 2, 3, 4, 5] rfl)
  exact lp1 4294967296 (0) ((-1)) _ _ _ (z_m0u _) (by rw [z_l0]; omega) (by rw [z_lm1]; omega) (by rw [z_lm1]; omega) ⟨rfl, by have := hma.2.2.1; have := z_l0; omega⟩ hW hS (lv_sub hl [0, 1, 2, 3, 4, 5] rfl)
noncomputable def L_X2_addNote_r : z_L := [(7, 999), (8, 999), (9, 999), (10, 999), (11, 999), (1, 11)]
set_option maxHeartbeats 8000000 in
set_option maxRecDepth 100000 in
theorem sx_X2_addNote_r (l : Launch) (G : z_G) (ad : Nat → Nat) (c : z_C) (I : z_I) (hH : z_iH I) (a1 : Int32) (a2 : Int32) (a3 : Int32) (a4 : Int32) : z_M l yX2_addNote wsX2_addNote { frames := 1, cells := 0, slots := 0, locals := 12 } [.ref (ad 1), .int a1, .int a2, .int a3, .int a4] G (shC c, ad, I, JX, PC c ad) (fun r u1 => ∃ I1 : z_I, u1 = (shC c, ad, I1, JX, PC c ad) ∧ z_iH I1 ∧ z_fr L_X2_addNote_r I1 I ∧ ((((I 1 11).toInt < 200) ∧ r.toInt = (I 1 11).toInt ∧ (I1 1 11).toInt = (I 1 11).toInt + 1 ∧ z_nrX I1 I (I 1 11).toNatClampNeg a1 a2 a3 a4) ∨ (¬ ((I 1 11).toInt < 200) ∧ r.toInt = -1 ∧ (I1 1 11).toInt = (I 1 11).toInt ∧ z_nsX I1 I))) 0 0 := by
  intro sz
  refine z_headQ (cc := cX2_addNote) (maxL := 5) (ret := (some .int)) (by decide) rfl (Nat.le_of_ble_eq_true rfl) ?_
  intro p e s m below meth c0 ls hIn hK hsz hW hl
  obtain ⟨hx, hb, hr, hml, hown, hts, hlocks, hname⟩ := hIn
  subst hsz
  have hown : s.vm.findClass RX2 = some m.cls := hown
  have hA : ∀ q : Nat, s.heap.size ≤ q → z_A (shC c, ad, I, JX, PC c ad) s.heap.size q := fun q h => Or.inr h
  generalize hAe : z_A (shC c, ad, I, JX, PC c ad) s.heap.size = A at *
  have hS : va_S A s.heap s.heap [] := va_S.rf
  have hl : lv_has ls 5 [(0, .ref (ad 1)), (1, .int a1), (2, .int a2), (3, .int a3), (4, .int a4)] := hl
  refine lv_aload_n hx hb dX2_addNote_0 rfl (lv_at hl 0 rfl) ?_
  have r1 : 0 ≤ (I 1 11).toInt ∧ (I 1 11).toInt ≤ 200 := hH.2
  refine z_get (T := TX2) (N := 12) (ci := 2) (i := 1) (v := .int (I 1 11)) hx hb hts zj_X2_addNote_X2 hown hK hW rfl rfl 11 (by decide) (hts (.fieldLink RX2 46 "PetrolBoard$Holders" "notes" "I") (me_s (me_l (List.mem_of_getElem? (i := 0) rfl)))) (fun _ h => h) rfl dX2_addNote_1 ?_
  refine lv_sipush (v := 200) hx hb dX2_addNote_4 (by decide) ?_
  refine lv_icmp_lt (tgt := 12) hx hb dX2_addNote_7 (by decide) (fun c2 => ?_) (fun c2 => ?_)
  · have g3 := z_f_lt rfl z_l200 c2
    refine lv_aload_n hx hb dX2_addNote_12 rfl (lv_at hl 0 rfl) ?_
    refine z_get (T := TX2) (N := 12) (ci := 2) (i := 1) (v := .ref (ad 7)) hx hb hts zj_X2_addNote_X2 hown hK hW rfl rfl 6 (by decide) (hts (.fieldLink RX2 27 "PetrolBoard$Holders" "noteOf" "[I") (me_s (me_l (List.mem_of_getElem? (i := 1) rfl)))) (fun _ h => h) rfl dX2_addNote_13 ?_
    refine lv_aload_n hx hb dX2_addNote_16 rfl (lv_at hl 0 rfl) ?_
    refine z_get (T := TX2) (N := 12) (ci := 2) (i := 1) (v := .int (I 1 11)) hx hb hts zj_X2_addNote_X2 hown hK hW rfl rfl 11 (by decide) (hts (.fieldLink RX2 46 "PetrolBoard$Holders" "notes" "I") (me_s (me_l (List.mem_of_getElem? (i := 0) rfl)))) (fun _ h => h) rfl dX2_addNote_17 ?_
    refine lv_iload_n hx hb dX2_addNote_20 rfl (lv_at hl 1 rfl) ?_
    refine z_iast (i := 7) hx hb hK hW hS rfl (z_ix rfl (by omega) (by omega)) dX2_addNote_21 (fun H locs hz1 hW hS => ?_)
    obtain ⟨I4, eI4⟩ : ∃ K : z_I, K = z_up I 7 (I 1 11).toNatClampNeg a1 := ⟨_, rfl⟩
    rw [← eI4] at hW
    have f5 := z_fr_a z_fr_0 (show z_wa L_X2_addNote_r 7 = true by decide) eI4
    refine lv_aload_n hx hb dX2_addNote_22 rfl (lv_at hl 0 rfl) ?_
    refine z_get (T := TX2) (N := 12) (ci := 2) (i := 1) (v := .ref (ad 8)) hx hb hts zj_X2_addNote_X2 hown hK hW rfl rfl 7 (by decide) (hts (.fieldLink RX2 30 "PetrolBoard$Holders" "kind" "[I") (me_s (me_l (List.mem_of_getElem? (i := 2) rfl)))) (fun _ h => h) rfl dX2_addNote_23 ?_
    refine lv_aload_n hx hb dX2_addNote_26 rfl (lv_at hl 0 rfl) ?_
    refine z_get (T := TX2) (N := 12) (ci := 2) (i := 1) (v := .int (I 1 11)) hx hb hts zj_X2_addNote_X2 hown hK hW rfl rfl 11 (by decide) (hts (.fieldLink RX2 46 "PetrolBoard$Holders" "notes" "I") (me_s (me_l (List.mem_of_getElem? (i := 0) rfl)))) (fun _ h => h) (congrArg Value.int (by rw [eI4, z_up_n (by decide)])) dX2_addNote_27 ?_
    refine lv_iload_n hx hb dX2_addNote_30 rfl (lv_at hl 2 rfl) ?_
    refine z_iast (i := 8) hx hb hK hW hS rfl (z_ix rfl (by omega) (by omega)) dX2_addNote_31 (fun H locs hz1 hW hS => ?_)
    obtain ⟨I6, eI6⟩ : ∃ K : z_I, K = z_up I4 8 (I 1 11).toNatClampNeg a2 := ⟨_, rfl⟩
    rw [← eI6] at hW
    have f7 := z_fr_a f5 (show z_wa L_X2_addNote_r 8 = true by decide) eI6
    refine lv_aload_n hx hb dX2_addNote_32 rfl (lv_at hl 0 rfl) ?_
    refine z_get (T := TX2) (N := 12) (ci := 2) (i := 1) (v := .ref (ad 9)) hx hb hts zj_X2_addNote_X2 hown hK hW rfl rfl 8 (by decide) (hts (.fieldLink RX2 33 "PetrolBoard$Holders" "from" "[I") (me_s (me_l (List.mem_of_getElem? (i := 3) rfl)))) (fun _ h => h) rfl dX2_addNote_33 ?_
    refine lv_aload_n hx hb dX2_addNote_36 rfl (lv_at hl 0 rfl) ?_
    refine z_get (T := TX2) (N := 12) (ci := 2) (i := 1) (v := .int (I 1 11)) hx hb hts zj_X2_addNote_X2 hown hK hW rfl rfl 11 (by decide) (hts (.fieldLink RX2 46 "PetrolBoard$Holders" "notes" "I") (me_s (me_l (List.mem_of_getElem? (i := 0) rfl)))) (fun _ h => h) (congrArg Value.int (by rw [eI6, z_up_n (by decide), eI4, z_up_n (by decide)])) dX2_addNote_37 ?_
    refine lv_iload_n hx hb dX2_addNote_40 rfl (lv_at hl 3 rfl) ?_
    refine z_iast (i := 9) hx hb hK hW hS rfl (z_ix rfl (by omega) (by omega)) dX2_addNote_41 (fun H locs hz1 hW hS => ?_)
    obtain ⟨I8, eI8⟩ : ∃ K : z_I, K = z_up I6 9 (I 1 11).toNatClampNeg a3 := ⟨_, rfl⟩
    rw [← eI8] at hW
    have f9 := z_fr_a f7 (show z_wa L_X2_addNote_r 9 = true by decide) eI8
    refine lv_aload_n hx hb dX2_addNote_42 rfl (lv_at hl 0 rfl) ?_
    refine z_get (T := TX2) (N := 12) (ci := 2) (i := 1) (v := .ref (ad 10)) hx hb hts zj_X2_addNote_X2 hown hK hW rfl rfl 9 (by decide) (hts (.fieldLink RX2 36 "PetrolBoard$Holders" "toldOn" "[I") (me_s (me_l (List.mem_of_getElem? (i := 4) rfl)))) (fun _ h => h) rfl dX2_addNote_43 ?_
    refine lv_aload_n hx hb dX2_addNote_46 rfl (lv_at hl 0 rfl) ?_
    refine z_get (T := TX2) (N := 12) (ci := 2) (i := 1) (v := .int (I 1 11)) hx hb hts zj_X2_addNote_X2 hown hK hW rfl rfl 11 (by decide) (hts (.fieldLink RX2 46 "PetrolBoard$Holders" "notes" "I") (me_s (me_l (List.mem_of_getElem? (i := 0) rfl)))) (fun _ h => h) (congrArg Value.int (by rw [eI8, z_up_n (by decide), eI6, z_up_n (by decide), eI4, z_up_n (by decide)])) dX2_addNote_47 ?_
    refine lv_iload hx hb dX2_addNote_50 (lv_at hl 4 rfl) ?_
    refine z_iast (i := 10) hx hb hK hW hS rfl (z_ix rfl (by omega) (by omega)) dX2_addNote_52 (fun H locs hz1 hW hS => ?_)
    obtain ⟨I10, eI10⟩ : ∃ K : z_I, K = z_up I8 10 (I 1 11).toNatClampNeg a4 := ⟨_, rfl⟩
    rw [← eI10] at hW
    have f11 := z_fr_a f9 (show z_wa L_X2_addNote_r 10 = true by decide) eI10
    refine lv_aload_n hx hb dX2_addNote_53 rfl (lv_at hl 0 rfl) ?_
    refine z_get (T := TX2) (N := 12) (ci := 2) (i := 1) (v := .ref (ad 11)) hx hb hts zj_X2_addNote_X2 hown hK hW rfl rfl 10 (by decide) (hts (.fieldLink RX2 39 "PetrolBoard$Holders" "undoneOn" "[I") (me_s (me_l (List.mem_of_getElem? (i := 5) rfl)))) (fun _ h => h) rfl dX2_addNote_54 ?_
    refine lv_aload_n hx hb dX2_addNote_57 rfl (lv_at hl 0 rfl) ?_
    refine z_get (T := TX2) (N := 12) (ci := 2) (i := 1) (v := .int (I 1 11)) hx hb hts zj_X2_addNote_X2 hown hK hW rfl rfl 11 (by decide) (hts (.fieldLink RX2 46 "PetrolBoard$Holders" "notes" "I") (me_s (me_l (List.mem_of_getElem? (i := 0) rfl)))) (fun _ h => h) (congrArg Value.int (by rw [eI10, z_up_n (by decide), eI8, z_up_n (by decide), eI6, z_up_n (by decide), eI4, z_up_n (by decide)])) dX2_addNote_58 ?_
    refine lv_sipush (v := 720) hx hb dX2_addNote_61 (by decide) ?_
    refine z_iast (i := 11) hx hb hK hW hS rfl (z_ix rfl (by omega) (by omega)) dX2_addNote_64 (fun H locs hz1 hW hS => ?_)
    obtain ⟨I12, eI12⟩ : ∃ K : z_I, K = z_up I10 11 (I 1 11).toNatClampNeg 720 := ⟨_, rfl⟩
    rw [← eI12] at hW
    have f13 := z_fr_a f11 (show z_wa L_X2_addNote_r 11 = true by decide) eI12
    refine lv_aload_n hx hb dX2_addNote_65 rfl (lv_at hl 0 rfl) ?_
    refine lv_dup hx hb dX2_addNote_66 rfl ?_
    refine z_get (T := TX2) (N := 12) (ci := 2) (i := 1) (v := .int (I 1 11)) hx hb hts zj_X2_addNote_X2 hown hK hW rfl rfl 11 (by decide) (hts (.fieldLink RX2 46 "PetrolBoard$Holders" "notes" "I") (me_s (me_l (List.mem_of_getElem? (i := 0) rfl)))) (fun _ h => h) (congrArg Value.int (by rw [eI12, z_up_n (by decide), eI10, z_up_n (by decide), eI8, z_up_n (by decide), eI6, z_up_n (by decide), eI4, z_up_n (by decide)])) dX2_addNote_67 ?_
    refine lv_iconst (v := 1) hx hb dX2_addNote_70 (by decide) ?_
    refine lv_iadd hx hb dX2_addNote_71 ?_
    refine lv_topi (fun x14 ex14 => ?_)
    have tx14 : x14.toInt = (I 1 11).toInt + 1 := z_tadd ex14 rfl z_l1 (by omega) (by omega)
    refine z_put (T := TX2) (N := 12) (ci := 2) (i := 1) (v := .int x14) (I1 := z_up I12 1 11 x14) (J1 := JX) (P1 := PC c ad) hx hb hts zj_X2_addNote_X2 tyX2 tyX2_ok nmX2 hown hK hW hS rfl rfl 11 (by decide) (hts (.fieldLink RX2 46 "PetrolBoard$Holders" "notes" "I") (me_s (me_l (List.mem_of_getElem? (i := 0) rfl)))) (fun _ h => h) rfl rfl rfl (by first | rfl | exact congrArg _ z_up_s) (fun a b h ty => z_vI h ty) dX2_addNote_72 (fun H locs hz1 hW hS => ?_)
    obtain ⟨I15, eI15⟩ : ∃ K : z_I, K = z_up I12 1 11 x14 := ⟨_, rfl⟩
    rw [← eI15] at hW
    have f16 := z_fr_k f13 (show z_wr L_X2_addNote_r 1 11 = true by decide) eI15
    refine lv_aload_n hx hb dX2_addNote_75 rfl (lv_at hl 0 rfl) ?_
    refine z_get (T := TX2) (N := 12) (ci := 2) (i := 1) (v := .int x14) hx hb hts zj_X2_addNote_X2 hown hK hW rfl rfl 11 (by decide) (hts (.fieldLink RX2 46 "PetrolBoard$Holders" "notes" "I") (me_s (me_l (List.mem_of_getElem? (i := 0) rfl)))) (fun _ h => h) (congrArg Value.int (by rw [eI15, z_up_s])) dX2_addNote_76 ?_
    refine lv_iconst (v := 1) hx hb dX2_addNote_79 (by decide) ?_
    refine lv_isub hx hb dX2_addNote_80 ?_
    refine lv_topi (fun x17 ex17 => ?_)
    have tx17 : x17.toInt = x14.toInt - 1 := z_tsub ex17 rfl z_l1 (by omega) (by omega)
    exact z_iret hx hb hr hK hS (Nat.le_of_ble_eq_true rfl) (Nat.le_of_ble_eq_true rfl) hlocks dX2_addNote_81 (shC c, ad, I15, JX, PC c ad) hW ⟨I15, rfl, ⟨(by show 0 ≤ (I15 1 5).toInt ∧ (I15 1 5).toInt ≤ 30; rw [eI15, z_up_k (by decide), eI12, z_up_n (by decide), eI10, z_up_n (by decide), eI8, z_up_n (by decide), eI6, z_up_n (by decide), eI4, z_up_n (by decide)]; exact hH.1), (by show 0 ≤ (I15 1 11).toInt ∧ (I15 1 11).toInt ≤ 200; rw [eI15, z_up_s]; omega)⟩, f16, (Or.inl ⟨by omega, by omega, (by have q9 : (I15 1 11) = x14 := (by rw [eI15, z_up_s]); show (I15 1 11).toInt = (I 1 11).toInt + 1; rw [q9]; first | done | omega), ⟨(fun j => by rw [eI15, z_up_n (by decide), eI12, z_up_n (by decide), eI10, z_up_n (by decide), eI8, z_up_n (by decide), eI6, z_up_n (by decide), eI4, z_up_j]), (fun j => by rw [eI15, z_up_n (by decide), eI12, z_up_n (by decide), eI10, z_up_n (by decide), eI8, z_up_n (by decide), eI6, z_up_j, eI4, z_up_n (by decide)]), (fun j => by rw [eI15, z_up_n (by decide), eI12, z_up_n (by decide), eI10, z_up_n (by decide), eI8, z_up_j, eI6, z_up_n (by decide), eI4, z_up_n (by decide)]), (fun j => by rw [eI15, z_up_n (by decide), eI12, z_up_n (by decide), eI10, z_up_j, eI8, z_up_n (by decide), eI6, z_up_n (by decide), eI4, z_up_n (by decide)]), (fun j => by rw [eI15, z_up_n (by decide), eI12, z_up_j, eI10, z_up_n (by decide), eI8, z_up_n (by decide), eI6, z_up_n (by decide), eI4, z_up_n (by decide)])⟩⟩)⟩
  · have g18 := z_f_nlt rfl z_l200 c2
    refine lv_iconst (v := (-1)) hx hb dX2_addNote_10 (by decide) ?_
    exact z_iret hx hb hr hK hS (Nat.le_of_ble_eq_true rfl) (Nat.le_of_ble_eq_true rfl) hlocks dX2_addNote_11 (shC c, ad, I, JX, PC c ad) hW ⟨I, rfl, ⟨(by show 0 ≤ (I 1 5).toInt ∧ (I 1 5).toInt ≤ 30; exact hH.1), (by show 0 ≤ (I 1 11).toInt ∧ (I 1 11).toInt ≤ 200; exact hH.2)⟩, z_fr_0, (Or.inr ⟨by omega, by decide, (by show (I 1 11).toInt = (I 1 11).toInt; omega), (fun j => ⟨rfl, rfl, rfl, rfl, rfl⟩)⟩)⟩
noncomputable def L_X11_note_r : z_L := [(7, 999), (8, 999), (9, 999), (10, 999), (11, 999), (1, 11)]
set_option maxHeartbeats 8000000 in
set_option maxRecDepth 100000 in
theorem sx_X11_note_r (l : Launch) (G : z_G) (ad : Nat → Nat) (c : z_C) (I : z_I) (hB : z_iB I) (hH : z_iH I) (a1 : Int32) (a2 : Int32) (a3 : Int32) (hc : z_okc c) (h10 : c.1 ≤ 10) : z_M l yX11_note wsX11_note { frames := 3, cells := 0, slots := 0, locals := 54 } [.ref (ad 0), .int a1, .int a2, .int a3] G (shC c, ad, I, JX, PC c ad) (fun r u1 => ∃ I1 : z_I, u1 = (shC c, ad, I1, JX, PC c ad) ∧ z_iB I1 ∧ z_iH I1 ∧ z_fr L_X11_note_r I1 I ∧ (((0 ≤ a1.toInt ∧ a1.toInt < (I 1 5).toInt ∧ 0 ≤ a2.toInt ∧ a2.toInt ≤ 4 ∧ 0 ≤ a3.toInt ∧ a3.toInt ≤ 719 ∧ (I 1 11).toInt < 200) ∧ r.toInt = (I 1 11).toInt ∧ (I1 1 11).toInt = (I 1 11).toInt + 1 ∧ z_nrX I1 I (I 1 11).toNatClampNeg a1 a2 a3 (I 0 0)) ∨ (¬ (0 ≤ a1.toInt ∧ a1.toInt < (I 1 5).toInt ∧ 0 ≤ a2.toInt ∧ a2.toInt ≤ 4 ∧ 0 ≤ a3.toInt ∧ a3.toInt ≤ 719 ∧ (I 1 11).toInt < 200) ∧ r.toInt = -1 ∧ (I1 1 11).toInt = (I 1 11).toInt ∧ z_nsX I1 I))) 0 0 := by
  intro sz
  refine z_headQ (cc := cX11_note) (maxL := 4) (ret := (some .int)) (by decide) rfl (Nat.le_of_ble_eq_true rfl) ?_
  intro p e s m below meth c0 ls hIn hK hsz hW hl
  obtain ⟨hx, hb, hr, hml, hown, hts, hlocks, hname⟩ := hIn
  subst hsz
  have hown : s.vm.findClass RX11 = some m.cls := hown
  have hA : ∀ q : Nat, s.heap.size ≤ q → z_A (shC c, ad, I, JX, PC c ad) s.heap.size q := fun q h => Or.inr h
  generalize hAe : z_A (shC c, ad, I, JX, PC c ad) s.heap.size = A at *
  have hS : va_S A s.heap s.heap [] := va_S.rf
  have hl : lv_has ls 4 [(0, .ref (ad 0)), (1, .int a1), (2, .int a2), (3, .int a3)] := hl
  refine lv_aload_n hx hb dX11_note_0 rfl (lv_at hl 0 rfl) ?_
  refine z_get (T := TX11) (N := 13) (ci := 11) (i := 0) (v := .ref (ad 1)) hx hb hts zj_X11_note_X11 hown hK hW rfl rfl 2 (by decide) (hts (.fieldLink RX11 16 "PetrolBoard" "holders" "LPetrolBoard$Holders;") (me_s (me_l (me_l (me_l (List.mem_of_getElem? (i := 0) rfl)))))) (fun _ h => h) rfl dX11_note_1 ?_
  refine lv_iload_n hx hb dX11_note_4 rfl (lv_at hl 1 rfl) ?_
  refine z_ci hW hS hA (va_runV (As := [.int a1]) (rest := []) ⟨hx, hb, hml, hown, hts⟩ (sx_X2_has_e l G ad c I ⟨(by show 0 ≤ (I 1 5).toInt ∧ (I 1 5).toInt ≤ 30; exact hH.1), (by show 0 ≤ (I 1 11).toInt ∧ (I 1 11).toInt ≤ 200; exact hH.2)⟩ a1 _) (cwV 1 hts gX11_note_X2_has rfl rfl rfl (by decide +kernel) ⟨Nat.le_of_ble_eq_true rfl, Nat.le_of_ble_eq_true rfl⟩) (z_preV (i := 1) hK hW rfl rfl) rfl rfl hl.1 rfl (lv_room (Nat.le_of_ble_eq_true rfl)) dX11_note_5 ⟨Nat.le_of_ble_eq_true rfl, Nat.le_of_ble_eq_true rfl⟩) (fun r u1 H locs hp hW hS => ?_)
  obtain ⟨e9, hp⟩ := hp
  rw [e9] at hW
  rcases hp with ⟨rfl, h1⟩ | ⟨rfl, h1⟩
  · have h2 := h1
    have r3 : 0 ≤ (I 1 5).toInt ∧ (I 1 5).toInt ≤ 30 := hH.1
    refine lv_if_eq (tgt := 27) hx hb dX11_note_8 (by decide) (fun c4 => absurd c4 (by decide)) (fun c4 => ?_)
    refine lv_iload_n hx hb dX11_note_11 rfl (lv_at hl 2 rfl) ?_
    refine lv_iconst (v := 0) hx hb dX11_note_12 (by decide) ?_
    refine lv_iconst (v := 4) hx hb dX11_note_13 (by decide) ?_
    refine z_ci hW hS hA (va_runS (As := [.int a2, .int 0, .int 4]) (rest := []) ⟨hx, hb, hml, hown, hts⟩ (sx_X11_within_e l G ad c I  a2 0 4 _) (va_cwS 3 hts gX11_note_X11_within rfl rfl rfl (by decide +kernel) ⟨Nat.le_of_ble_eq_true rfl, Nat.le_of_ble_eq_true rfl⟩) (z_preS hK hW) rfl rfl hl.1 rfl (lv_room (Nat.le_of_ble_eq_true rfl)) dX11_note_14 ⟨Nat.le_of_ble_eq_true rfl, Nat.le_of_ble_eq_true rfl⟩) (fun r u1 H locs hp hW hS => ?_)
    obtain ⟨e9, hp⟩ := hp
    rw [e9] at hW
    rcases hp with ⟨rfl, h5⟩ | ⟨rfl, h5⟩
    · have h6 := h5
      have z7 := z_l0
      have z8 := z_l4
      refine lv_if_eq (tgt := 27) hx hb dX11_note_17 (by decide) (fun c9 => absurd c9 (by decide)) (fun c9 => ?_)
      refine lv_iload_n hx hb dX11_note_20 rfl (lv_at hl 3 rfl) ?_
      refine z_ci hW hS hA (va_runS (As := [.int a3]) (rest := []) ⟨hx, hb, hml, hown, hts⟩ (sx_X11_isDay_e l G ad c I  a3 _) (va_cwS 1 hts gX11_note_X11_isDay rfl rfl rfl (by decide +kernel) ⟨Nat.le_of_ble_eq_true rfl, Nat.le_of_ble_eq_true rfl⟩) (z_preS hK hW) rfl rfl hl.1 rfl (lv_room (Nat.le_of_ble_eq_true rfl)) dX11_note_21 ⟨Nat.le_of_ble_eq_true rfl, Nat.le_of_ble_eq_true rfl⟩) (fun r u1 H locs hp hW hS => ?_)
      obtain ⟨e9, hp⟩ := hp
      rw [e9] at hW
      rcases hp with ⟨rfl, h11⟩ | ⟨rfl, h11⟩
      · have h12 := h11
        refine lv_if_ne (tgt := 29) hx hb dX11_note_24 (by decide) (fun c13 => ?_) (fun c13 => absurd c13 (by decide))
        refine lv_aload_n hx hb dX11_note_29 rfl (lv_at hl 0 rfl) ?_
        refine z_get (T := TX11) (N := 13) (ci := 11) (i := 0) (v := .ref (ad 1)) hx hb hts zj_X11_note_X11 hown hK hW rfl rfl 2 (by decide) (hts (.fieldLink RX11 16 "PetrolBoard" "holders" "LPetrolBoard$Holders;") (me_s (me_l (me_l (me_l (List.mem_of_getElem? (i := 0) rfl)))))) (fun _ h => h) rfl dX11_note_30 ?_
        refine lv_iload_n hx hb dX11_note_33 rfl (lv_at hl 1 rfl) ?_
        refine lv_iload_n hx hb dX11_note_34 rfl (lv_at hl 2 rfl) ?_
        refine lv_iload_n hx hb dX11_note_35 rfl (lv_at hl 3 rfl) ?_
        refine lv_aload_n hx hb dX11_note_36 rfl (lv_at hl 0 rfl) ?_
        have r14 : 0 ≤ (I 0 0).toInt ∧ (I 0 0).toInt ≤ 719 := hB.1
        refine z_get (T := TX11) (N := 13) (ci := 11) (i := 0) (v := .int (I 0 0)) hx hb hts zj_X11_note_X11 hown hK hW rfl rfl 0 (by decide) (hts (.fieldLink RX11 85 "PetrolBoard" "today" "I") (me_s (me_l (me_l (me_l (List.mem_of_getElem? (i := 1) rfl)))))) (fun _ h => h) rfl dX11_note_37 ?_
        refine z_ci hW hS hA (va_runV (As := [.int a1, .int a2, .int a3, .int (I 0 0)]) (rest := []) ⟨hx, hb, hml, hown, hts⟩ (sx_X2_addNote_r l G ad c I ⟨(by show 0 ≤ (I 1 5).toInt ∧ (I 1 5).toInt ≤ 30; exact hH.1), (by show 0 ≤ (I 1 11).toInt ∧ (I 1 11).toInt ≤ 200; exact hH.2)⟩ a1 a2 a3 (I 0 0) _) (cwV 4 hts gX11_note_X2_addNote rfl rfl rfl (by decide +kernel) ⟨Nat.le_of_ble_eq_true rfl, Nat.le_of_ble_eq_true rfl⟩) (z_preV (i := 1) hK hW rfl rfl) rfl rfl hl.1 rfl (lv_room (Nat.le_of_ble_eq_true rfl)) dX11_note_40 ⟨Nat.le_of_ble_eq_true rfl, Nat.le_of_ble_eq_true rfl⟩) (fun r u1 H locs hp hW hS => ?_)
        obtain ⟨I15, e9, hI15H, fI15, hp⟩ := hp
        rw [e9] at hW
        have f16 := z_fr_sub (L := L_X11_note_r) z_fr_0 fI15 (by decide)
        have k17 : 0 ≤ (I15 0 0).toInt ∧ (I15 0 0).toInt ≤ 719 := by rw [fI15 0 0 (by decide)]; exact (by show 0 ≤ (I 0 0).toInt ∧ (I 0 0).toInt ≤ 719; exact hB.1)
        have k18 : 0 ≤ (I15 0 8).toInt ∧ (I15 0 8).toInt ≤ 10 := by rw [fI15 0 8 (by decide)]; exact (by show 0 ≤ (I 0 8).toInt ∧ (I 0 8).toInt ≤ 10; exact hB.2)
        refine lv_topi (fun x19 ex19 => ?_)
        rw [← ex19] at hp
        rcases hp with ⟨h20, h21, h22, h23⟩ | ⟨h20, h21, h22, h23⟩
        · exact z_iret hx hb hr hK hS (Nat.le_of_ble_eq_true rfl) (Nat.le_of_ble_eq_true rfl) hlocks dX11_note_43 (shC c, ad, I15, JX, PC c ad) hW ⟨I15, rfl, ⟨(by show 0 ≤ (I15 0 0).toInt ∧ (I15 0 0).toInt ≤ 719; exact k17), (by show 0 ≤ (I15 0 8).toInt ∧ (I15 0 8).toInt ≤ 10; exact k18)⟩, ⟨(by show 0 ≤ (I15 1 5).toInt ∧ (I15 1 5).toInt ≤ 30; exact hI15H.1), (by show 0 ≤ (I15 1 11).toInt ∧ (I15 1 11).toInt ≤ 200; exact hI15H.2)⟩, f16, (Or.inl ⟨by omega, by omega, (by show (I15 1 11).toInt = (I 1 11).toInt + 1; omega), h23⟩)⟩
        · exact z_iret hx hb hr hK hS (Nat.le_of_ble_eq_true rfl) (Nat.le_of_ble_eq_true rfl) hlocks dX11_note_43 (shC c, ad, I15, JX, PC c ad) hW ⟨I15, rfl, ⟨(by show 0 ≤ (I15 0 0).toInt ∧ (I15 0 0).toInt ≤ 719; exact k17), (by show 0 ≤ (I15 0 8).toInt ∧ (I15 0 8).toInt ≤ 10; exact k18)⟩, ⟨(by show 0 ≤ (I15 1 5).toInt ∧ (I15 1 5).toInt ≤ 30; exact hI15H.1), (by show 0 ≤ (I15 1 11).toInt ∧ (I15 1 11).toInt ≤ 200; exact hI15H.2)⟩, f16, (Or.inr ⟨by omega, by omega, (by show (I15 1 11).toInt = (I 1 11).toInt; omega), h23⟩)⟩
      · have h24 := h11
        refine lv_if_ne (tgt := 29) hx hb dX11_note_24 (by decide) (fun c25 => absurd (by decide) c25) (fun c25 => ?_)
        refine lv_iconst (v := (-1)) hx hb dX11_note_27 (by decide) ?_
        exact z_iret hx hb hr hK hS (Nat.le_of_ble_eq_true rfl) (Nat.le_of_ble_eq_true rfl) hlocks dX11_note_28 (shC c, ad, I, JX, PC c ad) hW ⟨I, rfl, ⟨(by show 0 ≤ (I 0 0).toInt ∧ (I 0 0).toInt ≤ 719; exact hB.1), (by show 0 ≤ (I 0 8).toInt ∧ (I 0 8).toInt ≤ 10; exact hB.2)⟩, ⟨(by show 0 ≤ (I 1 5).toInt ∧ (I 1 5).toInt ≤ 30; exact hH.1), (by show 0 ≤ (I 1 11).toInt ∧ (I 1 11).toInt ≤ 200; exact hH.2)⟩, z_fr_0, (Or.inr ⟨by omega, by decide, (by show (I 1 11).toInt = (I 1 11).toInt; omega), (fun j => ⟨rfl, rfl, rfl, rfl, rfl⟩)⟩)⟩
    · have h26 := h5
      have z27 := z_l0
      have z28 := z_l4
      refine lv_if_eq (tgt := 27) hx hb dX11_note_17 (by decide) (fun c29 => ?_) (fun c29 => absurd (by decide) c29)
      refine lv_iconst (v := (-1)) hx hb dX11_note_27 (by decide) ?_
      exact z_iret hx hb hr hK hS (Nat.le_of_ble_eq_true rfl) (Nat.le_of_ble_eq_true rfl) hlocks dX11_note_28 (shC c, ad, I, JX, PC c ad) hW ⟨I, rfl, ⟨(by show 0 ≤ (I 0 0).toInt ∧ (I 0 0).toInt ≤ 719; exact hB.1), (by show 0 ≤ (I 0 8).toInt ∧ (I 0 8).toInt ≤ 10; exact hB.2)⟩, ⟨(by show 0 ≤ (I 1 5).toInt ∧ (I 1 5).toInt ≤ 30; exact hH.1), (by show 0 ≤ (I 1 11).toInt ∧ (I 1 11).toInt ≤ 200; exact hH.2)⟩, z_fr_0, (Or.inr ⟨by omega, by decide, (by show (I 1 11).toInt = (I 1 11).toInt; omega), (fun j => ⟨rfl, rfl, rfl, rfl, rfl⟩)⟩)⟩
  · have h30 := h1
    have r31 : 0 ≤ (I 1 5).toInt ∧ (I 1 5).toInt ≤ 30 := hH.1
    refine lv_if_eq (tgt := 27) hx hb dX11_note_8 (by decide) (fun c32 => ?_) (fun c32 => absurd (by decide) c32)
    refine lv_iconst (v := (-1)) hx hb dX11_note_27 (by decide) ?_
    exact z_iret hx hb hr hK hS (Nat.le_of_ble_eq_true rfl) (Nat.le_of_ble_eq_true rfl) hlocks dX11_note_28 (shC c, ad, I, JX, PC c ad) hW ⟨I, rfl, ⟨(by show 0 ≤ (I 0 0).toInt ∧ (I 0 0).toInt ≤ 719; exact hB.1), (by show 0 ≤ (I 0 8).toInt ∧ (I 0 8).toInt ≤ 10; exact hB.2)⟩, ⟨(by show 0 ≤ (I 1 5).toInt ∧ (I 1 5).toInt ≤ 30; exact hH.1), (by show 0 ≤ (I 1 11).toInt ∧ (I 1 11).toInt ≤ 200; exact hH.2)⟩, z_fr_0, (Or.inr ⟨by omega, by decide, (by show (I 1 11).toInt = (I 1 11).toInt; omega), (fun j => ⟨rfl, rfl, rfl, rfl, rfl⟩)⟩)⟩
noncomputable def L_X12_note_r : z_L := [(0, 2), (6, 999), (7, 999), (8, 999), (9, 999), (10, 999)]
set_option maxHeartbeats 8000000 in
set_option maxRecDepth 100000 in
theorem sx_X12_note_r (l : Launch) (G : z_G) (ad : Nat → Nat) (I : z_I) (J : z_J) (hma : z_ima I) (a1 : Int32) (a2 : Int32) (a3 : Int32) : z_M l yX12_note wsX12_note { frames := 2, cells := 0, slots := 0, locals := 34 } [.ref (ad 0), .int a1, .int a2, .int a3] G (shM, ad, I, J, PM ad) (fun r u1 => ∃ (I1 : z_I) (J1 : z_J), u1 = (shM, ad, I1, J1, PM ad) ∧ z_ima I1 ∧ z_fr L_X12_note_r I1 I ∧ (((0 ≤ a1.toInt ∧ a1.toInt < (I 0 1).toInt ∧ 0 ≤ a2.toInt ∧ a2.toInt ≤ 4 ∧ 0 ≤ a3.toInt ∧ a3.toInt ≤ 719 ∧ (I 0 2).toInt < 200) ∧ r.toInt = (I 0 2).toInt ∧ (I1 0 2).toInt = (I 0 2).toInt + 1 ∧ z_nrM I1 I (I 0 2).toNatClampNeg a1 a2 a3 (I 0 0)) ∨ (¬ (0 ≤ a1.toInt ∧ a1.toInt < (I 0 1).toInt ∧ 0 ≤ a2.toInt ∧ a2.toInt ≤ 4 ∧ 0 ≤ a3.toInt ∧ a3.toInt ≤ 719 ∧ (I 0 2).toInt < 200) ∧ r.toInt = -1 ∧ (I1 0 2).toInt = (I 0 2).toInt ∧ z_nsM I1 I))) 0 0 := by
  intro sz
  refine z_headQ (cc := cX12_note) (maxL := 4) (ret := (some .int)) (by decide) rfl (Nat.le_of_ble_eq_true rfl) ?_
  intro p e s m below meth c0 ls hIn hK hsz hW hl
  obtain ⟨hx, hb, hr, hml, hown, hts, hlocks, hname⟩ := hIn
  subst hsz
  have hown : s.vm.findClass RX12 = some m.cls := hown
  have hA : ∀ q : Nat, s.heap.size ≤ q → z_A (shM, ad, I, J, PM ad) s.heap.size q := fun q h => Or.inr h
  generalize hAe : z_A (shM, ad, I, J, PM ad) s.heap.size = A at *
  have hS : va_S A s.heap s.heap [] := va_S.rf
  have hl : lv_has ls 4 [(0, .ref (ad 0)), (1, .int a1), (2, .int a2), (3, .int a3)] := hl
  refine lv_aload_n hx hb dX12_note_0 rfl (lv_at hl 0 rfl) ?_
  refine lv_iload_n hx hb dX12_note_1 rfl (lv_at hl 1 rfl) ?_
  refine z_ci hW hS hA (va_runV (As := [.int a1]) (rest := []) ⟨hx, hb, hml, hown, hts⟩ (sx_X12_isHolder_e l G ad I J ⟨(by show 0 ≤ (I 0 0).toInt ∧ (I 0 0).toInt ≤ 719; exact hma.1), (by show 0 ≤ (I 0 1).toInt ∧ (I 0 1).toInt ≤ 30; exact hma.2.1), (by show 0 ≤ (I 0 2).toInt ∧ (I 0 2).toInt ≤ 200; exact hma.2.2)⟩ a1 _) (cwV 1 hts gX12_note_X12_isHolder rfl rfl rfl (by decide +kernel) ⟨Nat.le_of_ble_eq_true rfl, Nat.le_of_ble_eq_true rfl⟩) (z_preV (i := 0) hK hW rfl rfl) rfl rfl hl.1 rfl (lv_room (Nat.le_of_ble_eq_true rfl)) dX12_note_2 ⟨Nat.le_of_ble_eq_true rfl, Nat.le_of_ble_eq_true rfl⟩) (fun r u1 H locs hp hW hS => ?_)
  obtain ⟨e9, hp⟩ := hp
  rw [e9] at hW
  rcases hp with ⟨rfl, h1⟩ | ⟨rfl, h1⟩
  · have h2 := h1
    have r3 : 0 ≤ (I 0 1).toInt ∧ (I 0 1).toInt ≤ 30 := hma.2.1
    refine lv_if_eq (tgt := 34) hx hb dX12_note_5 (by decide) (fun c4 => absurd c4 (by decide)) (fun c4 => ?_)
    refine lv_iload_n hx hb dX12_note_8 rfl (lv_at hl 2 rfl) ?_
    refine lv_iconst (v := 0) hx hb dX12_note_9 (by decide) ?_
    refine lv_iconst (v := 4) hx hb dX12_note_10 (by decide) ?_
    refine z_ci hW hS hA (va_runS (As := [.int a2, .int 0, .int 4]) (rest := []) ⟨hx, hb, hml, hown, hts⟩ (sx_X12_within_e l G ad I J  a2 0 4 _) (va_cwS 3 hts gX12_note_X12_within rfl rfl rfl (by decide +kernel) ⟨Nat.le_of_ble_eq_true rfl, Nat.le_of_ble_eq_true rfl⟩) (z_preS hK hW) rfl rfl hl.1 rfl (lv_room (Nat.le_of_ble_eq_true rfl)) dX12_note_11 ⟨Nat.le_of_ble_eq_true rfl, Nat.le_of_ble_eq_true rfl⟩) (fun r u1 H locs hp hW hS => ?_)
    obtain ⟨e9, hp⟩ := hp
    rw [e9] at hW
    rcases hp with ⟨rfl, h5⟩ | ⟨rfl, h5⟩
    · have h6 := h5
      have z7 := z_l0
      have z8 := z_l4
      refine lv_if_eq (tgt := 34) hx hb dX12_note_14 (by decide) (fun c9 => absurd c9 (by decide)) (fun c9 => ?_)
      refine lv_iload_n hx hb dX12_note_17 rfl (lv_at hl 3 rfl) ?_
      refine z_ci hW hS hA (va_runS (As := [.int a3]) (rest := []) ⟨hx, hb, hml, hown, hts⟩ (sx_X12_isDay_e l G ad I J  a3 _) (va_cwS 1 hts gX12_note_X12_isDay rfl rfl rfl (by decide +kernel) ⟨Nat.le_of_ble_eq_true rfl, Nat.le_of_ble_eq_true rfl⟩) (z_preS hK hW) rfl rfl hl.1 rfl (lv_room (Nat.le_of_ble_eq_true rfl)) dX12_note_18 ⟨Nat.le_of_ble_eq_true rfl, Nat.le_of_ble_eq_true rfl⟩) (fun r u1 H locs hp hW hS => ?_)
      obtain ⟨e9, hp⟩ := hp
      rw [e9] at hW
      rcases hp with ⟨rfl, h11⟩ | ⟨rfl, h11⟩
      · have h12 := h11
        refine lv_if_eq (tgt := 34) hx hb dX12_note_21 (by decide) (fun c13 => absurd c13 (by decide)) (fun c13 => ?_)
        refine lv_aload_n hx hb dX12_note_24 rfl (lv_at hl 0 rfl) ?_
        have r14 : 0 ≤ (I 0 2).toInt ∧ (I 0 2).toInt ≤ 200 := hma.2.2
        refine z_get (T := TX12) (N := 96) (ci := 12) (i := 0) (v := .int (I 0 2)) hx hb hts zj_X12_note_X12 hown hK hW rfl rfl 2 (by decide) (hts (.fieldLink RX12 246 "PetrolBoardModel" "notes" "I") (me_s (me_l (List.mem_of_getElem? (i := 0) rfl)))) (fun _ h => h) rfl dX12_note_25 ?_
        refine lv_sipush (v := 200) hx hb dX12_note_28 (by decide) ?_
        refine lv_icmp_ne (tgt := 36) hx hb dX12_note_31 (by decide) (fun c15 => ?_) (fun c15 => ?_)
        · have g16 := z_f_ne rfl z_l200 c15
          refine lv_aload_n hx hb dX12_note_36 rfl (lv_at hl 0 rfl) ?_
          refine z_get (T := TX12) (N := 96) (ci := 12) (i := 0) (v := .ref (ad 6)) hx hb hts zj_X12_note_X12 hown hK hW rfl rfl 8 (by decide) (hts (.fieldLink RX12 25 "PetrolBoardModel" "noteWho" "[I") (me_s (me_l (List.mem_of_getElem? (i := 1) rfl)))) (fun _ h => h) rfl dX12_note_37 ?_
          refine lv_aload_n hx hb dX12_note_40 rfl (lv_at hl 0 rfl) ?_
          refine z_get (T := TX12) (N := 96) (ci := 12) (i := 0) (v := .int (I 0 2)) hx hb hts zj_X12_note_X12 hown hK hW rfl rfl 2 (by decide) (hts (.fieldLink RX12 246 "PetrolBoardModel" "notes" "I") (me_s (me_l (List.mem_of_getElem? (i := 0) rfl)))) (fun _ h => h) rfl dX12_note_41 ?_
          refine lv_iload_n hx hb dX12_note_44 rfl (lv_at hl 1 rfl) ?_
          refine z_iast (i := 6) hx hb hK hW hS rfl (z_ix rfl (by omega) (by omega)) dX12_note_45 (fun H locs hz1 hW hS => ?_)
          obtain ⟨I17, eI17⟩ : ∃ K : z_I, K = z_up I 6 (I 0 2).toNatClampNeg a1 := ⟨_, rfl⟩
          rw [← eI17] at hW
          have f18 := z_fr_a z_fr_0 (show z_wa L_X12_note_r 6 = true by decide) eI17
          refine lv_aload_n hx hb dX12_note_46 rfl (lv_at hl 0 rfl) ?_
          refine z_get (T := TX12) (N := 96) (ci := 12) (i := 0) (v := .ref (ad 7)) hx hb hts zj_X12_note_X12 hown hK hW rfl rfl 9 (by decide) (hts (.fieldLink RX12 28 "PetrolBoardModel" "noteClass" "[I") (me_s (me_l (List.mem_of_getElem? (i := 2) rfl)))) (fun _ h => h) rfl dX12_note_47 ?_
          refine lv_aload_n hx hb dX12_note_50 rfl (lv_at hl 0 rfl) ?_
          refine z_get (T := TX12) (N := 96) (ci := 12) (i := 0) (v := .int (I 0 2)) hx hb hts zj_X12_note_X12 hown hK hW rfl rfl 2 (by decide) (hts (.fieldLink RX12 246 "PetrolBoardModel" "notes" "I") (me_s (me_l (List.mem_of_getElem? (i := 0) rfl)))) (fun _ h => h) (congrArg Value.int (by rw [eI17, z_up_n (by decide)])) dX12_note_51 ?_
          refine lv_iload_n hx hb dX12_note_54 rfl (lv_at hl 2 rfl) ?_
          refine z_iast (i := 7) hx hb hK hW hS rfl (z_ix rfl (by omega) (by omega)) dX12_note_55 (fun H locs hz1 hW hS => ?_)
          obtain ⟨I19, eI19⟩ : ∃ K : z_I, K = z_up I17 7 (I 0 2).toNatClampNeg a2 := ⟨_, rfl⟩
          rw [← eI19] at hW
          have f20 := z_fr_a f18 (show z_wa L_X12_note_r 7 = true by decide) eI19
          refine lv_aload_n hx hb dX12_note_56 rfl (lv_at hl 0 rfl) ?_
          refine z_get (T := TX12) (N := 96) (ci := 12) (i := 0) (v := .ref (ad 8)) hx hb hts zj_X12_note_X12 hown hK hW rfl rfl 10 (by decide) (hts (.fieldLink RX12 31 "PetrolBoardModel" "noteFrom" "[I") (me_s (me_l (List.mem_of_getElem? (i := 3) rfl)))) (fun _ h => h) rfl dX12_note_57 ?_
          refine lv_aload_n hx hb dX12_note_60 rfl (lv_at hl 0 rfl) ?_
          refine z_get (T := TX12) (N := 96) (ci := 12) (i := 0) (v := .int (I 0 2)) hx hb hts zj_X12_note_X12 hown hK hW rfl rfl 2 (by decide) (hts (.fieldLink RX12 246 "PetrolBoardModel" "notes" "I") (me_s (me_l (List.mem_of_getElem? (i := 0) rfl)))) (fun _ h => h) (congrArg Value.int (by rw [eI19, z_up_n (by decide), eI17, z_up_n (by decide)])) dX12_note_61 ?_
          refine lv_iload_n hx hb dX12_note_64 rfl (lv_at hl 3 rfl) ?_
          refine z_iast (i := 8) hx hb hK hW hS rfl (z_ix rfl (by omega) (by omega)) dX12_note_65 (fun H locs hz1 hW hS => ?_)
          obtain ⟨I21, eI21⟩ : ∃ K : z_I, K = z_up I19 8 (I 0 2).toNatClampNeg a3 := ⟨_, rfl⟩
          rw [← eI21] at hW
          have f22 := z_fr_a f20 (show z_wa L_X12_note_r 8 = true by decide) eI21
          refine lv_aload_n hx hb dX12_note_66 rfl (lv_at hl 0 rfl) ?_
          refine z_get (T := TX12) (N := 96) (ci := 12) (i := 0) (v := .ref (ad 9)) hx hb hts zj_X12_note_X12 hown hK hW rfl rfl 11 (by decide) (hts (.fieldLink RX12 34 "PetrolBoardModel" "noteTold" "[I") (me_s (me_l (List.mem_of_getElem? (i := 4) rfl)))) (fun _ h => h) rfl dX12_note_67 ?_
          refine lv_aload_n hx hb dX12_note_70 rfl (lv_at hl 0 rfl) ?_
          refine z_get (T := TX12) (N := 96) (ci := 12) (i := 0) (v := .int (I 0 2)) hx hb hts zj_X12_note_X12 hown hK hW rfl rfl 2 (by decide) (hts (.fieldLink RX12 246 "PetrolBoardModel" "notes" "I") (me_s (me_l (List.mem_of_getElem? (i := 0) rfl)))) (fun _ h => h) (congrArg Value.int (by rw [eI21, z_up_n (by decide), eI19, z_up_n (by decide), eI17, z_up_n (by decide)])) dX12_note_71 ?_
          refine lv_aload_n hx hb dX12_note_74 rfl (lv_at hl 0 rfl) ?_
          have r23 : 0 ≤ (I 0 0).toInt ∧ (I 0 0).toInt ≤ 719 := hma.1
          refine z_get (T := TX12) (N := 96) (ci := 12) (i := 0) (v := .int (I 0 0)) hx hb hts zj_X12_note_X12 hown hK hW rfl rfl 0 (by decide) (hts (.fieldLink RX12 232 "PetrolBoardModel" "today" "I") (me_s (me_l (List.mem_of_getElem? (i := 5) rfl)))) (fun _ h => h) (congrArg Value.int (by rw [eI21, z_up_n (by decide), eI19, z_up_n (by decide), eI17, z_up_n (by decide)])) dX12_note_75 ?_
          refine z_iast (i := 9) hx hb hK hW hS rfl (z_ix rfl (by omega) (by omega)) dX12_note_78 (fun H locs hz1 hW hS => ?_)
          obtain ⟨I24, eI24⟩ : ∃ K : z_I, K = z_up I21 9 (I 0 2).toNatClampNeg (I 0 0) := ⟨_, rfl⟩
          rw [← eI24] at hW
          have f25 := z_fr_a f22 (show z_wa L_X12_note_r 9 = true by decide) eI24
          refine lv_aload_n hx hb dX12_note_79 rfl (lv_at hl 0 rfl) ?_
          refine z_get (T := TX12) (N := 96) (ci := 12) (i := 0) (v := .ref (ad 10)) hx hb hts zj_X12_note_X12 hown hK hW rfl rfl 12 (by decide) (hts (.fieldLink RX12 37 "PetrolBoardModel" "noteGone" "[I") (me_s (me_l (List.mem_of_getElem? (i := 6) rfl)))) (fun _ h => h) rfl dX12_note_80 ?_
          refine lv_aload_n hx hb dX12_note_83 rfl (lv_at hl 0 rfl) ?_
          refine z_get (T := TX12) (N := 96) (ci := 12) (i := 0) (v := .int (I 0 2)) hx hb hts zj_X12_note_X12 hown hK hW rfl rfl 2 (by decide) (hts (.fieldLink RX12 246 "PetrolBoardModel" "notes" "I") (me_s (me_l (List.mem_of_getElem? (i := 0) rfl)))) (fun _ h => h) (congrArg Value.int (by rw [eI24, z_up_n (by decide), eI21, z_up_n (by decide), eI19, z_up_n (by decide), eI17, z_up_n (by decide)])) dX12_note_84 ?_
          refine lv_iconst (v := (-1)) hx hb dX12_note_87 (by decide) ?_
          refine z_iast (i := 10) hx hb hK hW hS rfl (z_ix rfl (by omega) (by omega)) dX12_note_88 (fun H locs hz1 hW hS => ?_)
          obtain ⟨I26, eI26⟩ : ∃ K : z_I, K = z_up I24 10 (I 0 2).toNatClampNeg (-1) := ⟨_, rfl⟩
          rw [← eI26] at hW
          have f27 := z_fr_a f25 (show z_wa L_X12_note_r 10 = true by decide) eI26
          refine lv_aload_n hx hb dX12_note_89 rfl (lv_at hl 0 rfl) ?_
          refine lv_dup hx hb dX12_note_90 rfl ?_
          refine z_get (T := TX12) (N := 96) (ci := 12) (i := 0) (v := .int (I 0 2)) hx hb hts zj_X12_note_X12 hown hK hW rfl rfl 2 (by decide) (hts (.fieldLink RX12 246 "PetrolBoardModel" "notes" "I") (me_s (me_l (List.mem_of_getElem? (i := 0) rfl)))) (fun _ h => h) (congrArg Value.int (by rw [eI26, z_up_n (by decide), eI24, z_up_n (by decide), eI21, z_up_n (by decide), eI19, z_up_n (by decide), eI17, z_up_n (by decide)])) dX12_note_91 ?_
          refine lv_iconst (v := 1) hx hb dX12_note_94 (by decide) ?_
          refine lv_iadd hx hb dX12_note_95 ?_
          refine lv_topi (fun x28 ex28 => ?_)
          have tx28 : x28.toInt = (I 0 2).toInt + 1 := z_tadd ex28 rfl z_l1 (by omega) (by omega)
          refine z_put (T := TX12) (N := 96) (ci := 12) (i := 0) (v := .int x28) (I1 := z_up I26 0 2 x28) (J1 := J) (P1 := PM ad) hx hb hts zj_X12_note_X12 tyX12 tyX12_ok nmX12 hown hK hW hS rfl rfl 2 (by decide) (hts (.fieldLink RX12 246 "PetrolBoardModel" "notes" "I") (me_s (me_l (List.mem_of_getElem? (i := 0) rfl)))) (fun _ h => h) rfl rfl rfl (by first | rfl | exact congrArg _ z_up_s) (fun a b h ty => z_vI h ty) dX12_note_96 (fun H locs hz1 hW hS => ?_)
          obtain ⟨I29, eI29⟩ : ∃ K : z_I, K = z_up I26 0 2 x28 := ⟨_, rfl⟩
          rw [← eI29] at hW
          have f30 := z_fr_k f27 (show z_wr L_X12_note_r 0 2 = true by decide) eI29
          refine lv_aload_n hx hb dX12_note_99 rfl (lv_at hl 0 rfl) ?_
          refine z_get (T := TX12) (N := 96) (ci := 12) (i := 0) (v := .int x28) hx hb hts zj_X12_note_X12 hown hK hW rfl rfl 2 (by decide) (hts (.fieldLink RX12 246 "PetrolBoardModel" "notes" "I") (me_s (me_l (List.mem_of_getElem? (i := 0) rfl)))) (fun _ h => h) (congrArg Value.int (by rw [eI29, z_up_s])) dX12_note_100 ?_
          refine lv_iconst (v := 1) hx hb dX12_note_103 (by decide) ?_
          refine lv_isub hx hb dX12_note_104 ?_
          refine lv_topi (fun x31 ex31 => ?_)
          have tx31 : x31.toInt = x28.toInt - 1 := z_tsub ex31 rfl z_l1 (by omega) (by omega)
          exact z_iret hx hb hr hK hS (Nat.le_of_ble_eq_true rfl) (Nat.le_of_ble_eq_true rfl) hlocks dX12_note_105 (shM, ad, I29, J, PM ad) hW ⟨I29, J, rfl, ⟨(by show 0 ≤ (I29 0 0).toInt ∧ (I29 0 0).toInt ≤ 719; rw [eI29, z_up_k (by decide), eI26, z_up_n (by decide), eI24, z_up_n (by decide), eI21, z_up_n (by decide), eI19, z_up_n (by decide), eI17, z_up_n (by decide)]; exact hma.1), (by show 0 ≤ (I29 0 1).toInt ∧ (I29 0 1).toInt ≤ 30; rw [eI29, z_up_k (by decide), eI26, z_up_n (by decide), eI24, z_up_n (by decide), eI21, z_up_n (by decide), eI19, z_up_n (by decide), eI17, z_up_n (by decide)]; exact hma.2.1), (by show 0 ≤ (I29 0 2).toInt ∧ (I29 0 2).toInt ≤ 200; rw [eI29, z_up_s]; omega)⟩, f30, (Or.inl ⟨by omega, by omega, (by have q9 : (I29 0 2) = x28 := (by rw [eI29, z_up_s]); show (I29 0 2).toInt = (I 0 2).toInt + 1; rw [q9]; first | done | omega), ⟨(fun j => by rw [eI29, z_up_n (by decide), eI26, z_up_n (by decide), eI24, z_up_n (by decide), eI21, z_up_n (by decide), eI19, z_up_n (by decide), eI17, z_up_j]), (fun j => by rw [eI29, z_up_n (by decide), eI26, z_up_n (by decide), eI24, z_up_n (by decide), eI21, z_up_n (by decide), eI19, z_up_j, eI17, z_up_n (by decide)]), (fun j => by rw [eI29, z_up_n (by decide), eI26, z_up_n (by decide), eI24, z_up_n (by decide), eI21, z_up_j, eI19, z_up_n (by decide), eI17, z_up_n (by decide)]), (fun j => by rw [eI29, z_up_n (by decide), eI26, z_up_n (by decide), eI24, z_up_j, eI21, z_up_n (by decide), eI19, z_up_n (by decide), eI17, z_up_n (by decide)]), (fun j => by rw [eI29, z_up_n (by decide), eI26, z_up_j, eI24, z_up_n (by decide), eI21, z_up_n (by decide), eI19, z_up_n (by decide), eI17, z_up_n (by decide)])⟩⟩)⟩
        · have g32 := z_f_eq rfl z_l200 c15
          refine lv_iconst (v := (-1)) hx hb dX12_note_34 (by decide) ?_
          exact z_iret hx hb hr hK hS (Nat.le_of_ble_eq_true rfl) (Nat.le_of_ble_eq_true rfl) hlocks dX12_note_35 (shM, ad, I, J, PM ad) hW ⟨I, J, rfl, ⟨(by show 0 ≤ (I 0 0).toInt ∧ (I 0 0).toInt ≤ 719; exact hma.1), (by show 0 ≤ (I 0 1).toInt ∧ (I 0 1).toInt ≤ 30; exact hma.2.1), (by show 0 ≤ (I 0 2).toInt ∧ (I 0 2).toInt ≤ 200; exact hma.2.2)⟩, z_fr_0, (Or.inr ⟨by omega, by decide, (by show (I 0 2).toInt = (I 0 2).toInt; omega), (fun j => ⟨rfl, rfl, rfl, rfl, rfl⟩)⟩)⟩
      · have h33 := h11
        refine lv_if_eq (tgt := 34) hx hb dX12_note_21 (by decide) (fun c34 => ?_) (fun c34 => absurd (by decide) c34)
        refine lv_iconst (v := (-1)) hx hb dX12_note_34 (by decide) ?_
        exact z_iret hx hb hr hK hS (Nat.le_of_ble_eq_true rfl) (Nat.le_of_ble_eq_true rfl) hlocks dX12_note_35 (shM, ad, I, J, PM ad) hW ⟨I, J, rfl, ⟨(by show 0 ≤ (I 0 0).toInt ∧ (I 0 0).toInt ≤ 719; exact hma.1), (by show 0 ≤ (I 0 1).toInt ∧ (I 0 1).toInt ≤ 30; exact hma.2.1), (by show 0 ≤ (I 0 2).toInt ∧ (I 0 2).toInt ≤ 200; exact hma.2.2)⟩, z_fr_0, (Or.inr ⟨by omega, by decide, (by show (I 0 2).toInt = (I 0 2).toInt; omega), (fun j => ⟨rfl, rfl, rfl, rfl, rfl⟩)⟩)⟩
    · have h35 := h5
      have z36 := z_l0
      have z37 := z_l4
      refine lv_if_eq (tgt := 34) hx hb dX12_note_14 (by decide) (fun c38 => ?_) (fun c38 => absurd (by decide) c38)
      refine lv_iconst (v := (-1)) hx hb dX12_note_34 (by decide) ?_
      exact z_iret hx hb hr hK hS (Nat.le_of_ble_eq_true rfl) (Nat.le_of_ble_eq_true rfl) hlocks dX12_note_35 (shM, ad, I, J, PM ad) hW ⟨I, J, rfl, ⟨(by show 0 ≤ (I 0 0).toInt ∧ (I 0 0).toInt ≤ 719; exact hma.1), (by show 0 ≤ (I 0 1).toInt ∧ (I 0 1).toInt ≤ 30; exact hma.2.1), (by show 0 ≤ (I 0 2).toInt ∧ (I 0 2).toInt ≤ 200; exact hma.2.2)⟩, z_fr_0, (Or.inr ⟨by omega, by decide, (by show (I 0 2).toInt = (I 0 2).toInt; omega), (fun j => ⟨rfl, rfl, rfl, rfl, rfl⟩)⟩)⟩
  · have h39 := h1
    have r40 : 0 ≤ (I 0 1).toInt ∧ (I 0 1).toInt ≤ 30 := hma.2.1
    refine lv_if_eq (tgt := 34) hx hb dX12_note_5 (by decide) (fun c41 => ?_) (fun c41 => absurd (by decide) c41)
    refine lv_iconst (v := (-1)) hx hb dX12_note_34 (by decide) ?_
    exact z_iret hx hb hr hK hS (Nat.le_of_ble_eq_true rfl) (Nat.le_of_ble_eq_true rfl) hlocks dX12_note_35 (shM, ad, I, J, PM ad) hW ⟨I, J, rfl, ⟨(by show 0 ≤ (I 0 0).toInt ∧ (I 0 0).toInt ≤ 719; exact hma.1), (by show 0 ≤ (I 0 1).toInt ∧ (I 0 1).toInt ≤ 30; exact hma.2.1), (by show 0 ≤ (I 0 2).toInt ∧ (I 0 2).toInt ≤ 200; exact hma.2.2)⟩, z_fr_0, (Or.inr ⟨by omega, by decide, (by show (I 0 2).toInt = (I 0 2).toInt; omega), (fun j => ⟨rfl, rfl, rfl, rfl, rfl⟩)⟩)⟩
noncomputable def L_X2_cancelNote_r : z_L := [(11, 999)]
set_option maxHeartbeats 8000000 in
set_option maxRecDepth 100000 in
theorem sx_X2_cancelNote_r (l : Launch) (G : z_G) (ad : Nat → Nat) (c : z_C) (I : z_I) (hH : z_iH I) (a1 : Int32) (a2 : Int32) : z_M l yX2_cancelNote wsX2_cancelNote { frames := 1, cells := 0, slots := 0, locals := 12 } [.ref (ad 1), .int a1, .int a2] G (shC c, ad, I, JX, PC c ad) (fun r u1 => ∃ I1 : z_I, u1 = (shC c, ad, I1, JX, PC c ad) ∧ z_iH I1 ∧ z_fr L_X2_cancelNote_r I1 I ∧ ((r = 1 ∧ (0 ≤ a1.toInt ∧ a1.toInt < (I 1 11).toInt ∧ 720 ≤ (I 11 a1.toNatClampNeg).toInt) ∧ ∀ j, I1 11 j = if j = a1.toNatClampNeg then a2 else I 11 j) ∨ (r = 0 ∧ ¬ (0 ≤ a1.toInt ∧ a1.toInt < (I 1 11).toInt ∧ 720 ≤ (I 11 a1.toNatClampNeg).toInt) ∧ ∀ j, I1 11 j = I 11 j))) 0 0 := by
  intro sz
  refine z_headQ (cc := cX2_cancelNote) (maxL := 3) (ret := (some .boolean)) (by decide) rfl (Nat.le_of_ble_eq_true rfl) ?_
  intro p e s m below meth c0 ls hIn hK hsz hW hl
  obtain ⟨hx, hb, hr, hml, hown, hts, hlocks, hname⟩ := hIn
  subst hsz
  have hown : s.vm.findClass RX2 = some m.cls := hown
  have hA : ∀ q : Nat, s.heap.size ≤ q → z_A (shC c, ad, I, JX, PC c ad) s.heap.size q := fun q h => Or.inr h
  generalize hAe : z_A (shC c, ad, I, JX, PC c ad) s.heap.size = A at *
  have hS : va_S A s.heap s.heap [] := va_S.rf
  have hl : lv_has ls 3 [(0, .ref (ad 1)), (1, .int a1), (2, .int a2)] := hl
  refine lv_iload_n hx hb dX2_cancelNote_0 rfl (lv_at hl 1 rfl) ?_
  refine lv_if_lt (tgt := 31) hx hb dX2_cancelNote_1 (by decide) (fun c1 => ?_) (fun c1 => ?_)
  · have g2 := z_f_lt rfl z_l0 c1
    have b3 := Int32.toInt_lt a1
    refine lv_iconst (v := 0) hx hb dX2_cancelNote_31 (by decide) ?_
    exact z_zret hx hb hr (by decide) hK hS (Nat.le_of_ble_eq_true rfl) (Nat.le_of_ble_eq_true rfl) hlocks dX2_cancelNote_32 (shC c, ad, I, JX, PC c ad) hW ⟨I, rfl, ⟨(by show 0 ≤ (I 1 5).toInt ∧ (I 1 5).toInt ≤ 30; exact hH.1), (by show 0 ≤ (I 1 11).toInt ∧ (I 1 11).toInt ≤ 200; exact hH.2)⟩, z_fr_0, (Or.inr ⟨rfl, (by omega), (fun j => rfl)⟩)⟩
  · have g4 := z_f_nlt rfl z_l0 c1
    have b5 := Int32.toInt_lt a1
    refine lv_iload_n hx hb dX2_cancelNote_4 rfl (lv_at hl 1 rfl) ?_
    refine lv_aload_n hx hb dX2_cancelNote_5 rfl (lv_at hl 0 rfl) ?_
    have r6 : 0 ≤ (I 1 11).toInt ∧ (I 1 11).toInt ≤ 200 := hH.2
    refine z_get (T := TX2) (N := 12) (ci := 2) (i := 1) (v := .int (I 1 11)) hx hb hts zj_X2_cancelNote_X2 hown hK hW rfl rfl 11 (by decide) (hts (.fieldLink RX2 46 "PetrolBoard$Holders" "notes" "I") (me_s (me_l (List.mem_of_getElem? (i := 0) rfl)))) (fun _ h => h) rfl dX2_cancelNote_6 ?_
    refine lv_icmp_ge (tgt := 31) hx hb dX2_cancelNote_9 (by decide) (fun c7 => ?_) (fun c7 => ?_)
    · have g8 := z_f_ge rfl rfl c7
      refine lv_iconst (v := 0) hx hb dX2_cancelNote_31 (by decide) ?_
      exact z_zret hx hb hr (by decide) hK hS (Nat.le_of_ble_eq_true rfl) (Nat.le_of_ble_eq_true rfl) hlocks dX2_cancelNote_32 (shC c, ad, I, JX, PC c ad) hW ⟨I, rfl, ⟨(by show 0 ≤ (I 1 5).toInt ∧ (I 1 5).toInt ≤ 30; exact hH.1), (by show 0 ≤ (I 1 11).toInt ∧ (I 1 11).toInt ≤ 200; exact hH.2)⟩, z_fr_0, (Or.inr ⟨rfl, (by omega), (fun j => rfl)⟩)⟩
    · have g9 := z_f_nge rfl rfl c7
      refine lv_iload_n hx hb dX2_cancelNote_12 rfl (lv_at hl 1 rfl) ?_
      refine lv_sipush (v := 200) hx hb dX2_cancelNote_13 (by decide) ?_
      refine lv_icmp_ge (tgt := 31) hx hb dX2_cancelNote_16 (by decide) (fun c10 => (by have g := z_f_ge rfl z_l200 c10; omega)) (fun c10 => ?_)
      have g11 := z_f_nge rfl z_l200 c10
      refine lv_aload_n hx hb dX2_cancelNote_19 rfl (lv_at hl 0 rfl) ?_
      refine z_get (T := TX2) (N := 12) (ci := 2) (i := 1) (v := .ref (ad 11)) hx hb hts zj_X2_cancelNote_X2 hown hK hW rfl rfl 10 (by decide) (hts (.fieldLink RX2 39 "PetrolBoard$Holders" "undoneOn" "[I") (me_s (me_l (List.mem_of_getElem? (i := 1) rfl)))) (fun _ h => h) rfl dX2_cancelNote_20 ?_
      refine lv_iload_n hx hb dX2_cancelNote_23 rfl (lv_at hl 1 rfl) ?_
      refine z_iald (i := 11) hx hb hK hW rfl (z_ix rfl (by omega) (by omega)) dX2_cancelNote_24 ?_
      refine lv_topi (fun x12 ex12 => ?_)
      refine lv_sipush (v := 720) hx hb dX2_cancelNote_25 (by decide) ?_
      refine lv_icmp_ge (tgt := 33) hx hb dX2_cancelNote_28 (by decide) (fun c13 => ?_) (fun c13 => ?_)
      · have g14 := z_f_ge rfl z_l720 c13
        have b15 := Int32.toInt_lt x12
        refine lv_aload_n hx hb dX2_cancelNote_33 rfl (lv_at hl 0 rfl) ?_
        refine z_get (T := TX2) (N := 12) (ci := 2) (i := 1) (v := .ref (ad 11)) hx hb hts zj_X2_cancelNote_X2 hown hK hW rfl rfl 10 (by decide) (hts (.fieldLink RX2 39 "PetrolBoard$Holders" "undoneOn" "[I") (me_s (me_l (List.mem_of_getElem? (i := 1) rfl)))) (fun _ h => h) rfl dX2_cancelNote_34 ?_
        refine lv_iload_n hx hb dX2_cancelNote_37 rfl (lv_at hl 1 rfl) ?_
        refine lv_iload_n hx hb dX2_cancelNote_38 rfl (lv_at hl 2 rfl) ?_
        refine z_iast (i := 11) hx hb hK hW hS rfl (z_ix rfl (by omega) (by omega)) dX2_cancelNote_39 (fun H locs hz1 hW hS => ?_)
        obtain ⟨I16, eI16⟩ : ∃ K : z_I, K = z_up I 11 a1.toNatClampNeg a2 := ⟨_, rfl⟩
        rw [← eI16] at hW
        have f17 := z_fr_a z_fr_0 (show z_wa L_X2_cancelNote_r 11 = true by decide) eI16
        refine lv_iconst (v := 1) hx hb dX2_cancelNote_40 (by decide) ?_
        exact z_zret hx hb hr (by decide) hK hS (Nat.le_of_ble_eq_true rfl) (Nat.le_of_ble_eq_true rfl) hlocks dX2_cancelNote_41 (shC c, ad, I16, JX, PC c ad) hW ⟨I16, rfl, ⟨(by show 0 ≤ (I16 1 5).toInt ∧ (I16 1 5).toInt ≤ 30; rw [eI16, z_up_n (by decide)]; exact hH.1), (by show 0 ≤ (I16 1 11).toInt ∧ (I16 1 11).toInt ≤ 200; rw [eI16, z_up_n (by decide)]; exact hH.2)⟩, f17, (Or.inl ⟨rfl, (by have := congrArg Int32.toInt ex12; omega), (fun j => by rw [eI16, z_up_j])⟩)⟩
      · have g18 := z_f_nge rfl z_l720 c13
        have b19 := Int32.toInt_lt x12
        refine lv_iconst (v := 0) hx hb dX2_cancelNote_31 (by decide) ?_
        exact z_zret hx hb hr (by decide) hK hS (Nat.le_of_ble_eq_true rfl) (Nat.le_of_ble_eq_true rfl) hlocks dX2_cancelNote_32 (shC c, ad, I, JX, PC c ad) hW ⟨I, rfl, ⟨(by show 0 ≤ (I 1 5).toInt ∧ (I 1 5).toInt ≤ 30; exact hH.1), (by show 0 ≤ (I 1 11).toInt ∧ (I 1 11).toInt ≤ 200; exact hH.2)⟩, z_fr_0, (Or.inr ⟨rfl, (by have := congrArg Int32.toInt ex12; omega), (fun j => rfl)⟩)⟩
noncomputable def L_X11_undo_r : z_L := [(11, 999)]
set_option maxHeartbeats 8000000 in
set_option maxRecDepth 100000 in
theorem sx_X11_undo_r (l : Launch) (G : z_G) (ad : Nat → Nat) (c : z_C) (I : z_I) (hB : z_iB I) (hH : z_iH I) (a1 : Int32) (hc : z_okc c) (h10 : c.1 ≤ 10) : z_M l yX11_undo wsX11_undo { frames := 2, cells := 0, slots := 0, locals := 34 } [.ref (ad 0), .int a1] G (shC c, ad, I, JX, PC c ad) (fun r u1 => ∃ I1 : z_I, u1 = (shC c, ad, I1, JX, PC c ad) ∧ z_iB I1 ∧ z_iH I1 ∧ z_fr L_X11_undo_r I1 I ∧ ((r = 1 ∧ (0 ≤ a1.toInt ∧ a1.toInt < (I 1 11).toInt ∧ 720 ≤ (I 11 a1.toNatClampNeg).toInt) ∧ ∀ j, I1 11 j = if j = a1.toNatClampNeg then (I 0 0) else I 11 j) ∨ (r = 0 ∧ ¬ (0 ≤ a1.toInt ∧ a1.toInt < (I 1 11).toInt ∧ 720 ≤ (I 11 a1.toNatClampNeg).toInt) ∧ ∀ j, I1 11 j = I 11 j))) 0 0 := by
  intro sz
  refine z_headQ (cc := cX11_undo) (maxL := 2) (ret := (some .boolean)) (by decide) rfl (Nat.le_of_ble_eq_true rfl) ?_
  intro p e s m below meth c0 ls hIn hK hsz hW hl
  obtain ⟨hx, hb, hr, hml, hown, hts, hlocks, hname⟩ := hIn
  subst hsz
  have hown : s.vm.findClass RX11 = some m.cls := hown
  have hA : ∀ q : Nat, s.heap.size ≤ q → z_A (shC c, ad, I, JX, PC c ad) s.heap.size q := fun q h => Or.inr h
  generalize hAe : z_A (shC c, ad, I, JX, PC c ad) s.heap.size = A at *
  have hS : va_S A s.heap s.heap [] := va_S.rf
  have hl : lv_has ls 2 [(0, .ref (ad 0)), (1, .int a1)] := hl
  refine lv_aload_n hx hb dX11_undo_0 rfl (lv_at hl 0 rfl) ?_
  refine z_get (T := TX11) (N := 13) (ci := 11) (i := 0) (v := .ref (ad 1)) hx hb hts zj_X11_undo_X11 hown hK hW rfl rfl 2 (by decide) (hts (.fieldLink RX11 16 "PetrolBoard" "holders" "LPetrolBoard$Holders;") (me_s (me_l (me_l (List.mem_of_getElem? (i := 0) rfl))))) (fun _ h => h) rfl dX11_undo_1 ?_
  refine lv_iload_n hx hb dX11_undo_4 rfl (lv_at hl 1 rfl) ?_
  refine lv_aload_n hx hb dX11_undo_5 rfl (lv_at hl 0 rfl) ?_
  have r1 : 0 ≤ (I 0 0).toInt ∧ (I 0 0).toInt ≤ 719 := hB.1
  refine z_get (T := TX11) (N := 13) (ci := 11) (i := 0) (v := .int (I 0 0)) hx hb hts zj_X11_undo_X11 hown hK hW rfl rfl 0 (by decide) (hts (.fieldLink RX11 85 "PetrolBoard" "today" "I") (me_s (me_l (me_l (List.mem_of_getElem? (i := 1) rfl))))) (fun _ h => h) rfl dX11_undo_6 ?_
  refine z_ci hW hS hA (va_runV (As := [.int a1, .int (I 0 0)]) (rest := []) ⟨hx, hb, hml, hown, hts⟩ (sx_X2_cancelNote_r l G ad c I ⟨(by show 0 ≤ (I 1 5).toInt ∧ (I 1 5).toInt ≤ 30; exact hH.1), (by show 0 ≤ (I 1 11).toInt ∧ (I 1 11).toInt ≤ 200; exact hH.2)⟩ a1 (I 0 0) _) (cwV 2 hts gX11_undo_X2_cancelNote rfl rfl rfl (by decide +kernel) ⟨Nat.le_of_ble_eq_true rfl, Nat.le_of_ble_eq_true rfl⟩) (z_preV (i := 1) hK hW rfl rfl) rfl rfl hl.1 rfl (lv_room (Nat.le_of_ble_eq_true rfl)) dX11_undo_9 ⟨Nat.le_of_ble_eq_true rfl, Nat.le_of_ble_eq_true rfl⟩) (fun r u1 H locs hp hW hS => ?_)
  obtain ⟨I2, e9, hI2H, fI2, hp⟩ := hp
  rw [e9] at hW
  have f3 := z_fr_sub (L := L_X11_undo_r) z_fr_0 fI2 (by decide)
  have k4 : 0 ≤ (I2 0 0).toInt ∧ (I2 0 0).toInt ≤ 719 := by rw [fI2 0 0 (by decide)]; exact (by show 0 ≤ (I 0 0).toInt ∧ (I 0 0).toInt ≤ 719; exact hB.1)
  have k5 : 0 ≤ (I2 0 8).toInt ∧ (I2 0 8).toInt ≤ 10 := by rw [fI2 0 8 (by decide)]; exact (by show 0 ≤ (I 0 8).toInt ∧ (I 0 8).toInt ≤ 10; exact hB.2)
  rcases hp with ⟨rfl, h6, h7⟩ | ⟨rfl, h6, h7⟩
  · have h8 := h6
    exact z_zret hx hb hr (by decide) hK hS (Nat.le_of_ble_eq_true rfl) (Nat.le_of_ble_eq_true rfl) hlocks dX11_undo_12 (shC c, ad, I2, JX, PC c ad) hW ⟨I2, rfl, ⟨(by show 0 ≤ (I2 0 0).toInt ∧ (I2 0 0).toInt ≤ 719; exact k4), (by show 0 ≤ (I2 0 8).toInt ∧ (I2 0 8).toInt ≤ 10; exact k5)⟩, ⟨(by show 0 ≤ (I2 1 5).toInt ∧ (I2 1 5).toInt ≤ 30; exact hI2H.1), (by show 0 ≤ (I2 1 11).toInt ∧ (I2 1 11).toInt ≤ 200; exact hI2H.2)⟩, f3, (Or.inl ⟨rfl, (by omega), h7⟩)⟩
  · have h9 := h6
    exact z_zret hx hb hr (by decide) hK hS (Nat.le_of_ble_eq_true rfl) (Nat.le_of_ble_eq_true rfl) hlocks dX11_undo_12 (shC c, ad, I2, JX, PC c ad) hW ⟨I2, rfl, ⟨(by show 0 ≤ (I2 0 0).toInt ∧ (I2 0 0).toInt ≤ 719; exact k4), (by show 0 ≤ (I2 0 8).toInt ∧ (I2 0 8).toInt ≤ 10; exact k5)⟩, ⟨(by show 0 ≤ (I2 1 5).toInt ∧ (I2 1 5).toInt ≤ 30; exact hI2H.1), (by show 0 ≤ (I2 1 11).toInt ∧ (I2 1 11).toInt ≤ 200; exact hI2H.2)⟩, f3, (Or.inr ⟨rfl, (by omega), h7⟩)⟩
noncomputable def L_X12_undo_r : z_L := [(10, 999)]
set_option maxHeartbeats 8000000 in
set_option maxRecDepth 100000 in
theorem sx_X12_undo_r (l : Launch) (G : z_G) (ad : Nat → Nat) (I : z_I) (J : z_J) (hma : z_ima I) (a1 : Int32) : z_M l yX12_undo wsX12_undo { frames := 1, cells := 0, slots := 0, locals := 12 } [.ref (ad 0), .int a1] G (shM, ad, I, J, PM ad) (fun r u1 => ∃ (I1 : z_I) (J1 : z_J), u1 = (shM, ad, I1, J1, PM ad) ∧ z_ima I1 ∧ z_fr L_X12_undo_r I1 I ∧ ((r = 1 ∧ (0 ≤ a1.toInt ∧ a1.toInt < (I 0 2).toInt ∧ (I 10 a1.toNatClampNeg).toInt < 0) ∧ ∀ j, I1 10 j = if j = a1.toNatClampNeg then (I 0 0) else I 10 j) ∨ (r = 0 ∧ ¬ (0 ≤ a1.toInt ∧ a1.toInt < (I 0 2).toInt ∧ (I 10 a1.toNatClampNeg).toInt < 0) ∧ ∀ j, I1 10 j = I 10 j))) 0 0 := by
  intro sz
  refine z_headQ (cc := cX12_undo) (maxL := 2) (ret := (some .boolean)) (by decide) rfl (Nat.le_of_ble_eq_true rfl) ?_
  intro p e s m below meth c0 ls hIn hK hsz hW hl
  obtain ⟨hx, hb, hr, hml, hown, hts, hlocks, hname⟩ := hIn
  subst hsz
  have hown : s.vm.findClass RX12 = some m.cls := hown
  have hA : ∀ q : Nat, s.heap.size ≤ q → z_A (shM, ad, I, J, PM ad) s.heap.size q := fun q h => Or.inr h
  generalize hAe : z_A (shM, ad, I, J, PM ad) s.heap.size = A at *
  have hS : va_S A s.heap s.heap [] := va_S.rf
  have hl : lv_has ls 2 [(0, .ref (ad 0)), (1, .int a1)] := hl
  refine lv_iload_n hx hb dX12_undo_0 rfl (lv_at hl 1 rfl) ?_
  refine lv_if_lt (tgt := 21) hx hb dX12_undo_1 (by decide) (fun c1 => ?_) (fun c1 => ?_)
  · have g2 := z_f_lt rfl z_l0 c1
    have b3 := Int32.toInt_lt a1
    refine lv_iconst (v := 0) hx hb dX12_undo_21 (by decide) ?_
    exact z_zret hx hb hr (by decide) hK hS (Nat.le_of_ble_eq_true rfl) (Nat.le_of_ble_eq_true rfl) hlocks dX12_undo_22 (shM, ad, I, J, PM ad) hW ⟨I, J, rfl, ⟨(by show 0 ≤ (I 0 0).toInt ∧ (I 0 0).toInt ≤ 719; exact hma.1), (by show 0 ≤ (I 0 1).toInt ∧ (I 0 1).toInt ≤ 30; exact hma.2.1), (by show 0 ≤ (I 0 2).toInt ∧ (I 0 2).toInt ≤ 200; exact hma.2.2)⟩, z_fr_0, (Or.inr ⟨rfl, (by omega), (fun j => rfl)⟩)⟩
  · have g4 := z_f_nlt rfl z_l0 c1
    have b5 := Int32.toInt_lt a1
    refine lv_iload_n hx hb dX12_undo_4 rfl (lv_at hl 1 rfl) ?_
    refine lv_aload_n hx hb dX12_undo_5 rfl (lv_at hl 0 rfl) ?_
    have r6 : 0 ≤ (I 0 2).toInt ∧ (I 0 2).toInt ≤ 200 := hma.2.2
    refine z_get (T := TX12) (N := 96) (ci := 12) (i := 0) (v := .int (I 0 2)) hx hb hts zj_X12_undo_X12 hown hK hW rfl rfl 2 (by decide) (hts (.fieldLink RX12 246 "PetrolBoardModel" "notes" "I") (me_s (me_l (List.mem_of_getElem? (i := 0) rfl)))) (fun _ h => h) rfl dX12_undo_6 ?_
    refine lv_icmp_ge (tgt := 21) hx hb dX12_undo_9 (by decide) (fun c7 => ?_) (fun c7 => ?_)
    · have g8 := z_f_ge rfl rfl c7
      refine lv_iconst (v := 0) hx hb dX12_undo_21 (by decide) ?_
      exact z_zret hx hb hr (by decide) hK hS (Nat.le_of_ble_eq_true rfl) (Nat.le_of_ble_eq_true rfl) hlocks dX12_undo_22 (shM, ad, I, J, PM ad) hW ⟨I, J, rfl, ⟨(by show 0 ≤ (I 0 0).toInt ∧ (I 0 0).toInt ≤ 719; exact hma.1), (by show 0 ≤ (I 0 1).toInt ∧ (I 0 1).toInt ≤ 30; exact hma.2.1), (by show 0 ≤ (I 0 2).toInt ∧ (I 0 2).toInt ≤ 200; exact hma.2.2)⟩, z_fr_0, (Or.inr ⟨rfl, (by omega), (fun j => rfl)⟩)⟩
    · have g9 := z_f_nge rfl rfl c7
      refine lv_aload_n hx hb dX12_undo_12 rfl (lv_at hl 0 rfl) ?_
      refine z_get (T := TX12) (N := 96) (ci := 12) (i := 0) (v := .ref (ad 10)) hx hb hts zj_X12_undo_X12 hown hK hW rfl rfl 12 (by decide) (hts (.fieldLink RX12 37 "PetrolBoardModel" "noteGone" "[I") (me_s (me_l (List.mem_of_getElem? (i := 1) rfl)))) (fun _ h => h) rfl dX12_undo_13 ?_
      refine lv_iload_n hx hb dX12_undo_16 rfl (lv_at hl 1 rfl) ?_
      refine z_iald (i := 10) hx hb hK hW rfl (z_ix rfl (by omega) (by omega)) dX12_undo_17 ?_
      refine lv_topi (fun x10 ex10 => ?_)
      refine lv_if_lt (tgt := 23) hx hb dX12_undo_18 (by decide) (fun c11 => ?_) (fun c11 => ?_)
      · have g12 := z_f_lt rfl z_l0 c11
        have b13 := Int32.toInt_lt x10
        refine lv_aload_n hx hb dX12_undo_23 rfl (lv_at hl 0 rfl) ?_
        refine z_get (T := TX12) (N := 96) (ci := 12) (i := 0) (v := .ref (ad 10)) hx hb hts zj_X12_undo_X12 hown hK hW rfl rfl 12 (by decide) (hts (.fieldLink RX12 37 "PetrolBoardModel" "noteGone" "[I") (me_s (me_l (List.mem_of_getElem? (i := 1) rfl)))) (fun _ h => h) rfl dX12_undo_24 ?_
        refine lv_iload_n hx hb dX12_undo_27 rfl (lv_at hl 1 rfl) ?_
        refine lv_aload_n hx hb dX12_undo_28 rfl (lv_at hl 0 rfl) ?_
        have r14 : 0 ≤ (I 0 0).toInt ∧ (I 0 0).toInt ≤ 719 := hma.1
        refine z_get (T := TX12) (N := 96) (ci := 12) (i := 0) (v := .int (I 0 0)) hx hb hts zj_X12_undo_X12 hown hK hW rfl rfl 0 (by decide) (hts (.fieldLink RX12 232 "PetrolBoardModel" "today" "I") (me_s (me_l (List.mem_of_getElem? (i := 2) rfl)))) (fun _ h => h) rfl dX12_undo_29 ?_
        refine z_iast (i := 10) hx hb hK hW hS rfl (z_ix rfl (by omega) (by omega)) dX12_undo_32 (fun H locs hz1 hW hS => ?_)
        obtain ⟨I15, eI15⟩ : ∃ K : z_I, K = z_up I 10 a1.toNatClampNeg (I 0 0) := ⟨_, rfl⟩
        rw [← eI15] at hW
        have f16 := z_fr_a z_fr_0 (show z_wa L_X12_undo_r 10 = true by decide) eI15
        refine lv_iconst (v := 1) hx hb dX12_undo_33 (by decide) ?_
        exact z_zret hx hb hr (by decide) hK hS (Nat.le_of_ble_eq_true rfl) (Nat.le_of_ble_eq_true rfl) hlocks dX12_undo_34 (shM, ad, I15, J, PM ad) hW ⟨I15, J, rfl, ⟨(by show 0 ≤ (I15 0 0).toInt ∧ (I15 0 0).toInt ≤ 719; rw [eI15, z_up_n (by decide)]; exact hma.1), (by show 0 ≤ (I15 0 1).toInt ∧ (I15 0 1).toInt ≤ 30; rw [eI15, z_up_n (by decide)]; exact hma.2.1), (by show 0 ≤ (I15 0 2).toInt ∧ (I15 0 2).toInt ≤ 200; rw [eI15, z_up_n (by decide)]; exact hma.2.2)⟩, f16, (Or.inl ⟨rfl, (by have := congrArg Int32.toInt ex10; omega), (fun j => by rw [eI15, z_up_j])⟩)⟩
      · have g17 := z_f_nlt rfl z_l0 c11
        have b18 := Int32.toInt_lt x10
        refine lv_iconst (v := 0) hx hb dX12_undo_21 (by decide) ?_
        exact z_zret hx hb hr (by decide) hK hS (Nat.le_of_ble_eq_true rfl) (Nat.le_of_ble_eq_true rfl) hlocks dX12_undo_22 (shM, ad, I, J, PM ad) hW ⟨I, J, rfl, ⟨(by show 0 ≤ (I 0 0).toInt ∧ (I 0 0).toInt ≤ 719; exact hma.1), (by show 0 ≤ (I 0 1).toInt ∧ (I 0 1).toInt ≤ 30; exact hma.2.1), (by show 0 ≤ (I 0 2).toInt ∧ (I 0 2).toInt ≤ 200; exact hma.2.2)⟩, z_fr_0, (Or.inr ⟨rfl, (by have := congrArg Int32.toInt ex10; omega), (fun j => rfl)⟩)⟩
set_option maxHeartbeats 8000000 in
set_option maxRecDepth 100000 in
theorem sx_X11_classOf_r (l : Launch) (G : z_G) (ad : Nat → Nat) (c : z_C) (I : z_I) (hH : z_iH I) (a1 : Int32) (a2 : Int32) (a3 : Int32) (hc : z_okc c) (h10 : c.1 ≤ 10) : z_M l yX11_classOf wsX11_classOf { frames := 3, cells := 0, slots := 0, locals := 54 } [.ref (ad 0), .int a1, .int a2, .int a3] G (shC c, ad, I, JX, PC c ad) (fun r u1 => u1 = (shC c, ad, I, JX, PC c ad) ∧ (((0 ≤ a1.toInt ∧ a1.toInt < (I 1 5).toInt ∧ 0 ≤ a2.toInt ∧ a2.toInt ≤ 719 ∧ 0 ≤ a3.toInt ∧ a3.toInt ≤ 719) ∧ r.toInt = (z_kx I a1.toInt a2.toInt a3.toInt (I 1 11).toNatClampNeg).2) ∨ (¬ (0 ≤ a1.toInt ∧ a1.toInt < (I 1 5).toInt ∧ 0 ≤ a2.toInt ∧ a2.toInt ≤ 719 ∧ 0 ≤ a3.toInt ∧ a3.toInt ≤ 719) ∧ r.toInt = -1))) 0 0 := by
  intro sz
  refine z_headQ (cc := cX11_classOf) (maxL := 4) (ret := (some .int)) (by decide) rfl (Nat.le_of_ble_eq_true rfl) ?_
  intro p e s m below meth c0 ls hIn hK hsz hW hl
  obtain ⟨hx, hb, hr, hml, hown, hts, hlocks, hname⟩ := hIn
  subst hsz
  have hown : s.vm.findClass RX11 = some m.cls := hown
  have hA : ∀ q : Nat, s.heap.size ≤ q → z_A (shC c, ad, I, JX, PC c ad) s.heap.size q := fun q h => Or.inr h
  generalize hAe : z_A (shC c, ad, I, JX, PC c ad) s.heap.size = A at *
  have hS : va_S A s.heap s.heap [] := va_S.rf
  have hl : lv_has ls 4 [(0, .ref (ad 0)), (1, .int a1), (2, .int a2), (3, .int a3)] := hl
  refine lv_aload_n hx hb dX11_classOf_0 rfl (lv_at hl 0 rfl) ?_
  refine z_get (T := TX11) (N := 13) (ci := 11) (i := 0) (v := .ref (ad 1)) hx hb hts zj_X11_classOf_X11 hown hK hW rfl rfl 2 (by decide) (hts (.fieldLink RX11 16 "PetrolBoard" "holders" "LPetrolBoard$Holders;") (me_s (me_l (me_l (List.mem_of_getElem? (i := 0) rfl))))) (fun _ h => h) rfl dX11_classOf_1 ?_
  refine lv_iload_n hx hb dX11_classOf_4 rfl (lv_at hl 1 rfl) ?_
  refine z_ci hW hS hA (va_runV (As := [.int a1]) (rest := []) ⟨hx, hb, hml, hown, hts⟩ (sx_X2_has_e l G ad c I ⟨(by show 0 ≤ (I 1 5).toInt ∧ (I 1 5).toInt ≤ 30; exact hH.1), (by show 0 ≤ (I 1 11).toInt ∧ (I 1 11).toInt ≤ 200; exact hH.2)⟩ a1 _) (cwV 1 hts gX11_classOf_X2_has rfl rfl rfl (by decide +kernel) ⟨Nat.le_of_ble_eq_true rfl, Nat.le_of_ble_eq_true rfl⟩) (z_preV (i := 1) hK hW rfl rfl) rfl rfl hl.1 rfl (lv_room (Nat.le_of_ble_eq_true rfl)) dX11_classOf_5 ⟨Nat.le_of_ble_eq_true rfl, Nat.le_of_ble_eq_true rfl⟩) (fun r u1 H locs hp hW hS => ?_)
  obtain ⟨e9, hp⟩ := hp
  rw [e9] at hW
  rcases hp with ⟨rfl, h1⟩ | ⟨rfl, h1⟩
  · have h2 := h1
    have r3 : 0 ≤ (I 1 5).toInt ∧ (I 1 5).toInt ≤ 30 := hH.1
    refine lv_if_eq (tgt := 25) hx hb dX11_classOf_8 (by decide) (fun c4 => absurd c4 (by decide)) (fun c4 => ?_)
    refine lv_iload_n hx hb dX11_classOf_11 rfl (lv_at hl 2 rfl) ?_
    refine z_ci hW hS hA (va_runS (As := [.int a2]) (rest := []) ⟨hx, hb, hml, hown, hts⟩ (sx_X11_isDay_e l G ad c I  a2 _) (va_cwS 1 hts gX11_classOf_X11_isDay rfl rfl rfl (by decide +kernel) ⟨Nat.le_of_ble_eq_true rfl, Nat.le_of_ble_eq_true rfl⟩) (z_preS hK hW) rfl rfl hl.1 rfl (lv_room (Nat.le_of_ble_eq_true rfl)) dX11_classOf_12 ⟨Nat.le_of_ble_eq_true rfl, Nat.le_of_ble_eq_true rfl⟩) (fun r u1 H locs hp hW hS => ?_)
    obtain ⟨e9, hp⟩ := hp
    rw [e9] at hW
    rcases hp with ⟨rfl, h5⟩ | ⟨rfl, h5⟩
    · have h6 := h5
      refine lv_if_eq (tgt := 25) hx hb dX11_classOf_15 (by decide) (fun c7 => absurd c7 (by decide)) (fun c7 => ?_)
      refine lv_iload_n hx hb dX11_classOf_18 rfl (lv_at hl 3 rfl) ?_
      refine z_ci hW hS hA (va_runS (As := [.int a3]) (rest := []) ⟨hx, hb, hml, hown, hts⟩ (sx_X11_isDay_e l G ad c I  a3 _) (va_cwS 1 hts gX11_classOf_X11_isDay rfl rfl rfl (by decide +kernel) ⟨Nat.le_of_ble_eq_true rfl, Nat.le_of_ble_eq_true rfl⟩) (z_preS hK hW) rfl rfl hl.1 rfl (lv_room (Nat.le_of_ble_eq_true rfl)) dX11_classOf_19 ⟨Nat.le_of_ble_eq_true rfl, Nat.le_of_ble_eq_true rfl⟩) (fun r u1 H locs hp hW hS => ?_)
      obtain ⟨e9, hp⟩ := hp
      rw [e9] at hW
      rcases hp with ⟨rfl, h8⟩ | ⟨rfl, h8⟩
      · have h9 := h8
        refine lv_if_ne (tgt := 27) hx hb dX11_classOf_22 (by decide) (fun c10 => ?_) (fun c10 => absurd c10 (by decide))
        refine lv_aload_n hx hb dX11_classOf_27 rfl (lv_at hl 0 rfl) ?_
        refine z_get (T := TX11) (N := 13) (ci := 11) (i := 0) (v := .ref (ad 1)) hx hb hts zj_X11_classOf_X11 hown hK hW rfl rfl 2 (by decide) (hts (.fieldLink RX11 16 "PetrolBoard" "holders" "LPetrolBoard$Holders;") (me_s (me_l (me_l (List.mem_of_getElem? (i := 0) rfl))))) (fun _ h => h) rfl dX11_classOf_28 ?_
        refine lv_iload_n hx hb dX11_classOf_31 rfl (lv_at hl 1 rfl) ?_
        refine lv_iload_n hx hb dX11_classOf_32 rfl (lv_at hl 2 rfl) ?_
        refine lv_iload_n hx hb dX11_classOf_33 rfl (lv_at hl 3 rfl) ?_
        refine z_ci hW hS hA (va_runV (As := [.int a1, .int a2, .int a3]) (rest := []) ⟨hx, hb, hml, hown, hts⟩ (sx_X2_kindOn_r l G ad c I ⟨(by show 0 ≤ (I 1 5).toInt ∧ (I 1 5).toInt ≤ 30; exact hH.1), (by show 0 ≤ (I 1 11).toInt ∧ (I 1 11).toInt ≤ 200; exact hH.2)⟩ a1 a2 a3 _) (cwV 3 hts gX11_classOf_X2_kindOn rfl rfl rfl (by decide +kernel) ⟨Nat.le_of_ble_eq_true rfl, Nat.le_of_ble_eq_true rfl⟩) (z_preV (i := 1) hK hW rfl rfl) rfl rfl hl.1 rfl (lv_room (Nat.le_of_ble_eq_true rfl)) dX11_classOf_34 ⟨Nat.le_of_ble_eq_true rfl, Nat.le_of_ble_eq_true rfl⟩) (fun r u1 H locs hp hW hS => ?_)
        obtain ⟨e9, hp⟩ := hp
        rw [e9] at hW
        refine lv_topi (fun x11 ex11 => ?_)
        have h12 := hp
        rw [← ex11] at h12
        exact z_iret hx hb hr hK hS (Nat.le_of_ble_eq_true rfl) (Nat.le_of_ble_eq_true rfl) hlocks dX11_classOf_37 (shC c, ad, I, JX, PC c ad) hW ⟨rfl, (Or.inl ⟨by omega, h12⟩)⟩
      · have h13 := h8
        refine lv_if_ne (tgt := 27) hx hb dX11_classOf_22 (by decide) (fun c14 => absurd (by decide) c14) (fun c14 => ?_)
        refine lv_iconst (v := (-1)) hx hb dX11_classOf_25 (by decide) ?_
        exact z_iret hx hb hr hK hS (Nat.le_of_ble_eq_true rfl) (Nat.le_of_ble_eq_true rfl) hlocks dX11_classOf_26 (shC c, ad, I, JX, PC c ad) hW ⟨rfl, (Or.inr ⟨by omega, by decide⟩)⟩
    · have h15 := h5
      refine lv_if_eq (tgt := 25) hx hb dX11_classOf_15 (by decide) (fun c16 => ?_) (fun c16 => absurd (by decide) c16)
      refine lv_iconst (v := (-1)) hx hb dX11_classOf_25 (by decide) ?_
      exact z_iret hx hb hr hK hS (Nat.le_of_ble_eq_true rfl) (Nat.le_of_ble_eq_true rfl) hlocks dX11_classOf_26 (shC c, ad, I, JX, PC c ad) hW ⟨rfl, (Or.inr ⟨by omega, by decide⟩)⟩
  · have h17 := h1
    have r18 : 0 ≤ (I 1 5).toInt ∧ (I 1 5).toInt ≤ 30 := hH.1
    refine lv_if_eq (tgt := 25) hx hb dX11_classOf_8 (by decide) (fun c19 => ?_) (fun c19 => absurd (by decide) c19)
    refine lv_iconst (v := (-1)) hx hb dX11_classOf_25 (by decide) ?_
    exact z_iret hx hb hr hK hS (Nat.le_of_ble_eq_true rfl) (Nat.le_of_ble_eq_true rfl) hlocks dX11_classOf_26 (shC c, ad, I, JX, PC c ad) hW ⟨rfl, (Or.inr ⟨by omega, by decide⟩)⟩
set_option maxHeartbeats 8000000 in
set_option maxRecDepth 100000 in
theorem sx_X12_classOf_r (l : Launch) (G : z_G) (ad : Nat → Nat) (I : z_I) (J : z_J) (hma : z_ima I) (a1 : Int32) (a2 : Int32) (a3 : Int32) : z_M l yX12_classOf wsX12_classOf { frames := 2, cells := 0, slots := 0, locals := 37 } [.ref (ad 0), .int a1, .int a2, .int a3] G (shM, ad, I, J, PM ad) (fun r u1 => u1 = (shM, ad, I, J, PM ad) ∧ (((0 ≤ a1.toInt ∧ a1.toInt < (I 0 1).toInt ∧ 0 ≤ a2.toInt ∧ a2.toInt ≤ 719 ∧ 0 ≤ a3.toInt ∧ a3.toInt ≤ 719) ∧ r.toInt = z_kmr I a1.toInt a2.toInt a3.toInt (I 0 2).toNatClampNeg) ∨ (¬ (0 ≤ a1.toInt ∧ a1.toInt < (I 0 1).toInt ∧ 0 ≤ a2.toInt ∧ a2.toInt ≤ 719 ∧ 0 ≤ a3.toInt ∧ a3.toInt ≤ 719) ∧ r.toInt = -1))) 0 0 := by
  intro sz
  refine z_headQ (cc := cX12_classOf) (maxL := 4) (ret := (some .int)) (by decide) rfl (Nat.le_of_ble_eq_true rfl) ?_
  intro p e s m below meth c0 ls hIn hK hsz hW hl
  obtain ⟨hx, hb, hr, hml, hown, hts, hlocks, hname⟩ := hIn
  subst hsz
  have hown : s.vm.findClass RX12 = some m.cls := hown
  have hA : ∀ q : Nat, s.heap.size ≤ q → z_A (shM, ad, I, J, PM ad) s.heap.size q := fun q h => Or.inr h
  generalize hAe : z_A (shM, ad, I, J, PM ad) s.heap.size = A at *
  have hS : va_S A s.heap s.heap [] := va_S.rf
  have hl : lv_has ls 4 [(0, .ref (ad 0)), (1, .int a1), (2, .int a2), (3, .int a3)] := hl
  refine lv_aload_n hx hb dX12_classOf_0 rfl (lv_at hl 0 rfl) ?_
  refine lv_iload_n hx hb dX12_classOf_1 rfl (lv_at hl 1 rfl) ?_
  refine z_ci hW hS hA (va_runV (As := [.int a1]) (rest := []) ⟨hx, hb, hml, hown, hts⟩ (sx_X12_isHolder_e l G ad I J ⟨(by show 0 ≤ (I 0 0).toInt ∧ (I 0 0).toInt ≤ 719; exact hma.1), (by show 0 ≤ (I 0 1).toInt ∧ (I 0 1).toInt ≤ 30; exact hma.2.1), (by show 0 ≤ (I 0 2).toInt ∧ (I 0 2).toInt ≤ 200; exact hma.2.2)⟩ a1 _) (cwV 1 hts gX12_classOf_X12_isHolder rfl rfl rfl (by decide +kernel) ⟨Nat.le_of_ble_eq_true rfl, Nat.le_of_ble_eq_true rfl⟩) (z_preV (i := 0) hK hW rfl rfl) rfl rfl hl.1 rfl (lv_room (Nat.le_of_ble_eq_true rfl)) dX12_classOf_2 ⟨Nat.le_of_ble_eq_true rfl, Nat.le_of_ble_eq_true rfl⟩) (fun r u1 H locs hp hW hS => ?_)
  obtain ⟨e9, hp⟩ := hp
  rw [e9] at hW
  rcases hp with ⟨rfl, h1⟩ | ⟨rfl, h1⟩
  · have h2 := h1
    have r3 : 0 ≤ (I 0 1).toInt ∧ (I 0 1).toInt ≤ 30 := hma.2.1
    refine lv_if_eq (tgt := 32) hx hb dX12_classOf_5 (by decide) (fun c4 => absurd c4 (by decide)) (fun c4 => ?_)
    refine lv_iload_n hx hb dX12_classOf_8 rfl (lv_at hl 2 rfl) ?_
    refine z_ci hW hS hA (va_runS (As := [.int a2]) (rest := []) ⟨hx, hb, hml, hown, hts⟩ (sx_X12_isDay_e l G ad I J  a2 _) (va_cwS 1 hts gX12_classOf_X12_isDay rfl rfl rfl (by decide +kernel) ⟨Nat.le_of_ble_eq_true rfl, Nat.le_of_ble_eq_true rfl⟩) (z_preS hK hW) rfl rfl hl.1 rfl (lv_room (Nat.le_of_ble_eq_true rfl)) dX12_classOf_9 ⟨Nat.le_of_ble_eq_true rfl, Nat.le_of_ble_eq_true rfl⟩) (fun r u1 H locs hp hW hS => ?_)
    obtain ⟨e9, hp⟩ := hp
    rw [e9] at hW
    rcases hp with ⟨rfl, h5⟩ | ⟨rfl, h5⟩
    · have h6 := h5
      refine lv_if_eq (tgt := 32) hx hb dX12_classOf_12 (by decide) (fun c7 => absurd c7 (by decide)) (fun c7 => ?_)
      refine lv_iload_n hx hb dX12_classOf_15 rfl (lv_at hl 3 rfl) ?_
      refine z_ci hW hS hA (va_runS (As := [.int a3]) (rest := []) ⟨hx, hb, hml, hown, hts⟩ (sx_X12_isDay_e l G ad I J  a3 _) (va_cwS 1 hts gX12_classOf_X12_isDay rfl rfl rfl (by decide +kernel) ⟨Nat.le_of_ble_eq_true rfl, Nat.le_of_ble_eq_true rfl⟩) (z_preS hK hW) rfl rfl hl.1 rfl (lv_room (Nat.le_of_ble_eq_true rfl)) dX12_classOf_16 ⟨Nat.le_of_ble_eq_true rfl, Nat.le_of_ble_eq_true rfl⟩) (fun r u1 H locs hp hW hS => ?_)
      obtain ⟨e9, hp⟩ := hp
      rw [e9] at hW
      rcases hp with ⟨rfl, h8⟩ | ⟨rfl, h8⟩
      · have h9 := h8
        refine lv_if_eq (tgt := 32) hx hb dX12_classOf_19 (by decide) (fun c10 => absurd c10 (by decide)) (fun c10 => ?_)
        refine lv_aload_n hx hb dX12_classOf_22 rfl (lv_at hl 0 rfl) ?_
        refine lv_iload_n hx hb dX12_classOf_23 rfl (lv_at hl 1 rfl) ?_
        refine lv_iload_n hx hb dX12_classOf_24 rfl (lv_at hl 2 rfl) ?_
        refine lv_iload_n hx hb dX12_classOf_25 rfl (lv_at hl 3 rfl) ?_
        refine z_ci hW hS hA (va_runV (As := [.int a1, .int a2, .int a3]) (rest := []) ⟨hx, hb, hml, hown, hts⟩ (sx_X12_kindOn_r l G ad I J ⟨(by show 0 ≤ (I 0 0).toInt ∧ (I 0 0).toInt ≤ 719; exact hma.1), (by show 0 ≤ (I 0 1).toInt ∧ (I 0 1).toInt ≤ 30; exact hma.2.1), (by show 0 ≤ (I 0 2).toInt ∧ (I 0 2).toInt ≤ 200; exact hma.2.2)⟩ a1 a2 a3 _) (cwV 3 hts gX12_classOf_X12_kindOn rfl rfl rfl (by decide +kernel) ⟨Nat.le_of_ble_eq_true rfl, Nat.le_of_ble_eq_true rfl⟩) (z_preV (i := 0) hK hW rfl rfl) rfl rfl hl.1 rfl (lv_room (Nat.le_of_ble_eq_true rfl)) dX12_classOf_26 ⟨Nat.le_of_ble_eq_true rfl, Nat.le_of_ble_eq_true rfl⟩) (fun r u1 H locs hp hW hS => ?_)
        obtain ⟨e9, hp⟩ := hp
        rw [e9] at hW
        refine lv_topi (fun x11 ex11 => ?_)
        have h12 := hp
        rw [← ex11] at h12
        refine lv_goto (tgt := 33) hx hb dX12_classOf_29 (by decide) ?_
        exact z_iret hx hb hr hK hS (Nat.le_of_ble_eq_true rfl) (Nat.le_of_ble_eq_true rfl) hlocks dX12_classOf_33 (shM, ad, I, J, PM ad) hW ⟨rfl, (Or.inl ⟨by omega, h12⟩)⟩
      · have h13 := h8
        refine lv_if_eq (tgt := 32) hx hb dX12_classOf_19 (by decide) (fun c14 => ?_) (fun c14 => absurd (by decide) c14)
        refine lv_iconst (v := (-1)) hx hb dX12_classOf_32 (by decide) ?_
        exact z_iret hx hb hr hK hS (Nat.le_of_ble_eq_true rfl) (Nat.le_of_ble_eq_true rfl) hlocks dX12_classOf_33 (shM, ad, I, J, PM ad) hW ⟨rfl, (Or.inr ⟨by omega, by decide⟩)⟩
    · have h15 := h5
      refine lv_if_eq (tgt := 32) hx hb dX12_classOf_12 (by decide) (fun c16 => ?_) (fun c16 => absurd (by decide) c16)
      refine lv_iconst (v := (-1)) hx hb dX12_classOf_32 (by decide) ?_
      exact z_iret hx hb hr hK hS (Nat.le_of_ble_eq_true rfl) (Nat.le_of_ble_eq_true rfl) hlocks dX12_classOf_33 (shM, ad, I, J, PM ad) hW ⟨rfl, (Or.inr ⟨by omega, by decide⟩)⟩
  · have h17 := h1
    have r18 : 0 ≤ (I 0 1).toInt ∧ (I 0 1).toInt ≤ 30 := hma.2.1
    refine lv_if_eq (tgt := 32) hx hb dX12_classOf_5 (by decide) (fun c19 => ?_) (fun c19 => absurd (by decide) c19)
    refine lv_iconst (v := (-1)) hx hb dX12_classOf_32 (by decide) ?_
    exact z_iret hx hb hr hK hS (Nat.le_of_ble_eq_true rfl) (Nat.le_of_ble_eq_true rfl) hlocks dX12_classOf_33 (shM, ad, I, J, PM ad) hW ⟨rfl, (Or.inr ⟨by omega, by decide⟩)⟩
end SG60g
section SG60h


/-! the STATIONS' own fields -/
/-- nothing of ORDERS' copies changes -/
noncomputable def z_hi (K I : z_I) : Prop := ∀ a k, 200 ≤ a → K a k = I a k
theorem z_hi_fr {K I : z_I} {L : z_L} (hf : z_fr L K I) (hL : L.all (fun e => decide (e.1 < 100)) = true) : z_hi K I := fun a k ha => by
  have hw : z_wr L a k = false := by
    cases hz : z_wr L a k with
    | false => rfl
    | true =>
      exfalso
      unfold z_wr at hz
      rw [List.any_eq_true] at hz
      obtain ⟨e, he, h2⟩ := hz
      rw [List.all_eq_true] at hL
      have h3 := hL e he
      simp only [z_ce, Bool.and_eq_true, Bool.or_eq_true, beq_iff_eq, decide_eq_true_eq] at h2 h3
      omega
  exact hf _ _ hw
noncomputable def z_sk (K I : z_I) : Prop := (∀ q k, q < 10 → K (100 + 8 * q) k = I (100 + 8 * q) k) ∧ z_hi K I
theorem z_sk_0 {I : z_I} : z_sk I I := ⟨fun _ _ _ => rfl, fun _ _ _ => rfl⟩
theorem z_sk_t {K I I0 : z_I} (h1 : z_sk K I) (h2 : z_sk I I0) : z_sk K I0 := ⟨fun q k hq => (h1.1 q k hq).trans (h2.1 q k hq), fun a k ha => (h1.2 a k ha).trans (h2.2 a k ha)⟩
theorem z_sk_n {K I I0 : z_I} {a j : Nat} {v : Int32} (h : z_sk I I0) (ha : a < 100) (e : K = z_up I a j v) : z_sk K I0 := by
  refine ⟨fun q k hq => ?_, fun b k hb => ?_⟩
  · rw [e, z_up_n (by omega)]
    exact h.1 q k hq
  · rw [e, z_up_n (by omega)]
    exact h.2 b k hb
theorem z_sk_a {K I I0 : z_I} {r i j : Nat} {v : Int32} (h : z_sk I I0) (hi : 1 ≤ i ∧ i ≤ 7) (hr : r < 10) (e : K = z_up I (100 + 8 * r + i) j v) : z_sk K I0 := by
  refine ⟨fun q k hq => ?_, fun b k hb => ?_⟩
  · rw [e, z_up_n (by omega)]
    exact h.1 q k hq
  · rw [e, z_up_n (by omega)]
    exact h.2 b k hb
theorem z_sk_fr {K I I0 : z_I} {L : z_L} (h : z_sk I I0) (hf : z_fr L K I) (hL : L.all (fun e => decide (e.1 < 100)) = true) : z_sk K I0 := by
  refine ⟨fun q k hq => ?_, fun a k ha => (z_hi_fr hf hL a k ha).trans (h.2 a k ha)⟩
  have hw : z_wr L (100 + 8 * q) k = false := by
    cases hz : z_wr L (100 + 8 * q) k with
    | false => rfl
    | true =>
      exfalso
      unfold z_wr at hz
      rw [List.any_eq_true] at hz
      obtain ⟨e, he, h2⟩ := hz
      rw [List.all_eq_true] at hL
      have h3 := hL e he
      simp only [z_ce, Bool.and_eq_true, Bool.or_eq_true, beq_iff_eq, decide_eq_true_eq] at h2 h3
      omega
  rw [hf _ _ hw]
  exact h.1 q k hq
noncomputable def z_sn (I1 I : z_I) (n : Nat) : Prop := (∀ q f, q < 10 → I1 (100 + 8 * q) f = if q = n then 0 else I (100 + 8 * q) f) ∧ z_hi I1 I
theorem z_sn_of {c : z_C} {I I2 : z_I} {y : Int32} (h10 : c.1 < 10) (e : I2 = z_up (z_I8 I (z_i0 c)) 0 8 y) : z_sn I2 I c.1 := by
  refine ⟨fun q f hq => ?_, fun a k ha => ?_⟩
  · rw [e, z_up_n (by omega)]
    unfold z_I8 z_i0
    by_cases h : q = c.1
    · rw [if_pos (by omega), if_pos h]
    · rw [if_neg (by omega), if_neg h]
  · rw [e, z_up_n (by omega)]
    unfold z_I8 z_i0
    rw [if_neg (by omega)]
noncomputable def z_dl (I1 I : z_I) (k : Nat) (t : Int32) : Prop := (∀ q f, q < 10 → I1 (100 + 8 * q) f = if q = k ∧ f = 5 then I (100 + 8 * k) 5 + 1 else if q = k ∧ f = 6 then I (100 + 8 * k) 6 + t else I (100 + 8 * q) f) ∧ z_hi I1 I
theorem z_dl_of {I I1 I2 : z_I} {k : Nat} {t x y : Int32} (h10 : k < 10) (e1 : I1 = z_up I (100 + 8 * k) 5 x) (e2 : I2 = z_up I1 (100 + 8 * k) 6 y) (hx : x = I (100 + 8 * k) 5 + 1) (hy : y = I (100 + 8 * k) 6 + t) : z_dl I2 I k t := by
  refine ⟨fun q f hq => ?_, fun a k ha => by rw [e2, e1, z_up_n (by omega), z_up_n (by omega)]⟩
  rw [e2, e1, hx, hy]
  by_cases hk : q = k
  · subst hk
    by_cases f6 : f = 6
    · subst f6
      rw [z_up_s, if_neg (by omega), if_pos ⟨rfl, rfl⟩]
    · rw [z_up_k f6]
      by_cases f5 : f = 5
      · subst f5
        rw [z_up_s, if_pos ⟨rfl, rfl⟩]
      · rw [z_up_k f5, if_neg (fun z => f5 z.2), if_neg (fun z => f6 z.2)]
  · rw [z_up_n (by omega), z_up_n (by omega), if_neg (fun z => hk z.1), if_neg (fun z => hk z.1)]
noncomputable def z_dp (I1 I : z_I) (k : Nat) : Prop := (∀ q f, q < 10 → I1 (100 + 8 * q) f = if q = k ∧ f = 4 then I (100 + 8 * k) 4 + 1 else I (100 + 8 * q) f) ∧ z_hi I1 I
theorem z_dp_of {I I1 I2 : z_I} {k : Nat} {x : Int32} (h10 : k < 10) (h : z_sk I1 I) (e2 : I2 = z_up I1 (100 + 8 * k) 4 x) (hx : x = I (100 + 8 * k) 4 + 1) : z_dp I2 I k := by
  refine ⟨fun q f hq => ?_, fun a k ha => by rw [e2, z_up_n (by omega)]; exact h.2 a k ha⟩
  rw [e2, hx]
  by_cases hk : q = k ∧ f = 4
  · rw [hk.1, hk.2, z_up_s, if_pos ⟨rfl, rfl⟩]
  · rw [if_neg hk]
    by_cases h1 : q = k
    · rw [h1, z_up_k (fun z => hk ⟨h1, z⟩)]
      exact h.1 k f (by omega)
    · rw [z_up_n (by omega)]
      exact h.1 q f hq
/-- the STATIONS' own fields are the same on both sides; where there is no STATION yet, the reference's are 0 -/
noncomputable def z_RS (Ix Im : z_I) : Prop := ∀ q : Nat, q < 10 → ((q : Int) < (Ix 0 8).toInt → Ix (100 + 8 * q) 4 = Im 47 q ∧ Ix (100 + 8 * q) 5 = Im 43 q ∧ Ix (100 + 8 * q) 6 = Im 44 q) ∧ ((Ix 0 8).toInt ≤ (q : Int) → Im 47 q = 0 ∧ Im 43 q = 0 ∧ Im 44 q = 0)
theorem z_RS_same {Ix Im Ix1 Im1 : z_I} (h : z_RS Ix Im) (e8 : (Ix1 0 8).toInt = (Ix 0 8).toInt) (hx : ∀ q k, q < 10 → Ix1 (100 + 8 * q) k = Ix (100 + 8 * q) k) (hm : ∀ j, Im1 47 j = Im 47 j ∧ Im1 43 j = Im 43 j ∧ Im1 44 j = Im 44 j) : z_RS Ix1 Im1 := fun q hq => by
  obtain ⟨b1, b2, b3⟩ := hm q
  rw [b1, b2, b3, e8, hx q 4 hq, hx q 5 hq, hx q 6 hq]
  exact h q hq
theorem z_RS_station {Ix Im Ix1 Im1 : z_I} {n : Nat} (h : z_RS Ix Im) (e8 : (Ix1 0 8).toInt = (Ix 0 8).toInt + 1) (hn : (Ix 0 8).toInt = (n : Int)) (hx : z_sn Ix1 Ix n) (hm : ∀ j, Im1 47 j = Im 47 j ∧ Im1 43 j = Im 43 j ∧ Im1 44 j = Im 44 j) : z_RS Ix1 Im1 := fun q hq => by
  obtain ⟨b1, b2, b3⟩ := hm q
  rw [b1, b2, b3, e8, hx.1 q 4 hq, hx.1 q 5 hq, hx.1 q 6 hq]
  obtain ⟨h1, h2⟩ := h q hq
  refine ⟨fun hl => ?_, fun hl => h2 (by omega)⟩
  by_cases e : q = n
  · obtain ⟨z1, z2, z3⟩ := h2 (by omega)
    subst e
    simp [z1, z2, z3]
  · simp only [e, ↓reduceIte]
    exact h1 (by omega)
theorem z_RS_deliver {Ix Im Ix1 Im1 : z_I} {n n1 : Nat} {t t1 : Int32} (h : z_RS Ix Im) (e8 : (Ix1 0 8).toInt = (Ix 0 8).toInt) (h10 : (Ix 0 8).toInt ≤ 10) (hn : (n : Int) < (Ix 0 8).toInt) (en : n1 = n) (et : t1 = t) (hx : z_dl Ix1 Ix n t) (hd : ∀ j, Im1 47 j = Im 47 j) (hg : ∀ j, Im1 43 j = if j = n1 then Im 43 n1 + 1 else Im 43 j) (hs : ∀ j, Im1 44 j = if j = n1 then Im 44 n1 + t1 else Im 44 j) : z_RS Ix1 Im1 := fun q hq => by
  subst en et
  obtain ⟨h1, h2⟩ := h q hq
  rw [hd, hg, hs, e8, hx.1 q 4 hq, hx.1 q 5 hq, hx.1 q 6 hq]
  by_cases e : q = n1
  · subst e
    obtain ⟨z1, z2, z3⟩ := h1 hn
    refine ⟨fun _ => ?_, fun hl => absurd hl (by omega)⟩
    simp [z1, z2, z3]
  · simp only [e, false_and, ↓reduceIte]
    exact ⟨h1, h2⟩
theorem z_RS_dip {Ix Im Ix1 Im1 : z_I} {n n1 : Nat} (h : z_RS Ix Im) (e8 : (Ix1 0 8).toInt = (Ix 0 8).toInt) (h10 : (Ix 0 8).toInt ≤ 10) (hn : (n : Int) < (Ix 0 8).toInt) (en : n1 = n) (hx : z_dp Ix1 Ix n) (hd : ∀ j, Im1 47 j = if j = n1 then Im 47 n1 + 1 else Im 47 j) (hg : ∀ j, Im1 43 j = Im 43 j) (hs : ∀ j, Im1 44 j = Im 44 j) : z_RS Ix1 Im1 := fun q hq => by
  subst en
  obtain ⟨h1, h2⟩ := h q hq
  rw [hd, hg, hs, e8, hx.1 q 4 hq, hx.1 q 5 hq, hx.1 q 6 hq]
  by_cases e : q = n1
  · subst e
    obtain ⟨z1, z2, z3⟩ := h1 hn
    refine ⟨fun _ => ?_, fun hl => absurd hl (by omega)⟩
    simp [z1, z2, z3]
  · simp only [e, false_and, ↓reduceIte]
    exact ⟨h1, h2⟩
theorem z_RS_dc {Ix Im : z_I} (h : z_RS Ix Im) {x t : Int32} (eN : (Ix 0 8).toInt = (Im 0 54).toInt) (h10 : (Ix 0 8).toInt ≤ 10) (hr : z_rg 43 0 30 Im) : (0 ≤ x.toInt ∧ x.toInt < (Ix 0 8).toInt ∧ 1 ≤ t.toInt ∧ t.toInt ≤ 100000 ∧ (Ix (100 + 8 * x.toNatClampNeg) 5).toInt < 30) ↔ (0 ≤ x.toInt ∧ x.toInt < (Im 0 54).toInt ∧ 1 ≤ t.toInt ∧ t.toInt ≤ 100000 ∧ ¬ (Im 43 x.toNatClampNeg).toInt = 30) := by
  by_cases q : 0 ≤ x.toInt ∧ x.toInt < (Ix 0 8).toInt
  · have e : (x.toNatClampNeg : Int) = x.toInt := by show ((x.toInt.toNat : Nat) : Int) = _; omega
    obtain ⟨z1, z2, z3⟩ := (h x.toNatClampNeg (by omega)).1 (by omega)
    have := hr x.toNatClampNeg
    rw [z2]
    omega
  · omega
theorem z_RS_pc {Ix Im : z_I} (h : z_RS Ix Im) {x t : Int32} (eN : (Ix 0 8).toInt = (Im 0 54).toInt) (h10 : (Ix 0 8).toInt ≤ 10) (hr : z_rg 47 0 30 Im) : (0 ≤ x.toInt ∧ x.toInt < (Ix 0 8).toInt ∧ 0 ≤ t.toInt ∧ t.toInt ≤ 200000 ∧ (Ix (100 + 8 * x.toNatClampNeg) 4).toInt < 30) ↔ (0 ≤ x.toInt ∧ x.toInt < (Im 0 54).toInt ∧ 0 ≤ t.toInt ∧ t.toInt ≤ 200000 ∧ ¬ (Im 47 x.toNatClampNeg).toInt = 30) := by
  by_cases q : 0 ≤ x.toInt ∧ x.toInt < (Ix 0 8).toInt
  · have e : (x.toNatClampNeg : Int) = x.toInt := by show ((x.toInt.toNat : Nat) : Int) = _; omega
    obtain ⟨z1, z2, z3⟩ := (h x.toNatClampNeg (by omega)).1 (by omega)
    have := hr x.toNatClampNeg
    rw [z1]
    omega
  · omega
noncomputable def L_X11_putBounds_s : z_L := [(1000, 999)]
set_option maxHeartbeats 8000000 in
set_option maxRecDepth 100000 in
theorem sx_X11_putBounds_s (l : Launch) (G : z_G) (ad : Nat → Nat) (c : z_C) (I : z_I) (hO : z_iO I) (hB : z_iB I) (k : Nat) (a2 : Int32) (a3 : Int32) (a4 : Int32) (hk : k < c.1) (h10 : c.1 ≤ 10) (hc : z_okc c) (hS0 : z_iS c I) : z_MvS l yX11_putBounds wsX11_putBounds { frames := 5, cells := 0, slots := 0, locals := 111 } [.ref (ad 0), .ref (ad (100 + 8 * k)), .int a2, .int a3, .int a4] G (shC c, ad, I, JX, PC c ad) (fun u1 => ∃ I1 : z_I, u1 = (shC c, ad, I1, JX, PC c ad) ∧ z_iO I1 ∧ z_iB I1 ∧ z_fr L_X11_putBounds_s I1 I ∧ z_iS c I1 ∧ z_sk I1 I) 0 0 := by
  intro sz
  refine z_headS (cc := cX11_putBounds) (maxL := 7) (ret := none) (by decide) rfl (Nat.le_of_ble_eq_true rfl) ?_
  intro p e s m below meth c0 ls hIn hK hsz hW hl hSt
  obtain ⟨hx, hb, hr, hml, hown, hts, hlocks, hname⟩ := hIn
  subst hsz
  have hown : s.vm.findClass RX11 = some m.cls := hown
  have hA : ∀ q : Nat, s.heap.size ≤ q → z_A (shC c, ad, I, JX, PC c ad) s.heap.size q := fun q h => Or.inr h
  generalize hAe : z_A (shC c, ad, I, JX, PC c ad) s.heap.size = A at *
  have hS : va_S A s.heap s.heap [] := va_S.rf
  have hl : lv_has ls 7 [(0, .ref (ad 0)), (1, .ref (ad (100 + 8 * k))), (2, .int a2), (3, .int a3), (4, .int a4)] := hl
  refine lv_iload_n hx hb dX11_putBounds_0 rfl (lv_at hl 3 rfl) ?_
  refine lv_iconst (v := 0) hx hb dX11_putBounds_1 (by decide) ?_
  refine va_mmax (x := a3) (y := 0) hx hb (hml.trans hl.1.symm) hown (hts (.methodLink RX11 274 Lib.Math.max.name) (me_s (me_l (me_l (me_l (me_l (me_l (me_l (List.mem_of_getElem? (i := 0) rfl))))))))) (hts (.static Lib.Math.max.name) (me_s (me_l (me_l (me_l (me_l (me_l (me_l (List.mem_of_getElem? (i := 1) rfl))))))))) (hts (.initialized "java/lang/Math") (me_s (me_l (me_l (me_l (me_l (me_l (me_l (List.mem_of_getElem? (i := 2) rfl))))))))) (hts (.code Lib.Math.max.name Lib.Math.max.code 2 (some .int)) (me_s (me_l (me_l (me_l (me_l (me_l (me_l (List.mem_of_getElem? (i := 3) rfl))))))))) (Nat.le_of_ble_eq_true rfl) (Nat.le_of_ble_eq_true rfl) (Nat.le_of_ble_eq_true rfl) (Nat.le_of_ble_eq_true rfl) dX11_putBounds_2 ?_
  refine lv_topi (fun x1 ex1 => ?_)
  have tx1 := z_tmmax ex1 rfl z_l0
  refine lv_istore (lv' := [(5, .int x1), (0, .ref (ad 0)), (1, .ref (ad (100 + 8 * k))), (2, .int a2), (3, .int a3), (4, .int a4)]) hx hb dX11_putBounds_5 hl (by decide) rfl (fun ls hl => ?_)
  have lp2 : ∀ (f : Nat) (y3 : Int32) (I4 : z_I) (H : Heap) (locs : List Loc) (ls : Array Slot), (2147483647 < y3.toInt + (f : Int)) → (0 ≤ y3.toInt) → (z_iO I4) → (z_iB I4) → (x1.toInt ≤ y3.toInt) → (z_iS c I4) → (z_sk I4 I) → (z_fr L_X11_putBounds_s I4 I) → z_W G A (shC c, ad, I4, JX, PC c ad) H → va_S A s.heap H locs → lv_has ls 7 [(5, .int y3), (0, .ref (ad 0)), (1, .ref (ad (100 + 8 * k))), (2, .int a2), (3, .int a3), (4, .int a4)] → W p l e (headSpec wsX11_putBounds { frames := 5, cells := 0, slots := 0, locals := 111 }).room s m ([.ref (ad 0), .ref (ad (100 + 8 * k)), .int a2, .int a3, .int a4] : List Value).toArray below meth c0 H locs 0 0 (MQ below (va_Qv (fun (u1 : z_U) => ∃ I1 : z_I, u1 = (shC c, ad, I1, JX, PC c ad) ∧ z_iO I1 ∧ z_iB I1 ∧ z_fr L_X11_putBounds_s I1 I ∧ z_iS c I1 ∧ z_sk I1 I) (z_B G A) A) ([.ref (ad 0), .ref (ad (100 + 8 * k)), .int a2, .int a3, .int a4] : List Value).toArray s 0 0 A) (F0 m 7 ls []) := by
    intro f
    induction f with
    | zero => intro y3 I4  H locs ls lp2m lp2l5 lp2O lp2B lp2z lp2S lp2SS lp2fr hW hS hl; exact absurd lp2m (by have := Int32.toInt_lt y3; have := Int32.le_toInt y3; omega)
    | succ f lp2ih =>
      intro y3 I4  H locs ls lp2m lp2l5 lp2O lp2B lp2z lp2S lp2SS lp2fr hW hS hl
      refine lv_iload hx hb dX11_putBounds_7 (lv_at hl 0 rfl) ?_
      refine lv_iload hx hb dX11_putBounds_9 (lv_at hl 5 rfl) ?_
      refine lv_icmp_gt (tgt := 115) hx hb dX11_putBounds_11 (by decide) (fun c5 => ?_) (fun c5 => ?_)
      · have g6 := z_f_gt rfl rfl c5
        have b7 := Int32.toInt_lt y3
        have b8 := Int32.toInt_lt a4
        exact z_vret hx hb hr hK hS (Nat.le_of_ble_eq_true rfl) (Nat.le_of_ble_eq_true rfl) hlocks dX11_putBounds_115 (shC c, ad, I4, JX, PC c ad) hW ⟨I4, rfl, (by show 0 ≤ (I4 21 2).toInt ∧ (I4 21 2).toInt ≤ 12; exact lp2O), ⟨(by show 0 ≤ (I4 0 0).toInt ∧ (I4 0 0).toInt ≤ 719; exact lp2B.1), (by show 0 ≤ (I4 0 8).toInt ∧ (I4 0 8).toInt ≤ 10; exact lp2B.2)⟩, lp2fr, lp2S, lp2SS⟩
      · have g9 := z_f_ngt rfl rfl c5
        have b10 := Int32.toInt_lt y3
        have b11 := Int32.toInt_lt a4
        refine lv_iload hx hb dX11_putBounds_14 (lv_at hl 0 rfl) ?_
        refine lv_bipush (v := 30) hx hb dX11_putBounds_16 (by decide) ?_
        refine lv_icmp_ge (tgt := 115) hx hb dX11_putBounds_18 (by decide) (fun c12 => ?_) (fun c12 => ?_)
        · have g13 := z_f_ge rfl z_l30 c12
          exact z_vret hx hb hr hK hS (Nat.le_of_ble_eq_true rfl) (Nat.le_of_ble_eq_true rfl) hlocks dX11_putBounds_115 (shC c, ad, I4, JX, PC c ad) hW ⟨I4, rfl, (by show 0 ≤ (I4 21 2).toInt ∧ (I4 21 2).toInt ≤ 12; exact lp2O), ⟨(by show 0 ≤ (I4 0 0).toInt ∧ (I4 0 0).toInt ≤ 719; exact lp2B.1), (by show 0 ≤ (I4 0 8).toInt ∧ (I4 0 8).toInt ≤ 10; exact lp2B.2)⟩, lp2fr, lp2S, lp2SS⟩
        · have g14 := z_f_nge rfl z_l30 c12
          refine lv_aload_n hx hb dX11_putBounds_21 rfl (lv_at hl 1 rfl) ?_
          refine z_get (T := TX11) (N := 13) (ci := 11) (i := 0) (v := .ref (ad 21)) hx hb hts zj_X11_putBounds_X11 hown hK hW rfl rfl 4 (by decide) (hts (.fieldLink RX11 30 "PetrolBoard" "orderBook" "LPetrolBoard$OrderBook;") (me_s (me_l (me_l (me_l (me_l (me_l (me_l (List.mem_of_getElem? (i := 4) rfl))))))))) (fun _ h => h) rfl dX11_putBounds_22 ?_
          refine lv_iconst (v := 4) hx hb dX11_putBounds_25 (by decide) ?_
          refine lv_aload_n hx hb dX11_putBounds_26 rfl (lv_at hl 2 rfl) ?_
          refine z_get (T := TX10) (N := 10) (ci := 10) (i := (100 + 8 * k)) (v := .ref (ad (100 + 8 * k + 2))) hx hb hts zj_X11_putBounds_X10 hown hK hW (z_ss0 hk h10) rfl 1 (by decide) (hts (.fieldLink RX11 246 "PetrolBoard$Station" "dipDay" "[I") (me_s (me_l (me_l (me_l (me_l (me_l (me_l (List.mem_of_getElem? (i := 5) rfl))))))))) (fun _ h => h) (z_pS hk h10 rfl rfl) dX11_putBounds_27 ?_
          refine lv_iload hx hb dX11_putBounds_30 (lv_at hl 0 rfl) ?_
          refine z_iald (i := (100 + 8 * k + 2)) hx hb hK hW (z_ssj hk h10 (by decide)) (z_ix rfl (by omega) (by omega)) dX11_putBounds_32 ?_
          refine lv_topi (fun x15 ex15 => ?_)
          refine lv_bipush (v := 30) hx hb dX11_putBounds_33 (by decide) ?_
          refine lv_idiv hx hb dX11_putBounds_35 (by decide) ?_
          refine lv_topi (fun x16 ex16 => ?_)
          have tx16 := z_tdiv ex16 rfl z_l30 (by decide)
          refine lv_aload_n hx hb dX11_putBounds_36 rfl (lv_at hl 1 rfl) ?_
          have r17 : 0 ≤ (I4 0 0).toInt ∧ (I4 0 0).toInt ≤ 719 := lp2B.1
          refine z_get (T := TX11) (N := 13) (ci := 11) (i := 0) (v := .int (I4 0 0)) hx hb hts zj_X11_putBounds_X11 hown hK hW rfl rfl 0 (by decide) (hts (.fieldLink RX11 85 "PetrolBoard" "today" "I") (me_s (me_l (me_l (me_l (me_l (me_l (me_l (List.mem_of_getElem? (i := 6) rfl))))))))) (fun _ h => h) rfl dX11_putBounds_37 ?_
          refine z_ci hW hS hA (va_runV (As := [.int 4, .int x16, .int (I4 0 0)]) (rest := []) ⟨hx, hb, hml, hown, hts⟩ (sx_X6_amount l G ad c I4 (by show 0 ≤ (I4 21 2).toInt ∧ (I4 21 2).toInt ≤ 12; exact lp2O) 4 x16 (I4 0 0) hc _) (cwV 3 hts gX11_putBounds_X6_amount rfl rfl rfl (by decide +kernel) ⟨Nat.le_of_ble_eq_true rfl, Nat.le_of_ble_eq_true rfl⟩) (z_preVS (i := 21) hK hW hS hA hSt rfl rfl) rfl rfl hl.1 rfl (lv_room (Nat.le_of_ble_eq_true rfl)) dX11_putBounds_40 ⟨Nat.le_of_ble_eq_true rfl, Nat.le_of_ble_eq_true rfl⟩) (fun r u1 H locs hp hW hS => ?_)
          rw [hp] at hW
          refine lv_topi (fun x18 ex18 => ?_)
          refine lv_istore (lv' := [(6, .int x18), (5, .int y3), (0, .ref (ad 0)), (1, .ref (ad (100 + 8 * k))), (2, .int a2), (3, .int a3), (4, .int a4)]) hx hb dX11_putBounds_43 hl (by decide) rfl (fun ls hl => ?_)
          refine lv_aload_n hx hb dX11_putBounds_45 rfl (lv_at hl 3 rfl) ?_
          refine z_get (T := TX10) (N := 10) (ci := 10) (i := (100 + 8 * k)) (v := .ref (ad (100 + 8 * k + 5))) hx hb hts zj_X11_putBounds_X10 hown hK hW (z_ss0 hk h10) rfl 7 (by decide) (hts (.fieldLink RX11 279 "PetrolBoard$Station" "low" "[I") (me_s (me_l (me_l (me_l (me_l (me_l (me_l (List.mem_of_getElem? (i := 7) rfl))))))))) (fun _ h => h) (z_pS hk h10 rfl rfl) dX11_putBounds_46 ?_
          refine lv_iload hx hb dX11_putBounds_49 (lv_at hl 1 rfl) ?_
          refine lv_iconst (v := 0) hx hb dX11_putBounds_51 (by decide) ?_
          refine lv_aload_n hx hb dX11_putBounds_52 rfl (lv_at hl 3 rfl) ?_
          refine z_get (T := TX10) (N := 10) (ci := 10) (i := (100 + 8 * k)) (v := .ref (ad (100 + 8 * k + 1))) hx hb hts zj_X11_putBounds_X10 hown hK hW (z_ss0 hk h10) rfl 0 (by decide) (hts (.fieldLink RX11 282 "PetrolBoard$Station" "told" "[I") (me_s (me_l (me_l (me_l (me_l (me_l (me_l (List.mem_of_getElem? (i := 8) rfl))))))))) (fun _ h => h) (z_pS hk h10 rfl rfl) dX11_putBounds_53 ?_
          refine lv_iload hx hb dX11_putBounds_56 (lv_at hl 1 rfl) ?_
          refine z_iald (i := (100 + 8 * k + 1)) hx hb hK hW (z_ssj hk h10 (by decide)) (z_ix rfl (by omega) (by omega)) dX11_putBounds_58 ?_
          refine lv_topi (fun x19 ex19 => ?_)
          refine lv_iload hx hb dX11_putBounds_59 (lv_at hl 0 rfl) ?_
          refine lv_isub hx hb dX11_putBounds_61 ?_
          refine lv_topi (fun x20 ex20 => ?_)
          refine va_mmax (x := 0) (y := x20) hx hb (hml.trans hl.1.symm) hown (hts (.methodLink RX11 274 Lib.Math.max.name) (me_s (me_l (me_l (me_l (me_l (me_l (me_l (List.mem_of_getElem? (i := 0) rfl))))))))) (hts (.static Lib.Math.max.name) (me_s (me_l (me_l (me_l (me_l (me_l (me_l (List.mem_of_getElem? (i := 1) rfl))))))))) (hts (.initialized "java/lang/Math") (me_s (me_l (me_l (me_l (me_l (me_l (me_l (List.mem_of_getElem? (i := 2) rfl))))))))) (hts (.code Lib.Math.max.name Lib.Math.max.code 2 (some .int)) (me_s (me_l (me_l (me_l (me_l (me_l (me_l (List.mem_of_getElem? (i := 3) rfl))))))))) (Nat.le_of_ble_eq_true rfl) (Nat.le_of_ble_eq_true rfl) (Nat.le_of_ble_eq_true rfl) (Nat.le_of_ble_eq_true rfl) dX11_putBounds_62 ?_
          refine lv_topi (fun x21 ex21 => ?_)
          have tx21 := z_tmmax ex21 z_l0 rfl
          refine z_iast (i := (100 + 8 * k + 5)) hx hb hK hW hS (z_ssj hk h10 (by decide)) (z_ix rfl (by omega) (by omega)) dX11_putBounds_65 (fun H locs hz1 hW hS => ?_)
          obtain ⟨I22, eI22⟩ : ∃ K : z_I, K = z_up I4 (100 + 8 * k + 5) y3.toNatClampNeg x21 := ⟨_, rfl⟩
          rw [← eI22] at hW
          have f23 := z_fr_a lp2fr (z_wad (L := L_X11_putBounds_s) (by decide) (by omega)) eI22
          have hS24 := z_iS_a lp2S (by decide) eI22
          have hZ25 := z_sk_a lp2SS (by decide) (by omega) eI22
          refine lv_aload_n hx hb dX11_putBounds_66 rfl (lv_at hl 3 rfl) ?_
          refine z_get (T := TX10) (N := 10) (ci := 10) (i := (100 + 8 * k)) (v := .ref (ad (100 + 8 * k + 6))) hx hb hts zj_X11_putBounds_X10 hown hK hW (z_ss0 hk h10) rfl 8 (by decide) (hts (.fieldLink RX11 285 "PetrolBoard$Station" "high" "[I") (me_s (me_l (me_l (me_l (me_l (me_l (me_l (List.mem_of_getElem? (i := 9) rfl))))))))) (fun _ h => h) (z_pS hk h10 rfl rfl) dX11_putBounds_67 ?_
          refine lv_iload hx hb dX11_putBounds_70 (lv_at hl 1 rfl) ?_
          refine lv_aload_n hx hb dX11_putBounds_72 rfl (lv_at hl 3 rfl) ?_
          refine z_get (T := TX10) (N := 10) (ci := 10) (i := (100 + 8 * k)) (v := .ref (ad (100 + 8 * k + 1))) hx hb hts zj_X11_putBounds_X10 hown hK hW (z_ss0 hk h10) rfl 0 (by decide) (hts (.fieldLink RX11 282 "PetrolBoard$Station" "told" "[I") (me_s (me_l (me_l (me_l (me_l (me_l (me_l (List.mem_of_getElem? (i := 8) rfl))))))))) (fun _ h => h) (z_pS hk h10 rfl rfl) dX11_putBounds_73 ?_
          refine lv_iload hx hb dX11_putBounds_76 (lv_at hl 1 rfl) ?_
          refine z_iald (i := (100 + 8 * k + 1)) hx hb hK hW (z_ssj hk h10 (by decide)) (z_ix rfl (by omega) (by omega)) dX11_putBounds_78 ?_
          refine z_topi (v := x19) (by rw [eI22, z_up_n (by omega)]; exact ex19.symm) ?_
          refine lv_iload hx hb dX11_putBounds_79 (lv_at hl 0 rfl) ?_
          refine lv_iadd hx hb dX11_putBounds_81 ?_
          refine lv_topi (fun x26 ex26 => ?_)
          refine z_iast (i := (100 + 8 * k + 6)) hx hb hK hW hS (z_ssj hk h10 (by decide)) (z_ix rfl (by omega) (by omega)) dX11_putBounds_82 (fun H locs hz1 hW hS => ?_)
          obtain ⟨I27, eI27⟩ : ∃ K : z_I, K = z_up I22 (100 + 8 * k + 6) y3.toNatClampNeg x26 := ⟨_, rfl⟩
          rw [← eI27] at hW
          have f28 := z_fr_a f23 (z_wad (L := L_X11_putBounds_s) (by decide) (by omega)) eI27
          have hS29 := z_iS_a hS24 (by decide) eI27
          have hZ30 := z_sk_a hZ25 (by decide) (by omega) eI27
          refine lv_aload_n hx hb dX11_putBounds_83 rfl (lv_at hl 3 rfl) ?_
          refine z_get (T := TX10) (N := 10) (ci := 10) (i := (100 + 8 * k)) (v := .ref (ad (100 + 8 * k + 7))) hx hb hts zj_X11_putBounds_X10 hown hK hW (z_ss0 hk h10) rfl 9 (by decide) (hts (.fieldLink RX11 288 "PetrolBoard$Station" "in" "[I") (me_s (me_l (me_l (me_l (me_l (me_l (me_l (List.mem_of_getElem? (i := 10) rfl))))))))) (fun _ h => h) (z_pS hk h10 rfl rfl) dX11_putBounds_84 ?_
          refine lv_iload hx hb dX11_putBounds_87 (lv_at hl 1 rfl) ?_
          refine lv_iload hx hb dX11_putBounds_89 (lv_at hl 1 rfl) ?_
          refine lv_iload hx hb dX11_putBounds_91 (lv_at hl 6 rfl) ?_
          refine lv_icmp_ge (tgt := 107) hx hb dX11_putBounds_93 (by decide) (fun c31 => ?_) (fun c31 => ?_)
          · have g32 := z_f_ge rfl rfl c31
            refine lv_iconst (v := 0) hx hb dX11_putBounds_107 (by decide) ?_
            refine z_iast (i := (100 + 8 * k + 7)) hx hb hK hW hS (z_ssj hk h10 (by decide)) (z_ix rfl (by omega) (by omega)) dX11_putBounds_108 (fun H locs hz1 hW hS => ?_)
            obtain ⟨I33, eI33⟩ : ∃ K : z_I, K = z_up I27 (100 + 8 * k + 7) y3.toNatClampNeg 0 := ⟨_, rfl⟩
            rw [← eI33] at hW
            have f34 := z_fr_a f28 (z_wad (L := L_X11_putBounds_s) (by decide) (by omega)) eI33
            have hS35 := z_iS_a hS29 (by decide) eI33
            have hZ36 := z_sk_a hZ30 (by decide) (by omega) eI33
            obtain ⟨x37, ex37⟩ : ∃ y : Int32, y = y3 + 1 := ⟨_, rfl⟩
            have tx37 : x37.toInt = y3.toInt + 1 := z_tadd ex37 rfl z_l1 (by omega) (by omega)
            refine lv_iinc (v := x37) (lv' := [(5, .int x37), (6, .int x18), (0, .ref (ad 0)), (1, .ref (ad (100 + 8 * k))), (2, .int a2), (3, .int a3), (4, .int a4)]) hx hb dX11_putBounds_109 hl (k := 1) rfl (by rw [ex37]; rfl) (by decide) rfl (fun ls hl => ?_)
            refine lv_goto (tgt := 7) hx hb dX11_putBounds_112 (by decide) ?_
            exact lp2ih x37 I33  _ _ _ (by omega) (by omega) (by show 0 ≤ (I33 21 2).toInt ∧ (I33 21 2).toInt ≤ 12; rw [eI33, z_up_n (by omega), eI27, z_up_n (by omega), eI22, z_up_n (by omega)]; exact lp2O) ⟨(by show 0 ≤ (I33 0 0).toInt ∧ (I33 0 0).toInt ≤ 719; rw [eI33, z_up_n (by omega), eI27, z_up_n (by omega), eI22, z_up_n (by omega)]; exact lp2B.1), (by show 0 ≤ (I33 0 8).toInt ∧ (I33 0 8).toInt ≤ 10; rw [eI33, z_up_n (by omega), eI27, z_up_n (by omega), eI22, z_up_n (by omega)]; exact lp2B.2)⟩ (by omega) hS35 hZ36 f34 hW hS (lv_sub hl [0, 2, 3, 4, 5, 6] rfl)
          · have g38 := z_f_nge rfl rfl c31
            refine lv_aload_n hx hb dX11_putBounds_96 rfl (lv_at hl 2 rfl) ?_
            refine lv_aload_n hx hb dX11_putBounds_97 rfl (lv_at hl 3 rfl) ?_
            refine lv_iload_n hx hb dX11_putBounds_98 rfl (lv_at hl 4 rfl) ?_
            refine lv_iload hx hb dX11_putBounds_99 (lv_at hl 1 rfl) ?_
            refine z_ci hW hS hA (va_runV (As := [.ref (ad (100 + 8 * k)), .int a2, .int y3]) (rest := [.int y3, .ref (ad (100 + 8 * k + 7))]) ⟨hx, hb, hml, hown, hts⟩ (sx_X11_inBehind l G ad c I27 (by show 0 ≤ (I27 21 2).toInt ∧ (I27 21 2).toInt ≤ 12; rw [eI27, z_up_n (by omega), eI22, z_up_n (by omega)]; exact lp2O) ⟨(by show 0 ≤ (I27 0 0).toInt ∧ (I27 0 0).toInt ≤ 719; rw [eI27, z_up_n (by omega), eI22, z_up_n (by omega)]; exact lp2B.1), (by show 0 ≤ (I27 0 8).toInt ∧ (I27 0 8).toInt ≤ 10; rw [eI27, z_up_n (by omega), eI22, z_up_n (by omega)]; exact lp2B.2)⟩ k a2 y3 hk h10 hc (by omega) hS29 _) (cwV 3 hts gX11_putBounds_X11_inBehind rfl rfl rfl (by decide +kernel) ⟨Nat.le_of_ble_eq_true rfl, Nat.le_of_ble_eq_true rfl⟩) (z_preVS (i := 0) hK hW hS hA hSt rfl rfl) rfl rfl hl.1 rfl (lv_room (Nat.le_of_ble_eq_true rfl)) dX11_putBounds_101 ⟨Nat.le_of_ble_eq_true rfl, Nat.le_of_ble_eq_true rfl⟩) (fun r u1 H locs hp hW hS => ?_)
            rw [hp] at hW
            refine lv_topi (fun x39 ex39 => ?_)
            refine lv_goto (tgt := 108) hx hb dX11_putBounds_104 (by decide) ?_
            refine z_iast (i := (100 + 8 * k + 7)) hx hb hK hW hS (z_ssj hk h10 (by decide)) (z_ix rfl (by omega) (by omega)) dX11_putBounds_108 (fun H locs hz1 hW hS => ?_)
            obtain ⟨I40, eI40⟩ : ∃ K : z_I, K = z_up I27 (100 + 8 * k + 7) y3.toNatClampNeg x39 := ⟨_, rfl⟩
            rw [← eI40] at hW
            have f41 := z_fr_a f28 (z_wad (L := L_X11_putBounds_s) (by decide) (by omega)) eI40
            have hS42 := z_iS_a hS29 (by decide) eI40
            have hZ43 := z_sk_a hZ30 (by decide) (by omega) eI40
            obtain ⟨x44, ex44⟩ : ∃ y : Int32, y = y3 + 1 := ⟨_, rfl⟩
            have tx44 : x44.toInt = y3.toInt + 1 := z_tadd ex44 rfl z_l1 (by omega) (by omega)
            refine lv_iinc (v := x44) (lv' := [(5, .int x44), (6, .int x18), (0, .ref (ad 0)), (1, .ref (ad (100 + 8 * k))), (2, .int a2), (3, .int a3), (4, .int a4)]) hx hb dX11_putBounds_109 hl (k := 1) rfl (by rw [ex44]; rfl) (by decide) rfl (fun ls hl => ?_)
            refine lv_goto (tgt := 7) hx hb dX11_putBounds_112 (by decide) ?_
            exact lp2ih x44 I40  _ _ _ (by omega) (by omega) (by show 0 ≤ (I40 21 2).toInt ∧ (I40 21 2).toInt ≤ 12; rw [eI40, z_up_n (by omega), eI27, z_up_n (by omega), eI22, z_up_n (by omega)]; exact lp2O) ⟨(by show 0 ≤ (I40 0 0).toInt ∧ (I40 0 0).toInt ≤ 719; rw [eI40, z_up_n (by omega), eI27, z_up_n (by omega), eI22, z_up_n (by omega)]; exact lp2B.1), (by show 0 ≤ (I40 0 8).toInt ∧ (I40 0 8).toInt ≤ 10; rw [eI40, z_up_n (by omega), eI27, z_up_n (by omega), eI22, z_up_n (by omega)]; exact lp2B.2)⟩ (by omega) hS42 hZ43 f41 hW hS (lv_sub hl [0, 2, 3, 4, 5, 6] rfl)
  exact lp2 4294967296 x1 I  _ _ _ (z_m0u _) (by omega) (by show 0 ≤ (I 21 2).toInt ∧ (I 21 2).toInt ≤ 12; exact hO) ⟨(by show 0 ≤ (I 0 0).toInt ∧ (I 0 0).toInt ≤ 719; exact hB.1), (by show 0 ≤ (I 0 8).toInt ∧ (I 0 8).toInt ≤ 10; exact hB.2)⟩ (by omega) hS0 z_sk_0 z_fr_0 hW hS (lv_sub hl [0, 1, 2, 3, 4, 5] rfl)
noncomputable def L_X11_sums_s : z_L := [(1000, 999)]
set_option maxHeartbeats 8000000 in
set_option maxRecDepth 100000 in
theorem sx_X11_sums_s (l : Launch) (G : z_G) (ad : Nat → Nat) (c : z_C) (I : z_I) (hO : z_iO I) (hB : z_iB I) (a1 : Int32) (a2 : Int32) (a3 : Int32) (a4 : Int32) (hc : z_okc c) (h10 : c.1 ≤ 10) (hS0 : z_iS c I) : z_MlS l yX11_sums wsX11_sums { frames := 6, cells := 0, slots := 0, locals := 137 } [.ref (ad 0), .int a1, .int a2, .int a3, .int a4] G (shC c, ad, I, JX, PC c ad) (fun r u1 => ∃ I1 : z_I, u1 = (shC c, ad, I1, JX, PC c ad) ∧ z_iO I1 ∧ z_iB I1 ∧ z_fr L_X11_sums_s I1 I ∧ z_iS c I1 ∧ z_sk I1 I) 0 0 := by
  intro sz
  refine z_headS (cc := cX11_sums) (maxL := 6) (ret := (some .long)) (by decide) rfl (Nat.le_of_ble_eq_true rfl) ?_
  intro p e s m below meth c0 ls hIn hK hsz hW hl hSt
  obtain ⟨hx, hb, hr, hml, hown, hts, hlocks, hname⟩ := hIn
  subst hsz
  have hown : s.vm.findClass RX11 = some m.cls := hown
  have hA : ∀ q : Nat, s.heap.size ≤ q → z_A (shC c, ad, I, JX, PC c ad) s.heap.size q := fun q h => Or.inr h
  generalize hAe : z_A (shC c, ad, I, JX, PC c ad) s.heap.size = A at *
  have hS : va_S A s.heap s.heap [] := va_S.rf
  have hl : lv_has ls 6 [(0, .ref (ad 0)), (1, .int a1), (2, .int a2), (3, .int a3), (4, .int a4)] := hl
  refine lv_aload_n hx hb dX11_sums_0 rfl (lv_at hl 0 rfl) ?_
  refine lv_iload_n hx hb dX11_sums_1 rfl (lv_at hl 1 rfl) ?_
  refine z_cq hW hS hA (va_runV (As := [.int a1]) (rest := []) ⟨hx, hb, hml, hown, hts⟩ (sx_X11_stationAt l G ad c I ⟨(by show 0 ≤ (I 0 0).toInt ∧ (I 0 0).toInt ≤ 719; exact hB.1), (by show 0 ≤ (I 0 8).toInt ∧ (I 0 8).toInt ≤ 10; exact hB.2)⟩ a1 hc h10 _) (cwV 1 hts gX11_sums_X11_stationAt rfl rfl rfl (by decide +kernel) ⟨Nat.le_of_ble_eq_true rfl, Nat.le_of_ble_eq_true rfl⟩) (z_preV (i := 0) hK hW rfl rfl) rfl rfl hl.1 rfl (lv_room (Nat.le_of_ble_eq_true rfl)) dX11_sums_2 ⟨Nat.le_of_ble_eq_true rfl, Nat.le_of_ble_eq_true rfl⟩) (fun r u1 H locs hp hW hS => ?_)
  obtain ⟨e9, hp⟩ := hp
  rw [e9] at hW
  rcases hp with rfl | ⟨k1, hk1, rfl⟩
  · refine W.eq (g2 := F0 m 5 ls (.null :: [])) rfl ?_
    refine lv_astoreN (lv' := [(5, .null), (0, .ref (ad 0)), (1, .int a1), (2, .int a2), (3, .int a3), (4, .int a4)]) hx hb dX11_sums_5 hl (by decide) rfl (fun ls hl => ?_)
    refine lv_aloadN hx hb dX11_sums_7 (lv_at hl 0 rfl) ?_
    refine lv_ifnullN (tgt := 32) hx hb dX11_sums_9 (by decide) ?_
    refine lv_ldc2 (v := (-1)) hx hb hown (hts (.constantLong RX11 261 (-1)) (me_s (me_l (me_l (me_l (me_l (me_l (me_l (List.mem_of_getElem? (i := 0) rfl))))))))) dX11_sums_32 ?_
    exact z_lret hx hb hr hK hS (Nat.le_of_ble_eq_true rfl) (Nat.le_of_ble_eq_true rfl) hlocks dX11_sums_35 (shC c, ad, I, JX, PC c ad) hW ⟨I, rfl, (by show 0 ≤ (I 21 2).toInt ∧ (I 21 2).toInt ≤ 12; exact hO), ⟨(by show 0 ≤ (I 0 0).toInt ∧ (I 0 0).toInt ≤ 719; exact hB.1), (by show 0 ≤ (I 0 8).toInt ∧ (I 0 8).toInt ≤ 10; exact hB.2)⟩, z_fr_0, hS0, z_sk_0⟩
  · refine W.eq (g2 := F0 m 5 ls (.ref (ad (100 + 8 * k1)) :: [])) rfl ?_
    refine lv_astore (lv' := [(5, .ref (ad (100 + 8 * k1))), (0, .ref (ad 0)), (1, .int a1), (2, .int a2), (3, .int a3), (4, .int a4)]) hx hb dX11_sums_5 hl (by decide) rfl (fun ls hl => ?_)
    refine lv_aload hx hb dX11_sums_7 (lv_at hl 0 rfl) ?_
    refine lv_ifnull hx hb dX11_sums_9 ?_
    refine lv_aload hx hb dX11_sums_12 (lv_at hl 0 rfl) ?_
    refine lv_iload_n hx hb dX11_sums_14 rfl (lv_at hl 3 rfl) ?_
    refine lv_iload_n hx hb dX11_sums_15 rfl (lv_at hl 4 rfl) ?_
    refine z_ci hW hS hA (va_runV (As := [.int a2, .int a3]) (rest := []) ⟨hx, hb, hml, hown, hts⟩ (sx_X10_hasSpan l G ad c I  k1 a2 a3 hk1 h10 hS0 _) (cwV 2 hts gX11_sums_X10_hasSpan rfl rfl rfl (by decide +kernel) ⟨Nat.le_of_ble_eq_true rfl, Nat.le_of_ble_eq_true rfl⟩) (z_preV (i := (100 + 8 * k1)) hK hW (z_ss0 hk1 h10) rfl) rfl rfl hl.1 rfl (lv_room (Nat.le_of_ble_eq_true rfl)) dX11_sums_16 ⟨Nat.le_of_ble_eq_true rfl, Nat.le_of_ble_eq_true rfl⟩) (fun r u1 H locs hp hW hS => ?_)
    obtain ⟨e9, hp⟩ := hp
    rw [e9] at hW
    rcases hp with ⟨rfl, h2, h3, h4⟩ | rfl
    · refine lv_if_eq (tgt := 32) hx hb dX11_sums_19 (by decide) (fun c5 => absurd c5 (by decide)) (fun c5 => ?_)
      refine lv_iload hx hb dX11_sums_22 (lv_at hl 5 rfl) ?_
      refine lv_iconst (v := 0) hx hb dX11_sums_24 (by decide) ?_
      refine lv_iconst (v := 1) hx hb dX11_sums_25 (by decide) ?_
      refine z_ci hW hS hA (va_runS (As := [.int a4, .int 0, .int 1]) (rest := []) ⟨hx, hb, hml, hown, hts⟩ (sx_X11_within_e l G ad c I  a4 0 1 _) (va_cwS 3 hts gX11_sums_X11_within rfl rfl rfl (by decide +kernel) ⟨Nat.le_of_ble_eq_true rfl, Nat.le_of_ble_eq_true rfl⟩) (z_preS hK hW) rfl rfl hl.1 rfl (lv_room (Nat.le_of_ble_eq_true rfl)) dX11_sums_26 ⟨Nat.le_of_ble_eq_true rfl, Nat.le_of_ble_eq_true rfl⟩) (fun r u1 H locs hp hW hS => ?_)
      obtain ⟨e9, hp⟩ := hp
      rw [e9] at hW
      rcases hp with ⟨rfl, h6⟩ | ⟨rfl, h6⟩
      · have h7 := h6
        have z8 := z_l0
        have z9 := z_l1
        refine lv_if_ne (tgt := 36) hx hb dX11_sums_29 (by decide) (fun c10 => ?_) (fun c10 => absurd c10 (by decide))
        refine lv_aload_n hx hb dX11_sums_36 rfl (lv_at hl 1 rfl) ?_
        refine lv_aload hx hb dX11_sums_37 (lv_at hl 0 rfl) ?_
        refine lv_iload_n hx hb dX11_sums_39 rfl (lv_at hl 2 rfl) ?_
        refine lv_iload_n hx hb dX11_sums_40 rfl (lv_at hl 3 rfl) ?_
        refine lv_iload_n hx hb dX11_sums_41 rfl (lv_at hl 4 rfl) ?_
        refine z_cv hW hS hA (va_runV (As := [.ref (ad (100 + 8 * k1)), .int a1, .int a2, .int a3]) (rest := []) ⟨hx, hb, hml, hown, hts⟩ (sx_X11_putBounds_s l G ad c I (by show 0 ≤ (I 21 2).toInt ∧ (I 21 2).toInt ≤ 12; exact hO) ⟨(by show 0 ≤ (I 0 0).toInt ∧ (I 0 0).toInt ≤ 719; exact hB.1), (by show 0 ≤ (I 0 8).toInt ∧ (I 0 8).toInt ≤ 10; exact hB.2)⟩ k1 a1 a2 a3 hk1 h10 hc hS0 _) (cwV 4 hts gX11_sums_X11_putBounds rfl rfl rfl (by decide +kernel) ⟨Nat.le_of_ble_eq_true rfl, Nat.le_of_ble_eq_true rfl⟩) (z_preVS (i := 0) hK hW hS hA hSt rfl rfl) rfl rfl hl.1 rfl (lv_room (Nat.le_of_ble_eq_true rfl)) dX11_sums_42 ⟨Nat.le_of_ble_eq_true rfl, Nat.le_of_ble_eq_true rfl⟩) (fun u1 H locs hp hW hS => ?_)
        obtain ⟨I11, e9, hI11O, hI11B, fI11, SI11, SSI11⟩ := hp
        rw [e9] at hW
        have f12 := z_fr_sub (L := L_X11_sums_s) z_fr_0 fI11 (by decide)
        refine lv_iload hx hb dX11_sums_45 (lv_at hl 5 rfl) ?_
        refine lv_if_ne (tgt := 60) hx hb dX11_sums_47 (by decide) (fun c13 => ?_) (fun c13 => ?_)
        · have g14 := z_f_ne rfl z_l0 c13
          refine lv_aload hx hb dX11_sums_60 (lv_at hl 0 rfl) ?_
          refine lv_iload_n hx hb dX11_sums_62 rfl (lv_at hl 3 rfl) ?_
          refine lv_iload_n hx hb dX11_sums_63 rfl (lv_at hl 4 rfl) ?_
          refine z_cl hW hS hA (va_runV (As := [.int a2, .int a3]) (rest := []) ⟨hx, hb, hml, hown, hts⟩ (sx_X10_mostBlack l G ad c I11  k1 a2 a3 hk1 h10 SI11 _) (cwV 2 hts gX11_sums_X10_mostBlack rfl rfl rfl (by decide +kernel) ⟨Nat.le_of_ble_eq_true rfl, Nat.le_of_ble_eq_true rfl⟩) (z_preV (i := (100 + 8 * k1)) hK hW (z_ss0 hk1 h10) rfl) rfl rfl hl.1 rfl (lv_room (Nat.le_of_ble_eq_true rfl)) dX11_sums_64 ⟨Nat.le_of_ble_eq_true rfl, Nat.le_of_ble_eq_true rfl⟩) (fun r u1 H locs hp hW hS => ?_)
          rw [hp] at hW
          refine lv_topl (fun x15 ex15 => ?_)
          exact z_lret hx hb hr hK hS (Nat.le_of_ble_eq_true rfl) (Nat.le_of_ble_eq_true rfl) hlocks dX11_sums_67 (shC c, ad, I11, JX, PC c ad) hW ⟨I11, rfl, (by show 0 ≤ (I11 21 2).toInt ∧ (I11 21 2).toInt ≤ 12; exact hI11O), ⟨(by show 0 ≤ (I11 0 0).toInt ∧ (I11 0 0).toInt ≤ 719; exact hI11B.1), (by show 0 ≤ (I11 0 8).toInt ∧ (I11 0 8).toInt ≤ 10; exact hI11B.2)⟩, f12, SI11, (z_sk_t SSI11 z_sk_0)⟩
        · have g16 := z_f_eq rfl z_l0 c13
          refine lv_aload hx hb dX11_sums_50 (lv_at hl 0 rfl) ?_
          refine lv_iload_n hx hb dX11_sums_52 rfl (lv_at hl 3 rfl) ?_
          refine lv_iload_n hx hb dX11_sums_53 rfl (lv_at hl 4 rfl) ?_
          refine z_cl hW hS hA (va_runV (As := [.int a2, .int a3]) (rest := []) ⟨hx, hb, hml, hown, hts⟩ (sx_X10_leastBlack l G ad c I11  k1 a2 a3 hk1 h10 SI11 _) (cwV 2 hts gX11_sums_X10_leastBlack rfl rfl rfl (by decide +kernel) ⟨Nat.le_of_ble_eq_true rfl, Nat.le_of_ble_eq_true rfl⟩) (z_preV (i := (100 + 8 * k1)) hK hW (z_ss0 hk1 h10) rfl) rfl rfl hl.1 rfl (lv_room (Nat.le_of_ble_eq_true rfl)) dX11_sums_54 ⟨Nat.le_of_ble_eq_true rfl, Nat.le_of_ble_eq_true rfl⟩) (fun r u1 H locs hp hW hS => ?_)
          rw [hp] at hW
          refine lv_topl (fun x17 ex17 => ?_)
          refine lv_goto (tgt := 67) hx hb dX11_sums_57 (by decide) ?_
          exact z_lret hx hb hr hK hS (Nat.le_of_ble_eq_true rfl) (Nat.le_of_ble_eq_true rfl) hlocks dX11_sums_67 (shC c, ad, I11, JX, PC c ad) hW ⟨I11, rfl, (by show 0 ≤ (I11 21 2).toInt ∧ (I11 21 2).toInt ≤ 12; exact hI11O), ⟨(by show 0 ≤ (I11 0 0).toInt ∧ (I11 0 0).toInt ≤ 719; exact hI11B.1), (by show 0 ≤ (I11 0 8).toInt ∧ (I11 0 8).toInt ≤ 10; exact hI11B.2)⟩, f12, SI11, (z_sk_t SSI11 z_sk_0)⟩
      · have h18 := h6
        have z19 := z_l0
        have z20 := z_l1
        refine lv_if_ne (tgt := 36) hx hb dX11_sums_29 (by decide) (fun c21 => absurd (by decide) c21) (fun c21 => ?_)
        refine lv_ldc2 (v := (-1)) hx hb hown (hts (.constantLong RX11 261 (-1)) (me_s (me_l (me_l (me_l (me_l (me_l (me_l (List.mem_of_getElem? (i := 0) rfl))))))))) dX11_sums_32 ?_
        exact z_lret hx hb hr hK hS (Nat.le_of_ble_eq_true rfl) (Nat.le_of_ble_eq_true rfl) hlocks dX11_sums_35 (shC c, ad, I, JX, PC c ad) hW ⟨I, rfl, (by show 0 ≤ (I 21 2).toInt ∧ (I 21 2).toInt ≤ 12; exact hO), ⟨(by show 0 ≤ (I 0 0).toInt ∧ (I 0 0).toInt ≤ 719; exact hB.1), (by show 0 ≤ (I 0 8).toInt ∧ (I 0 8).toInt ≤ 10; exact hB.2)⟩, z_fr_0, hS0, z_sk_0⟩
    · refine lv_if_eq (tgt := 32) hx hb dX11_sums_19 (by decide) (fun c22 => ?_) (fun c22 => absurd (by decide) c22)
      refine lv_ldc2 (v := (-1)) hx hb hown (hts (.constantLong RX11 261 (-1)) (me_s (me_l (me_l (me_l (me_l (me_l (me_l (List.mem_of_getElem? (i := 0) rfl))))))))) dX11_sums_32 ?_
      exact z_lret hx hb hr hK hS (Nat.le_of_ble_eq_true rfl) (Nat.le_of_ble_eq_true rfl) hlocks dX11_sums_35 (shC c, ad, I, JX, PC c ad) hW ⟨I, rfl, (by show 0 ≤ (I 21 2).toInt ∧ (I 21 2).toInt ≤ 12; exact hO), ⟨(by show 0 ≤ (I 0 0).toInt ∧ (I 0 0).toInt ≤ 719; exact hB.1), (by show 0 ≤ (I 0 8).toInt ∧ (I 0 8).toInt ≤ 10; exact hB.2)⟩, z_fr_0, hS0, z_sk_0⟩
noncomputable def L_X11_judged_s : z_L := [(1000, 999)]
set_option maxHeartbeats 8000000 in
set_option maxRecDepth 100000 in
theorem sx_X11_judged_s (l : Launch) (G : z_G) (ad : Nat → Nat) (c : z_C) (I : z_I) (hO : z_iO I) (hB : z_iB I) (a1 : Int32) (a2 : Int32) (a3 : Int32) (hc : z_okc c) (h10 : c.1 ≤ 10) (hS0 : z_iS c I) : z_MlS l yX11_judged wsX11_judged { frames := 6, cells := 0, slots := 0, locals := 137 } [.ref (ad 0), .int a1, .int a2, .int a3] G (shC c, ad, I, JX, PC c ad) (fun r u1 => ∃ I1 : z_I, u1 = (shC c, ad, I1, JX, PC c ad) ∧ z_iO I1 ∧ z_iB I1 ∧ z_fr L_X11_judged_s I1 I ∧ z_iS c I1 ∧ z_sk I1 I) 0 0 := by
  intro sz
  refine z_headS (cc := cX11_judged) (maxL := 5) (ret := (some .long)) (by decide) rfl (Nat.le_of_ble_eq_true rfl) ?_
  intro p e s m below meth c0 ls hIn hK hsz hW hl hSt
  obtain ⟨hx, hb, hr, hml, hown, hts, hlocks, hname⟩ := hIn
  subst hsz
  have hown : s.vm.findClass RX11 = some m.cls := hown
  have hA : ∀ q : Nat, s.heap.size ≤ q → z_A (shC c, ad, I, JX, PC c ad) s.heap.size q := fun q h => Or.inr h
  generalize hAe : z_A (shC c, ad, I, JX, PC c ad) s.heap.size = A at *
  have hS : va_S A s.heap s.heap [] := va_S.rf
  have hl : lv_has ls 5 [(0, .ref (ad 0)), (1, .int a1), (2, .int a2), (3, .int a3)] := hl
  refine lv_aload_n hx hb dX11_judged_0 rfl (lv_at hl 0 rfl) ?_
  refine lv_iload_n hx hb dX11_judged_1 rfl (lv_at hl 1 rfl) ?_
  refine z_cq hW hS hA (va_runV (As := [.int a1]) (rest := []) ⟨hx, hb, hml, hown, hts⟩ (sx_X11_stationAt l G ad c I ⟨(by show 0 ≤ (I 0 0).toInt ∧ (I 0 0).toInt ≤ 719; exact hB.1), (by show 0 ≤ (I 0 8).toInt ∧ (I 0 8).toInt ≤ 10; exact hB.2)⟩ a1 hc h10 _) (cwV 1 hts gX11_judged_X11_stationAt rfl rfl rfl (by decide +kernel) ⟨Nat.le_of_ble_eq_true rfl, Nat.le_of_ble_eq_true rfl⟩) (z_preV (i := 0) hK hW rfl rfl) rfl rfl hl.1 rfl (lv_room (Nat.le_of_ble_eq_true rfl)) dX11_judged_2 ⟨Nat.le_of_ble_eq_true rfl, Nat.le_of_ble_eq_true rfl⟩) (fun r u1 H locs hp hW hS => ?_)
  obtain ⟨e9, hp⟩ := hp
  rw [e9] at hW
  rcases hp with rfl | ⟨k1, hk1, rfl⟩
  · refine W.eq (g2 := F0 m 5 ls (.null :: [])) rfl ?_
    refine lv_astoreN (lv' := [(4, .null), (0, .ref (ad 0)), (1, .int a1), (2, .int a2), (3, .int a3)]) hx hb dX11_judged_5 hl (by decide) rfl (fun ls hl => ?_)
    refine lv_aloadN hx hb dX11_judged_7 (lv_at hl 0 rfl) ?_
    refine lv_ifnullN (tgt := 22) hx hb dX11_judged_9 (by decide) ?_
    refine lv_ldc2 (v := (-1)) hx hb hown (hts (.constantLong RX11 261 (-1)) (me_s (me_l (me_l (me_l (me_l (me_l (me_l (List.mem_of_getElem? (i := 0) rfl))))))))) dX11_judged_22 ?_
    exact z_lret hx hb hr hK hS (Nat.le_of_ble_eq_true rfl) (Nat.le_of_ble_eq_true rfl) hlocks dX11_judged_25 (shC c, ad, I, JX, PC c ad) hW ⟨I, rfl, (by show 0 ≤ (I 21 2).toInt ∧ (I 21 2).toInt ≤ 12; exact hO), ⟨(by show 0 ≤ (I 0 0).toInt ∧ (I 0 0).toInt ≤ 719; exact hB.1), (by show 0 ≤ (I 0 8).toInt ∧ (I 0 8).toInt ≤ 10; exact hB.2)⟩, z_fr_0, hS0, z_sk_0⟩
  · refine W.eq (g2 := F0 m 5 ls (.ref (ad (100 + 8 * k1)) :: [])) rfl ?_
    refine lv_astore (lv' := [(4, .ref (ad (100 + 8 * k1))), (0, .ref (ad 0)), (1, .int a1), (2, .int a2), (3, .int a3)]) hx hb dX11_judged_5 hl (by decide) rfl (fun ls hl => ?_)
    refine lv_aload hx hb dX11_judged_7 (lv_at hl 0 rfl) ?_
    refine lv_ifnull hx hb dX11_judged_9 ?_
    refine lv_aload hx hb dX11_judged_12 (lv_at hl 0 rfl) ?_
    refine lv_iload_n hx hb dX11_judged_14 rfl (lv_at hl 3 rfl) ?_
    refine lv_iload_n hx hb dX11_judged_15 rfl (lv_at hl 4 rfl) ?_
    refine z_ci hW hS hA (va_runV (As := [.int a2, .int a3]) (rest := []) ⟨hx, hb, hml, hown, hts⟩ (sx_X10_hasSpan l G ad c I  k1 a2 a3 hk1 h10 hS0 _) (cwV 2 hts gX11_judged_X10_hasSpan rfl rfl rfl (by decide +kernel) ⟨Nat.le_of_ble_eq_true rfl, Nat.le_of_ble_eq_true rfl⟩) (z_preV (i := (100 + 8 * k1)) hK hW (z_ss0 hk1 h10) rfl) rfl rfl hl.1 rfl (lv_room (Nat.le_of_ble_eq_true rfl)) dX11_judged_16 ⟨Nat.le_of_ble_eq_true rfl, Nat.le_of_ble_eq_true rfl⟩) (fun r u1 H locs hp hW hS => ?_)
    obtain ⟨e9, hp⟩ := hp
    rw [e9] at hW
    rcases hp with ⟨rfl, h2, h3, h4⟩ | rfl
    · refine lv_if_ne (tgt := 26) hx hb dX11_judged_19 (by decide) (fun c5 => ?_) (fun c5 => absurd c5 (by decide))
      refine lv_aload_n hx hb dX11_judged_26 rfl (lv_at hl 1 rfl) ?_
      refine lv_aload hx hb dX11_judged_27 (lv_at hl 0 rfl) ?_
      refine lv_iload_n hx hb dX11_judged_29 rfl (lv_at hl 2 rfl) ?_
      refine lv_iload_n hx hb dX11_judged_30 rfl (lv_at hl 3 rfl) ?_
      refine lv_iload_n hx hb dX11_judged_31 rfl (lv_at hl 4 rfl) ?_
      refine z_cv hW hS hA (va_runV (As := [.ref (ad (100 + 8 * k1)), .int a1, .int a2, .int a3]) (rest := []) ⟨hx, hb, hml, hown, hts⟩ (sx_X11_putBounds_s l G ad c I (by show 0 ≤ (I 21 2).toInt ∧ (I 21 2).toInt ≤ 12; exact hO) ⟨(by show 0 ≤ (I 0 0).toInt ∧ (I 0 0).toInt ≤ 719; exact hB.1), (by show 0 ≤ (I 0 8).toInt ∧ (I 0 8).toInt ≤ 10; exact hB.2)⟩ k1 a1 a2 a3 hk1 h10 hc hS0 _) (cwV 4 hts gX11_judged_X11_putBounds rfl rfl rfl (by decide +kernel) ⟨Nat.le_of_ble_eq_true rfl, Nat.le_of_ble_eq_true rfl⟩) (z_preVS (i := 0) hK hW hS hA hSt rfl rfl) rfl rfl hl.1 rfl (lv_room (Nat.le_of_ble_eq_true rfl)) dX11_judged_32 ⟨Nat.le_of_ble_eq_true rfl, Nat.le_of_ble_eq_true rfl⟩) (fun u1 H locs hp hW hS => ?_)
      obtain ⟨I6, e9, hI6O, hI6B, fI6, SI6, SSI6⟩ := hp
      rw [e9] at hW
      have f7 := z_fr_sub (L := L_X11_judged_s) z_fr_0 fI6 (by decide)
      refine lv_aload hx hb dX11_judged_35 (lv_at hl 0 rfl) ?_
      refine lv_aload_n hx hb dX11_judged_37 rfl (lv_at hl 1 rfl) ?_
      refine z_get (T := TX11) (N := 13) (ci := 11) (i := 0) (v := .ref (ad 40)) hx hb hts zj_X11_judged_X11 hown hK hW rfl rfl 9 (by decide) (hts (.fieldLink RX11 54 "PetrolBoard" "row" "[I") (me_s (me_l (me_l (me_l (me_l (me_l (me_l (List.mem_of_getElem? (i := 1) rfl))))))))) (fun _ h => h) rfl dX11_judged_38 ?_
      refine lv_iload_n hx hb dX11_judged_41 rfl (lv_at hl 3 rfl) ?_
      refine lv_iload_n hx hb dX11_judged_42 rfl (lv_at hl 4 rfl) ?_
      refine z_cl hW hS hA (va_runV (As := [.ref (ad 40), .int a2, .int a3]) (rest := []) ⟨hx, hb, hml, hown, hts⟩ (sx_X10_blackBy l G ad c I6  k1 a2 a3 hk1 h10 SI6 _) (cwV 3 hts gX11_judged_X10_blackBy rfl rfl rfl (by decide +kernel) ⟨Nat.le_of_ble_eq_true rfl, Nat.le_of_ble_eq_true rfl⟩) (z_preV (i := (100 + 8 * k1)) hK hW (z_ss0 hk1 h10) rfl) rfl rfl hl.1 rfl (lv_room (Nat.le_of_ble_eq_true rfl)) dX11_judged_43 ⟨Nat.le_of_ble_eq_true rfl, Nat.le_of_ble_eq_true rfl⟩) (fun r u1 H locs hp hW hS => ?_)
      rw [hp] at hW
      refine lv_topl (fun x8 ex8 => ?_)
      exact z_lret hx hb hr hK hS (Nat.le_of_ble_eq_true rfl) (Nat.le_of_ble_eq_true rfl) hlocks dX11_judged_46 (shC c, ad, I6, JX, PC c ad) hW ⟨I6, rfl, (by show 0 ≤ (I6 21 2).toInt ∧ (I6 21 2).toInt ≤ 12; exact hI6O), ⟨(by show 0 ≤ (I6 0 0).toInt ∧ (I6 0 0).toInt ≤ 719; exact hI6B.1), (by show 0 ≤ (I6 0 8).toInt ∧ (I6 0 8).toInt ≤ 10; exact hI6B.2)⟩, f7, SI6, (z_sk_t SSI6 z_sk_0)⟩
    · refine lv_if_ne (tgt := 26) hx hb dX11_judged_19 (by decide) (fun c9 => absurd (by decide) c9) (fun c9 => ?_)
      refine lv_ldc2 (v := (-1)) hx hb hown (hts (.constantLong RX11 261 (-1)) (me_s (me_l (me_l (me_l (me_l (me_l (me_l (List.mem_of_getElem? (i := 0) rfl))))))))) dX11_judged_22 ?_
      exact z_lret hx hb hr hK hS (Nat.le_of_ble_eq_true rfl) (Nat.le_of_ble_eq_true rfl) hlocks dX11_judged_25 (shC c, ad, I, JX, PC c ad) hW ⟨I, rfl, (by show 0 ≤ (I 21 2).toInt ∧ (I 21 2).toInt ≤ 12; exact hO), ⟨(by show 0 ≤ (I 0 0).toInt ∧ (I 0 0).toInt ≤ 719; exact hB.1), (by show 0 ≤ (I 0 8).toInt ∧ (I 0 8).toInt ≤ 10; exact hB.2)⟩, z_fr_0, hS0, z_sk_0⟩
set_option maxHeartbeats 8000000 in
set_option maxRecDepth 100000 in
theorem sx_X11_stationAt_e (l : Launch) (G : z_G) (ad : Nat → Nat) (c : z_C) (I : z_I) (hB : z_iB I) (a1 : Int32) (hc : z_okc c) (h10 : c.1 ≤ 10) (hsn : (I 0 8).toInt = (c.1 : Int)) : z_Mq l yX11_stationAt wsX11_stationAt { frames := 1, cells := 0, slots := 0, locals := 12 } [.ref (ad 0), .int a1] G (shC c, ad, I, JX, PC c ad) (fun r u1 => u1 = (shC c, ad, I, JX, PC c ad) ∧ ((r = none ∧ ¬ (0 ≤ a1.toInt ∧ a1.toInt < (I 0 8).toInt)) ∨ ∃ k, k < c.1 ∧ a1.toNatClampNeg = k ∧ (0 ≤ a1.toInt ∧ a1.toInt < (I 0 8).toInt) ∧ r = some (ad (100 + 8 * k)))) 0 0 := by
  intro sz
  refine z_headQ (cc := cX11_stationAt) (maxL := 2) (ret := (some (.object "PetrolBoard$Station"))) (by decide) rfl (Nat.le_of_ble_eq_true rfl) ?_
  intro p e s m below meth c0 ls hIn hK hsz hW hl
  obtain ⟨hx, hb, hr, hml, hown, hts, hlocks, hname⟩ := hIn
  subst hsz
  have hown : s.vm.findClass RX11 = some m.cls := hown
  have hA : ∀ q : Nat, s.heap.size ≤ q → z_A (shC c, ad, I, JX, PC c ad) s.heap.size q := fun q h => Or.inr h
  generalize hAe : z_A (shC c, ad, I, JX, PC c ad) s.heap.size = A at *
  have hS : va_S A s.heap s.heap [] := va_S.rf
  have hl : lv_has ls 2 [(0, .ref (ad 0)), (1, .int a1)] := hl
  refine lv_iload_n hx hb dX11_stationAt_0 rfl (lv_at hl 1 rfl) ?_
  refine lv_if_lt (tgt := 21) hx hb dX11_stationAt_1 (by decide) (fun c1 => ?_) (fun c1 => ?_)
  · have g2 := z_f_lt rfl z_l0 c1
    have b3 := Int32.toInt_lt a1
    refine lv_null hx hb dX11_stationAt_21 ?_
    exact z_nret hx hb hr hK hS (Nat.le_of_ble_eq_true rfl) (Nat.le_of_ble_eq_true rfl) hlocks dX11_stationAt_22 (shC c, ad, I, JX, PC c ad) hW ⟨rfl, Or.inl ⟨rfl, (by omega)⟩⟩
  · have g4 := z_f_nlt rfl z_l0 c1
    have b5 := Int32.toInt_lt a1
    refine lv_iload_n hx hb dX11_stationAt_4 rfl (lv_at hl 1 rfl) ?_
    refine lv_aload_n hx hb dX11_stationAt_5 rfl (lv_at hl 0 rfl) ?_
    have r6 : 0 ≤ (I 0 8).toInt ∧ (I 0 8).toInt ≤ 10 := hB.2
    refine z_get (T := TX11) (N := 13) (ci := 11) (i := 0) (v := .int (I 0 8)) hx hb hts zj_X11_stationAt_X11 hown hK hW rfl rfl 8 (by decide) (hts (.fieldLink RX11 178 "PetrolBoard" "stationNumber" "I") (me_s (me_l (List.mem_of_getElem? (i := 0) rfl)))) (fun _ h => h) rfl dX11_stationAt_6 ?_
    refine lv_icmp_ge (tgt := 21) hx hb dX11_stationAt_9 (by decide) (fun c7 => ?_) (fun c7 => ?_)
    · have g8 := z_f_ge rfl rfl c7
      refine lv_null hx hb dX11_stationAt_21 ?_
      exact z_nret hx hb hr hK hS (Nat.le_of_ble_eq_true rfl) (Nat.le_of_ble_eq_true rfl) hlocks dX11_stationAt_22 (shC c, ad, I, JX, PC c ad) hW ⟨rfl, Or.inl ⟨rfl, (by omega)⟩⟩
    · have g9 := z_f_nge rfl rfl c7
      refine lv_iload_n hx hb dX11_stationAt_12 rfl (lv_at hl 1 rfl) ?_
      refine lv_aload_n hx hb dX11_stationAt_13 rfl (lv_at hl 0 rfl) ?_
      refine z_get (T := TX11) (N := 13) (ci := 11) (i := 0) (v := .ref (ad 39)) hx hb hts zj_X11_stationAt_X11 hown hK hW rfl rfl 7 (by decide) (hts (.fieldLink RX11 50 "PetrolBoard" "stations" "[LPetrolBoard$Station;") (me_s (me_l (List.mem_of_getElem? (i := 1) rfl)))) (fun _ h => h) rfl dX11_stationAt_14 ?_
      refine z_alen (i := 39) (v := 10) hx hb hK hW rfl (by simp [z_tys]) (by rfl) dX11_stationAt_17 ?_
      refine lv_icmp_lt (tgt := 23) hx hb dX11_stationAt_18 (by decide) (fun c10 => ?_) (fun c10 => (by have g := z_f_nlt rfl z_l10 c10; omega))
      have g11 := z_f_lt rfl z_l10 c10
      refine lv_aload_n hx hb dX11_stationAt_23 rfl (lv_at hl 0 rfl) ?_
      refine z_get (T := TX11) (N := 13) (ci := 11) (i := 0) (v := .ref (ad 39)) hx hb hts zj_X11_stationAt_X11 hown hK hW rfl rfl 7 (by decide) (hts (.fieldLink RX11 50 "PetrolBoard" "stations" "[LPetrolBoard$Station;") (me_s (me_l (List.mem_of_getElem? (i := 1) rfl)))) (fun _ h => h) rfl dX11_stationAt_24 ?_
      refine lv_iload_n hx hb dX11_stationAt_27 rfl (lv_at hl 1 rfl) ?_
      obtain ⟨k12, ek12⟩ : ∃ k : Nat, (a1 : Int32).toNatClampNeg = k := ⟨_, rfl⟩
      rcases Nat.lt_or_ge k12 c.1 with hk12 | hk12
      · refine z_aald (i := 39) (v := .ref (ad (100 + 8 * k12))) hx hb hK hW rfl (by simp [z_tys]) rfl (z_ix rfl (by omega) (by omega)) (z_p39 ek12 hk12) dX11_stationAt_28 ?_
        exact z_qretO hx hb hr hK hS (Nat.le_of_ble_eq_true rfl) (Nat.le_of_ble_eq_true rfl) hlocks dX11_stationAt_29 (shC c, ad, I, JX, PC c ad) hW ⟨rfl, Or.inr ⟨k12, hk12, ek12, (by omega), rfl⟩⟩
      · refine z_aald (i := 39) (v := .null) hx hb hK hW rfl (by simp [z_tys]) rfl (z_ix rfl (by omega) (by omega)) (z_p39n (by rw [ek12]; omega)) dX11_stationAt_28 ?_
        exact z_nret hx hb hr hK hS (Nat.le_of_ble_eq_true rfl) (Nat.le_of_ble_eq_true rfl) hlocks dX11_stationAt_29 (shC c, ad, I, JX, PC c ad) hW ⟨rfl, Or.inl ⟨rfl, (by have z9 : a1.toInt.toNat = k12 := ek12; omega)⟩⟩
noncomputable def L_X10_addDelivery_r : z_L := [(1000, 999)]
set_option maxHeartbeats 8000000 in
set_option maxRecDepth 100000 in
theorem sx_X10_addDelivery_r (l : Launch) (G : z_G) (ad : Nat → Nat) (c : z_C) (I : z_I) (k : Nat) (a1 : Int32) (hk : k < c.1) (h10 : c.1 ≤ 10) (hS0 : z_iS c I) : z_M l yX10_addDelivery wsX10_addDelivery { frames := 1, cells := 0, slots := 0, locals := 12 } [.ref (ad (100 + 8 * k)), .int a1] G (shC c, ad, I, JX, PC c ad) (fun r u1 => ∃ I1 : z_I, u1 = (shC c, ad, I1, JX, PC c ad) ∧ z_fr L_X10_addDelivery_r I1 I ∧ z_iS c I1 ∧ ((((I (100 + 8 * k) 5).toInt < 30) ∧ r = (I (100 + 8 * k) 6) + a1 ∧ z_dl I1 I k a1) ∨ (¬ ((I (100 + 8 * k) 5).toInt < 30) ∧ r = -1 ∧ z_sk I1 I))) 0 0 := by
  intro sz
  refine z_headQ (cc := cX10_addDelivery) (maxL := 2) (ret := (some .int)) (by decide) rfl (Nat.le_of_ble_eq_true rfl) ?_
  intro p e s m below meth c0 ls hIn hK hsz hW hl
  obtain ⟨hx, hb, hr, hml, hown, hts, hlocks, hname⟩ := hIn
  subst hsz
  have hown : s.vm.findClass RX10 = some m.cls := hown
  have hA : ∀ q : Nat, s.heap.size ≤ q → z_A (shC c, ad, I, JX, PC c ad) s.heap.size q := fun q h => Or.inr h
  generalize hAe : z_A (shC c, ad, I, JX, PC c ad) s.heap.size = A at *
  have hS : va_S A s.heap s.heap [] := va_S.rf
  have hl : lv_has ls 2 [(0, .ref (ad (100 + 8 * k))), (1, .int a1)] := hl
  refine lv_aload_n hx hb dX10_addDelivery_0 rfl (lv_at hl 0 rfl) ?_
  refine z_get (T := TX10) (N := 10) (ci := 10) (i := (100 + 8 * k)) (v := .int (I (100 + 8 * k) 5)) hx hb hts zj_X10_addDelivery_X10 hown hK hW (z_ss0 hk h10) rfl 5 (by decide) (hts (.fieldLink RX10 33 "PetrolBoard$Station" "deliveries" "I") (me_s (me_l (List.mem_of_getElem? (i := 0) rfl)))) (fun _ h => h) rfl dX10_addDelivery_1 ?_
  refine lv_bipush (v := 30) hx hb dX10_addDelivery_4 (by decide) ?_
  refine lv_icmp_lt (tgt := 11) hx hb dX10_addDelivery_6 (by decide) (fun c1 => ?_) (fun c1 => ?_)
  · have g2 := z_f_lt rfl z_l30 c1
    have b3 := Int32.toInt_lt (I (100 + 8 * k) 5)
    refine lv_aload_n hx hb dX10_addDelivery_11 rfl (lv_at hl 0 rfl) ?_
    refine lv_dup hx hb dX10_addDelivery_12 rfl ?_
    refine z_get (T := TX10) (N := 10) (ci := 10) (i := (100 + 8 * k)) (v := .int (I (100 + 8 * k) 5)) hx hb hts zj_X10_addDelivery_X10 hown hK hW (z_ss0 hk h10) rfl 5 (by decide) (hts (.fieldLink RX10 33 "PetrolBoard$Station" "deliveries" "I") (me_s (me_l (List.mem_of_getElem? (i := 0) rfl)))) (fun _ h => h) rfl dX10_addDelivery_13 ?_
    refine lv_iconst (v := 1) hx hb dX10_addDelivery_16 (by decide) ?_
    refine lv_iadd hx hb dX10_addDelivery_17 ?_
    refine lv_topi (fun x4 ex4 => ?_)
    have tx4 : x4.toInt = (I (100 + 8 * k) 5).toInt + 1 := z_tadd ex4 rfl z_l1 (by have := Int32.le_toInt (I (100 + 8 * k) 5); have := Int32.toInt_lt (I (100 + 8 * k) 5); omega) (by have := Int32.le_toInt (I (100 + 8 * k) 5); have := Int32.toInt_lt (I (100 + 8 * k) 5); omega)
    refine z_put (T := TX10) (N := 10) (ci := 10) (i := (100 + 8 * k)) (v := .int x4) (I1 := z_up I (100 + 8 * k) 5 x4) (J1 := JX) (P1 := PC c ad) hx hb hts zj_X10_addDelivery_X10 tyX10 tyX10_ok nmX10 hown hK hW hS (z_ss0 hk h10) rfl 5 (by decide) (hts (.fieldLink RX10 33 "PetrolBoard$Station" "deliveries" "I") (me_s (me_l (List.mem_of_getElem? (i := 0) rfl)))) (fun _ h => h) rfl rfl rfl (by first | rfl | exact congrArg _ z_up_s) (fun a b h ty => z_vI h ty) dX10_addDelivery_18 (fun H locs hz1 hW hS => ?_)
    obtain ⟨I5, eI5⟩ : ∃ K : z_I, K = z_up I (100 + 8 * k) 5 x4 := ⟨_, rfl⟩
    rw [← eI5] at hW
    have f6 := z_fr_a z_fr_0 (z_wad (L := L_X10_addDelivery_r) (by decide) (by omega)) eI5
    have hS7 := z_iS_k hS0 (by decide) eI5
    refine lv_aload_n hx hb dX10_addDelivery_21 rfl (lv_at hl 0 rfl) ?_
    refine lv_dup hx hb dX10_addDelivery_22 rfl ?_
    refine z_get (T := TX10) (N := 10) (ci := 10) (i := (100 + 8 * k)) (v := .int (I (100 + 8 * k) 6)) hx hb hts zj_X10_addDelivery_X10 hown hK hW (z_ss0 hk h10) rfl 6 (by decide) (hts (.fieldLink RX10 37 "PetrolBoard$Station" "delivered" "I") (me_s (me_l (List.mem_of_getElem? (i := 1) rfl)))) (fun _ h => h) (congrArg Value.int (by rw [eI5, z_up_k (by decide)])) dX10_addDelivery_23 ?_
    refine lv_iload_n hx hb dX10_addDelivery_26 rfl (lv_at hl 1 rfl) ?_
    refine lv_iadd hx hb dX10_addDelivery_27 ?_
    refine lv_topi (fun x8 ex8 => ?_)
    refine z_put (T := TX10) (N := 10) (ci := 10) (i := (100 + 8 * k)) (v := .int x8) (I1 := z_up I5 (100 + 8 * k) 6 x8) (J1 := JX) (P1 := PC c ad) hx hb hts zj_X10_addDelivery_X10 tyX10 tyX10_ok nmX10 hown hK hW hS (z_ss0 hk h10) rfl 6 (by decide) (hts (.fieldLink RX10 37 "PetrolBoard$Station" "delivered" "I") (me_s (me_l (List.mem_of_getElem? (i := 1) rfl)))) (fun _ h => h) rfl rfl rfl (by first | rfl | exact congrArg _ z_up_s) (fun a b h ty => z_vI h ty) dX10_addDelivery_28 (fun H locs hz1 hW hS => ?_)
    obtain ⟨I9, eI9⟩ : ∃ K : z_I, K = z_up I5 (100 + 8 * k) 6 x8 := ⟨_, rfl⟩
    rw [← eI9] at hW
    have f10 := z_fr_a f6 (z_wad (L := L_X10_addDelivery_r) (by decide) (by omega)) eI9
    have hS11 := z_iS_k hS7 (by decide) eI9
    refine lv_aload_n hx hb dX10_addDelivery_31 rfl (lv_at hl 0 rfl) ?_
    refine z_get (T := TX10) (N := 10) (ci := 10) (i := (100 + 8 * k)) (v := .int x8) hx hb hts zj_X10_addDelivery_X10 hown hK hW (z_ss0 hk h10) rfl 6 (by decide) (hts (.fieldLink RX10 37 "PetrolBoard$Station" "delivered" "I") (me_s (me_l (List.mem_of_getElem? (i := 1) rfl)))) (fun _ h => h) (congrArg Value.int (by rw [eI9, z_up_s])) dX10_addDelivery_32 ?_
    exact z_iret hx hb hr hK hS (Nat.le_of_ble_eq_true rfl) (Nat.le_of_ble_eq_true rfl) hlocks dX10_addDelivery_35 (shC c, ad, I9, JX, PC c ad) hW ⟨I9, rfl, f10, hS11, Or.inl ⟨by omega, ex8, z_dl_of (by omega) eI5 eI9 ex4 ex8⟩⟩
  · have g12 := z_f_nlt rfl z_l30 c1
    have b13 := Int32.toInt_lt (I (100 + 8 * k) 5)
    refine lv_iconst (v := (-1)) hx hb dX10_addDelivery_9 (by decide) ?_
    exact z_iret hx hb hr hK hS (Nat.le_of_ble_eq_true rfl) (Nat.le_of_ble_eq_true rfl) hlocks dX10_addDelivery_10 (shC c, ad, I, JX, PC c ad) hW ⟨I, rfl, z_fr_0, hS0, Or.inr ⟨by omega, rfl, z_sk_0⟩⟩
noncomputable def L_X10_addDip_r : z_L := [(1000, 999)]
set_option maxHeartbeats 8000000 in
set_option maxRecDepth 100000 in
theorem sx_X10_addDip_r (l : Launch) (G : z_G) (ad : Nat → Nat) (c : z_C) (I : z_I) (k : Nat) (a1 : Int32) (a2 : Int32) (a3 : Int32) (hk : k < c.1) (h10 : c.1 ≤ 10) (hS0 : z_iS c I) : z_M l yX10_addDip wsX10_addDip { frames := 1, cells := 0, slots := 0, locals := 12 } [.ref (ad (100 + 8 * k)), .int a1, .int a2, .int a3] G (shC c, ad, I, JX, PC c ad) (fun r u1 => ∃ I1 : z_I, u1 = (shC c, ad, I1, JX, PC c ad) ∧ z_fr L_X10_addDip_r I1 I ∧ z_iS c I1 ∧ ((((I (100 + 8 * k) 4).toInt < 30) ∧ r.toInt = (I (100 + 8 * k) 4).toInt ∧ z_dp I1 I k) ∨ (¬ ((I (100 + 8 * k) 4).toInt < 30) ∧ r.toInt = -1 ∧ z_sk I1 I))) 0 0 := by
  intro sz
  refine z_headQ (cc := cX10_addDip) (maxL := 4) (ret := (some .int)) (by decide) rfl (Nat.le_of_ble_eq_true rfl) ?_
  intro p e s m below meth c0 ls hIn hK hsz hW hl
  obtain ⟨hx, hb, hr, hml, hown, hts, hlocks, hname⟩ := hIn
  subst hsz
  have hown : s.vm.findClass RX10 = some m.cls := hown
  have hA : ∀ q : Nat, s.heap.size ≤ q → z_A (shC c, ad, I, JX, PC c ad) s.heap.size q := fun q h => Or.inr h
  generalize hAe : z_A (shC c, ad, I, JX, PC c ad) s.heap.size = A at *
  have hS : va_S A s.heap s.heap [] := va_S.rf
  have hl : lv_has ls 4 [(0, .ref (ad (100 + 8 * k))), (1, .int a1), (2, .int a2), (3, .int a3)] := hl
  refine lv_aload_n hx hb dX10_addDip_0 rfl (lv_at hl 0 rfl) ?_
  have r1 : 0 ≤ (I (100 + 8 * k) 4).toInt ∧ (I (100 + 8 * k) 4).toInt ≤ 30 := (hS0 k hk)
  refine z_get (T := TX10) (N := 10) (ci := 10) (i := (100 + 8 * k)) (v := .int (I (100 + 8 * k) 4)) hx hb hts zj_X10_addDip_X10 hown hK hW (z_ss0 hk h10) rfl 4 (by decide) (hts (.fieldLink RX10 40 "PetrolBoard$Station" "dips" "I") (me_s (me_l (List.mem_of_getElem? (i := 0) rfl)))) (fun _ h => h) rfl dX10_addDip_1 ?_
  refine lv_bipush (v := 30) hx hb dX10_addDip_4 (by decide) ?_
  refine lv_icmp_lt (tgt := 11) hx hb dX10_addDip_6 (by decide) (fun c2 => ?_) (fun c2 => ?_)
  · have g3 := z_f_lt rfl z_l30 c2
    refine lv_aload_n hx hb dX10_addDip_11 rfl (lv_at hl 0 rfl) ?_
    refine z_get (T := TX10) (N := 10) (ci := 10) (i := (100 + 8 * k)) (v := .ref (ad (100 + 8 * k + 1))) hx hb hts zj_X10_addDip_X10 hown hK hW (z_ss0 hk h10) rfl 0 (by decide) (hts (.fieldLink RX10 9 "PetrolBoard$Station" "told" "[I") (me_s (me_l (List.mem_of_getElem? (i := 1) rfl)))) (fun _ h => h) (z_pS hk h10 rfl rfl) dX10_addDip_12 ?_
    refine lv_aload_n hx hb dX10_addDip_15 rfl (lv_at hl 0 rfl) ?_
    refine z_get (T := TX10) (N := 10) (ci := 10) (i := (100 + 8 * k)) (v := .int (I (100 + 8 * k) 4)) hx hb hts zj_X10_addDip_X10 hown hK hW (z_ss0 hk h10) rfl 4 (by decide) (hts (.fieldLink RX10 40 "PetrolBoard$Station" "dips" "I") (me_s (me_l (List.mem_of_getElem? (i := 0) rfl)))) (fun _ h => h) rfl dX10_addDip_16 ?_
    refine lv_iload_n hx hb dX10_addDip_19 rfl (lv_at hl 1 rfl) ?_
    refine z_iast (i := (100 + 8 * k + 1)) hx hb hK hW hS (z_ssj hk h10 (by decide)) (z_ix rfl (by omega) (by omega)) dX10_addDip_20 (fun H locs hz1 hW hS => ?_)
    obtain ⟨I4, eI4⟩ : ∃ K : z_I, K = z_up I (100 + 8 * k + 1) (I (100 + 8 * k) 4).toNatClampNeg a1 := ⟨_, rfl⟩
    rw [← eI4] at hW
    have f5 := z_fr_a z_fr_0 (z_wad (L := L_X10_addDip_r) (by decide) (by omega)) eI4
    have hS6 := z_iS_a hS0 (by decide) eI4
    have hZ7 := z_sk_a z_sk_0 (by decide) (by omega) eI4
    refine lv_aload_n hx hb dX10_addDip_21 rfl (lv_at hl 0 rfl) ?_
    refine z_get (T := TX10) (N := 10) (ci := 10) (i := (100 + 8 * k)) (v := .ref (ad (100 + 8 * k + 2))) hx hb hts zj_X10_addDip_X10 hown hK hW (z_ss0 hk h10) rfl 1 (by decide) (hts (.fieldLink RX10 15 "PetrolBoard$Station" "dipDay" "[I") (me_s (me_l (List.mem_of_getElem? (i := 2) rfl)))) (fun _ h => h) (z_pS hk h10 rfl rfl) dX10_addDip_22 ?_
    refine lv_aload_n hx hb dX10_addDip_25 rfl (lv_at hl 0 rfl) ?_
    refine z_get (T := TX10) (N := 10) (ci := 10) (i := (100 + 8 * k)) (v := .int (I (100 + 8 * k) 4)) hx hb hts zj_X10_addDip_X10 hown hK hW (z_ss0 hk h10) rfl 4 (by decide) (hts (.fieldLink RX10 40 "PetrolBoard$Station" "dips" "I") (me_s (me_l (List.mem_of_getElem? (i := 0) rfl)))) (fun _ h => h) (congrArg Value.int (by rw [eI4, z_up_n (by omega)])) dX10_addDip_26 ?_
    refine lv_iload_n hx hb dX10_addDip_29 rfl (lv_at hl 2 rfl) ?_
    refine z_iast (i := (100 + 8 * k + 2)) hx hb hK hW hS (z_ssj hk h10 (by decide)) (z_ix rfl (by omega) (by omega)) dX10_addDip_30 (fun H locs hz1 hW hS => ?_)
    obtain ⟨I8, eI8⟩ : ∃ K : z_I, K = z_up I4 (100 + 8 * k + 2) (I (100 + 8 * k) 4).toNatClampNeg a2 := ⟨_, rfl⟩
    rw [← eI8] at hW
    have f9 := z_fr_a f5 (z_wad (L := L_X10_addDip_r) (by decide) (by omega)) eI8
    have hS10 := z_iS_a hS6 (by decide) eI8
    have hZ11 := z_sk_a hZ7 (by decide) (by omega) eI8
    refine lv_aload_n hx hb dX10_addDip_31 rfl (lv_at hl 0 rfl) ?_
    refine z_get (T := TX10) (N := 10) (ci := 10) (i := (100 + 8 * k)) (v := .ref (ad (100 + 8 * k + 3))) hx hb hts zj_X10_addDip_X10 hown hK hW (z_ss0 hk h10) rfl 2 (by decide) (hts (.fieldLink RX10 18 "PetrolBoard$Station" "deliveredThen" "[I") (me_s (me_l (List.mem_of_getElem? (i := 3) rfl)))) (fun _ h => h) (z_pS hk h10 rfl rfl) dX10_addDip_32 ?_
    refine lv_aload_n hx hb dX10_addDip_35 rfl (lv_at hl 0 rfl) ?_
    refine z_get (T := TX10) (N := 10) (ci := 10) (i := (100 + 8 * k)) (v := .int (I (100 + 8 * k) 4)) hx hb hts zj_X10_addDip_X10 hown hK hW (z_ss0 hk h10) rfl 4 (by decide) (hts (.fieldLink RX10 40 "PetrolBoard$Station" "dips" "I") (me_s (me_l (List.mem_of_getElem? (i := 0) rfl)))) (fun _ h => h) (congrArg Value.int (by rw [eI8, z_up_n (by omega), eI4, z_up_n (by omega)])) dX10_addDip_36 ?_
    refine lv_aload_n hx hb dX10_addDip_39 rfl (lv_at hl 0 rfl) ?_
    refine z_get (T := TX10) (N := 10) (ci := 10) (i := (100 + 8 * k)) (v := .int (I (100 + 8 * k) 6)) hx hb hts zj_X10_addDip_X10 hown hK hW (z_ss0 hk h10) rfl 6 (by decide) (hts (.fieldLink RX10 37 "PetrolBoard$Station" "delivered" "I") (me_s (me_l (List.mem_of_getElem? (i := 4) rfl)))) (fun _ h => h) (congrArg Value.int (by rw [eI8, z_up_n (by omega), eI4, z_up_n (by omega)])) dX10_addDip_40 ?_
    refine z_iast (i := (100 + 8 * k + 3)) hx hb hK hW hS (z_ssj hk h10 (by decide)) (z_ix rfl (by omega) (by omega)) dX10_addDip_43 (fun H locs hz1 hW hS => ?_)
    obtain ⟨I12, eI12⟩ : ∃ K : z_I, K = z_up I8 (100 + 8 * k + 3) (I (100 + 8 * k) 4).toNatClampNeg (I (100 + 8 * k) 6) := ⟨_, rfl⟩
    rw [← eI12] at hW
    have f13 := z_fr_a f9 (z_wad (L := L_X10_addDip_r) (by decide) (by omega)) eI12
    have hS14 := z_iS_a hS10 (by decide) eI12
    have hZ15 := z_sk_a hZ11 (by decide) (by omega) eI12
    refine lv_aload_n hx hb dX10_addDip_44 rfl (lv_at hl 0 rfl) ?_
    refine z_get (T := TX10) (N := 10) (ci := 10) (i := (100 + 8 * k)) (v := .ref (ad (100 + 8 * k + 4))) hx hb hts zj_X10_addDip_X10 hown hK hW (z_ss0 hk h10) rfl 3 (by decide) (hts (.fieldLink RX10 21 "PetrolBoard$Station" "pouredThen" "[I") (me_s (me_l (List.mem_of_getElem? (i := 5) rfl)))) (fun _ h => h) (z_pS hk h10 rfl rfl) dX10_addDip_45 ?_
    refine lv_aload_n hx hb dX10_addDip_48 rfl (lv_at hl 0 rfl) ?_
    refine z_get (T := TX10) (N := 10) (ci := 10) (i := (100 + 8 * k)) (v := .int (I (100 + 8 * k) 4)) hx hb hts zj_X10_addDip_X10 hown hK hW (z_ss0 hk h10) rfl 4 (by decide) (hts (.fieldLink RX10 40 "PetrolBoard$Station" "dips" "I") (me_s (me_l (List.mem_of_getElem? (i := 0) rfl)))) (fun _ h => h) (congrArg Value.int (by rw [eI12, z_up_n (by omega), eI8, z_up_n (by omega), eI4, z_up_n (by omega)])) dX10_addDip_49 ?_
    refine lv_iload_n hx hb dX10_addDip_52 rfl (lv_at hl 3 rfl) ?_
    refine z_iast (i := (100 + 8 * k + 4)) hx hb hK hW hS (z_ssj hk h10 (by decide)) (z_ix rfl (by omega) (by omega)) dX10_addDip_53 (fun H locs hz1 hW hS => ?_)
    obtain ⟨I16, eI16⟩ : ∃ K : z_I, K = z_up I12 (100 + 8 * k + 4) (I (100 + 8 * k) 4).toNatClampNeg a3 := ⟨_, rfl⟩
    rw [← eI16] at hW
    have f17 := z_fr_a f13 (z_wad (L := L_X10_addDip_r) (by decide) (by omega)) eI16
    have hS18 := z_iS_a hS14 (by decide) eI16
    have hZ19 := z_sk_a hZ15 (by decide) (by omega) eI16
    refine lv_aload_n hx hb dX10_addDip_54 rfl (lv_at hl 0 rfl) ?_
    refine lv_dup hx hb dX10_addDip_55 rfl ?_
    refine z_get (T := TX10) (N := 10) (ci := 10) (i := (100 + 8 * k)) (v := .int (I (100 + 8 * k) 4)) hx hb hts zj_X10_addDip_X10 hown hK hW (z_ss0 hk h10) rfl 4 (by decide) (hts (.fieldLink RX10 40 "PetrolBoard$Station" "dips" "I") (me_s (me_l (List.mem_of_getElem? (i := 0) rfl)))) (fun _ h => h) (congrArg Value.int (by rw [eI16, z_up_n (by omega), eI12, z_up_n (by omega), eI8, z_up_n (by omega), eI4, z_up_n (by omega)])) dX10_addDip_56 ?_
    refine lv_iconst (v := 1) hx hb dX10_addDip_59 (by decide) ?_
    refine lv_iadd hx hb dX10_addDip_60 ?_
    refine lv_topi (fun x20 ex20 => ?_)
    have tx20 : x20.toInt = (I (100 + 8 * k) 4).toInt + 1 := z_tadd ex20 rfl z_l1 (by omega) (by omega)
    refine z_put (T := TX10) (N := 10) (ci := 10) (i := (100 + 8 * k)) (v := .int x20) (I1 := z_up I16 (100 + 8 * k) 4 x20) (J1 := JX) (P1 := PC c ad) hx hb hts zj_X10_addDip_X10 tyX10 tyX10_ok nmX10 hown hK hW hS (z_ss0 hk h10) rfl 4 (by decide) (hts (.fieldLink RX10 40 "PetrolBoard$Station" "dips" "I") (me_s (me_l (List.mem_of_getElem? (i := 0) rfl)))) (fun _ h => h) rfl rfl rfl (by first | rfl | exact congrArg _ z_up_s) (fun a b h ty => z_vI h ty) dX10_addDip_61 (fun H locs hz1 hW hS => ?_)
    obtain ⟨I21, eI21⟩ : ∃ K : z_I, K = z_up I16 (100 + 8 * k) 4 x20 := ⟨_, rfl⟩
    rw [← eI21] at hW
    have f22 := z_fr_a f17 (z_wad (L := L_X10_addDip_r) (by decide) (by omega)) eI21
    have hS23 := z_iS_4 hS18 (by omega) eI21
    refine lv_aload_n hx hb dX10_addDip_64 rfl (lv_at hl 0 rfl) ?_
    refine z_get (T := TX10) (N := 10) (ci := 10) (i := (100 + 8 * k)) (v := .int x20) hx hb hts zj_X10_addDip_X10 hown hK hW (z_ss0 hk h10) rfl 4 (by decide) (hts (.fieldLink RX10 40 "PetrolBoard$Station" "dips" "I") (me_s (me_l (List.mem_of_getElem? (i := 0) rfl)))) (fun _ h => h) (congrArg Value.int (by rw [eI21, z_up_s])) dX10_addDip_65 ?_
    refine lv_iconst (v := 1) hx hb dX10_addDip_68 (by decide) ?_
    refine lv_isub hx hb dX10_addDip_69 ?_
    refine lv_topi (fun x25 ex25 => ?_)
    have tx25 : x25.toInt = x20.toInt - 1 := z_tsub ex25 rfl z_l1 (by omega) (by omega)
    exact z_iret hx hb hr hK hS (Nat.le_of_ble_eq_true rfl) (Nat.le_of_ble_eq_true rfl) hlocks dX10_addDip_70 (shC c, ad, I21, JX, PC c ad) hW ⟨I21, rfl, f22, hS23, Or.inl ⟨by omega, by omega, z_dp_of (by omega) hZ19 eI21 ex20⟩⟩
  · have g26 := z_f_nlt rfl z_l30 c2
    refine lv_iconst (v := (-1)) hx hb dX10_addDip_9 (by decide) ?_
    exact z_iret hx hb hr hK hS (Nat.le_of_ble_eq_true rfl) (Nat.le_of_ble_eq_true rfl) hlocks dX10_addDip_10 (shC c, ad, I, JX, PC c ad) hW ⟨I, rfl, z_fr_0, hS0, Or.inr ⟨by omega, by decide, z_sk_0⟩⟩
noncomputable def L_X11_deliver_r : z_L := [(1000, 999)]
set_option maxHeartbeats 8000000 in
set_option maxRecDepth 100000 in
theorem sx_X11_deliver_r (l : Launch) (G : z_G) (ad : Nat → Nat) (c : z_C) (I : z_I) (hB : z_iB I) (a1 : Int32) (a2 : Int32) (hc : z_okc c) (h10 : c.1 ≤ 10) (hsn : (I 0 8).toInt = (c.1 : Int)) (hS0 : z_iS c I) : z_M l yX11_deliver wsX11_deliver { frames := 2, cells := 0, slots := 0, locals := 34 } [.ref (ad 0), .int a1, .int a2] G (shC c, ad, I, JX, PC c ad) (fun r u1 => ∃ I1 : z_I, u1 = (shC c, ad, I1, JX, PC c ad) ∧ z_iB I1 ∧ z_fr L_X11_deliver_r I1 I ∧ z_iS c I1 ∧ (((0 ≤ a1.toInt ∧ a1.toInt < (I 0 8).toInt ∧ 1 ≤ a2.toInt ∧ a2.toInt ≤ 100000 ∧ (I (100 + 8 * a1.toNatClampNeg) 5).toInt < 30) ∧ r = (I (100 + 8 * a1.toNatClampNeg) 6) + a2 ∧ z_dl I1 I a1.toNatClampNeg a2) ∨ (¬ (0 ≤ a1.toInt ∧ a1.toInt < (I 0 8).toInt ∧ 1 ≤ a2.toInt ∧ a2.toInt ≤ 100000 ∧ (I (100 + 8 * a1.toNatClampNeg) 5).toInt < 30) ∧ r = -1 ∧ z_sk I1 I))) 0 0 := by
  intro sz
  refine z_headQ (cc := cX11_deliver) (maxL := 4) (ret := (some .int)) (by decide) rfl (Nat.le_of_ble_eq_true rfl) ?_
  intro p e s m below meth c0 ls hIn hK hsz hW hl
  obtain ⟨hx, hb, hr, hml, hown, hts, hlocks, hname⟩ := hIn
  subst hsz
  have hown : s.vm.findClass RX11 = some m.cls := hown
  have hA : ∀ q : Nat, s.heap.size ≤ q → z_A (shC c, ad, I, JX, PC c ad) s.heap.size q := fun q h => Or.inr h
  generalize hAe : z_A (shC c, ad, I, JX, PC c ad) s.heap.size = A at *
  have hS : va_S A s.heap s.heap [] := va_S.rf
  have hl : lv_has ls 4 [(0, .ref (ad 0)), (1, .int a1), (2, .int a2)] := hl
  refine lv_aload_n hx hb dX11_deliver_0 rfl (lv_at hl 0 rfl) ?_
  refine lv_iload_n hx hb dX11_deliver_1 rfl (lv_at hl 1 rfl) ?_
  refine z_cq hW hS hA (va_runV (As := [.int a1]) (rest := []) ⟨hx, hb, hml, hown, hts⟩ (sx_X11_stationAt_e l G ad c I ⟨(by show 0 ≤ (I 0 0).toInt ∧ (I 0 0).toInt ≤ 719; exact hB.1), (by show 0 ≤ (I 0 8).toInt ∧ (I 0 8).toInt ≤ 10; exact hB.2)⟩ a1 hc h10 hsn _) (cwV 1 hts gX11_deliver_X11_stationAt rfl rfl rfl (by decide +kernel) ⟨Nat.le_of_ble_eq_true rfl, Nat.le_of_ble_eq_true rfl⟩) (z_preV (i := 0) hK hW rfl rfl) rfl rfl hl.1 rfl (lv_room (Nat.le_of_ble_eq_true rfl)) dX11_deliver_2 ⟨Nat.le_of_ble_eq_true rfl, Nat.le_of_ble_eq_true rfl⟩) (fun r u1 H locs hp hW hS => ?_)
  obtain ⟨e9, hp⟩ := hp
  rw [e9] at hW
  rcases hp with ⟨rfl, h2⟩ | ⟨k1, hk1, ek1, h3, rfl⟩
  · refine W.eq (g2 := F0 m 5 ls (.null :: [])) rfl ?_
    refine lv_astore_nN (lv' := [(3, .null), (0, .ref (ad 0)), (1, .int a1), (2, .int a2)]) hx hb dX11_deliver_5 rfl hl (by decide) rfl (fun ls hl => ?_)
    refine lv_aload_nN hx hb dX11_deliver_6 rfl (lv_at hl 0 rfl) ?_
    refine lv_ifnullN (tgt := 20) hx hb dX11_deliver_7 (by decide) ?_
    refine lv_iconst (v := (-1)) hx hb dX11_deliver_20 (by decide) ?_
    exact z_iret hx hb hr hK hS (Nat.le_of_ble_eq_true rfl) (Nat.le_of_ble_eq_true rfl) hlocks dX11_deliver_21 (shC c, ad, I, JX, PC c ad) hW ⟨I, rfl, ⟨(by show 0 ≤ (I 0 0).toInt ∧ (I 0 0).toInt ≤ 719; exact hB.1), (by show 0 ≤ (I 0 8).toInt ∧ (I 0 8).toInt ≤ 10; exact hB.2)⟩, z_fr_0, hS0, Or.inr ⟨by omega, rfl, z_sk_0⟩⟩
  · refine W.eq (g2 := F0 m 5 ls (.ref (ad (100 + 8 * k1)) :: [])) rfl ?_
    refine lv_astore_n (lv' := [(3, .ref (ad (100 + 8 * k1))), (0, .ref (ad 0)), (1, .int a1), (2, .int a2)]) hx hb dX11_deliver_5 rfl hl (by decide) rfl (fun ls hl => ?_)
    refine lv_aload_n hx hb dX11_deliver_6 rfl (lv_at hl 0 rfl) ?_
    refine lv_ifnull hx hb dX11_deliver_7 ?_
    refine lv_iload_n hx hb dX11_deliver_10 rfl (lv_at hl 3 rfl) ?_
    refine lv_iconst (v := 1) hx hb dX11_deliver_11 (by decide) ?_
    refine lv_ldc (v := 100000) hx hb hown (hts (.constant RX11 230 (100000)) (me_s (me_l (me_l (List.mem_of_getElem? (i := 0) rfl))))) dX11_deliver_12 ?_
    refine z_ci hW hS hA (va_runS (As := [.int a2, .int 1, .int 100000]) (rest := []) ⟨hx, hb, hml, hown, hts⟩ (sx_X11_within_e l G ad c I  a2 1 100000 _) (va_cwS 3 hts gX11_deliver_X11_within rfl rfl rfl (by decide +kernel) ⟨Nat.le_of_ble_eq_true rfl, Nat.le_of_ble_eq_true rfl⟩) (z_preS hK hW) rfl rfl hl.1 rfl (lv_room (Nat.le_of_ble_eq_true rfl)) dX11_deliver_14 ⟨Nat.le_of_ble_eq_true rfl, Nat.le_of_ble_eq_true rfl⟩) (fun r u1 H locs hp hW hS => ?_)
    obtain ⟨e9, hp⟩ := hp
    rw [e9] at hW
    rcases hp with ⟨rfl, h4⟩ | ⟨rfl, h4⟩
    · have h5 := h4
      have z6 := z_l1
      have z7 := z_l100000
      refine lv_if_ne (tgt := 22) hx hb dX11_deliver_17 (by decide) (fun c8 => ?_) (fun c8 => absurd c8 (by decide))
      refine lv_aload_n hx hb dX11_deliver_22 rfl (lv_at hl 0 rfl) ?_
      refine lv_iload_n hx hb dX11_deliver_23 rfl (lv_at hl 3 rfl) ?_
      refine z_ci hW hS hA (va_runV (As := [.int a2]) (rest := []) ⟨hx, hb, hml, hown, hts⟩ (sx_X10_addDelivery_r l G ad c I  k1 a2 hk1 h10 hS0 _) (cwV 1 hts gX11_deliver_X10_addDelivery rfl rfl rfl (by decide +kernel) ⟨Nat.le_of_ble_eq_true rfl, Nat.le_of_ble_eq_true rfl⟩) (z_preV (i := (100 + 8 * k1)) hK hW (z_ss0 hk1 h10) rfl) rfl rfl hl.1 rfl (lv_room (Nat.le_of_ble_eq_true rfl)) dX11_deliver_24 ⟨Nat.le_of_ble_eq_true rfl, Nat.le_of_ble_eq_true rfl⟩) (fun r u1 H locs hp hW hS => ?_)
      obtain ⟨I9, e9, fI9, SI9, hp⟩ := hp
      rw [e9] at hW
      have f10 := z_fr_sub (L := L_X11_deliver_r) z_fr_0 fI9 (by decide)
      have k11 : 0 ≤ (I9 0 0).toInt ∧ (I9 0 0).toInt ≤ 719 := by rw [fI9 0 0 (by decide)]; exact (by show 0 ≤ (I 0 0).toInt ∧ (I 0 0).toInt ≤ 719; exact hB.1)
      have k12 : 0 ≤ (I9 0 8).toInt ∧ (I9 0 8).toInt ≤ 10 := by rw [fI9 0 8 (by decide)]; exact (by show 0 ≤ (I 0 8).toInt ∧ (I 0 8).toInt ≤ 10; exact hB.2)
      refine lv_topi (fun x13 ex13 => ?_)
      rw [← ex13] at hp
      rcases hp with ⟨h14, h15, h16⟩ | ⟨h14, h15, h16⟩
      · exact z_iret hx hb hr hK hS (Nat.le_of_ble_eq_true rfl) (Nat.le_of_ble_eq_true rfl) hlocks dX11_deliver_27 (shC c, ad, I9, JX, PC c ad) hW ⟨I9, rfl, ⟨(by show 0 ≤ (I9 0 0).toInt ∧ (I9 0 0).toInt ≤ 719; exact k11), (by show 0 ≤ (I9 0 8).toInt ∧ (I9 0 8).toInt ≤ 10; exact k12)⟩, f10, SI9, Or.inl ⟨by rw [ek1]; omega, by rw [ek1]; exact h15, by rw [ek1]; exact h16⟩⟩
      · exact z_iret hx hb hr hK hS (Nat.le_of_ble_eq_true rfl) (Nat.le_of_ble_eq_true rfl) hlocks dX11_deliver_27 (shC c, ad, I9, JX, PC c ad) hW ⟨I9, rfl, ⟨(by show 0 ≤ (I9 0 0).toInt ∧ (I9 0 0).toInt ≤ 719; exact k11), (by show 0 ≤ (I9 0 8).toInt ∧ (I9 0 8).toInt ≤ 10; exact k12)⟩, f10, SI9, Or.inr ⟨by rw [ek1]; omega, h15, h16⟩⟩
    · have h17 := h4
      have z18 := z_l1
      have z19 := z_l100000
      refine lv_if_ne (tgt := 22) hx hb dX11_deliver_17 (by decide) (fun c20 => absurd (by decide) c20) (fun c20 => ?_)
      refine lv_iconst (v := (-1)) hx hb dX11_deliver_20 (by decide) ?_
      exact z_iret hx hb hr hK hS (Nat.le_of_ble_eq_true rfl) (Nat.le_of_ble_eq_true rfl) hlocks dX11_deliver_21 (shC c, ad, I, JX, PC c ad) hW ⟨I, rfl, ⟨(by show 0 ≤ (I 0 0).toInt ∧ (I 0 0).toInt ≤ 719; exact hB.1), (by show 0 ≤ (I 0 8).toInt ∧ (I 0 8).toInt ≤ 10; exact hB.2)⟩, z_fr_0, hS0, Or.inr ⟨by omega, rfl, z_sk_0⟩⟩
noncomputable def L_X11_dip_r : z_L := [(1000, 999)]
set_option maxHeartbeats 8000000 in
set_option maxRecDepth 100000 in
theorem sx_X11_dip_r (l : Launch) (G : z_G) (ad : Nat → Nat) (c : z_C) (I : z_I) (hB : z_iB I) (hP : z_iP I) (a1 : Int32) (a2 : Int32) (hc : z_okc c) (h10 : c.1 ≤ 10) (hsn : (I 0 8).toInt = (c.1 : Int)) (hS0 : z_iS c I) : z_M l yX11_dip wsX11_dip { frames := 2, cells := 0, slots := 0, locals := 35 } [.ref (ad 0), .int a1, .int a2] G (shC c, ad, I, JX, PC c ad) (fun r u1 => ∃ I1 : z_I, u1 = (shC c, ad, I1, JX, PC c ad) ∧ z_iB I1 ∧ z_iP I1 ∧ z_fr L_X11_dip_r I1 I ∧ z_iS c I1 ∧ (((0 ≤ a1.toInt ∧ a1.toInt < (I 0 8).toInt ∧ 0 ≤ a2.toInt ∧ a2.toInt ≤ 200000 ∧ (I (100 + 8 * a1.toNatClampNeg) 4).toInt < 30) ∧ r.toInt = (I (100 + 8 * a1.toNatClampNeg) 4).toInt ∧ z_dp I1 I a1.toNatClampNeg) ∨ (¬ (0 ≤ a1.toInt ∧ a1.toInt < (I 0 8).toInt ∧ 0 ≤ a2.toInt ∧ a2.toInt ≤ 200000 ∧ (I (100 + 8 * a1.toNatClampNeg) 4).toInt < 30) ∧ r.toInt = -1 ∧ z_sk I1 I))) 0 0 := by
  intro sz
  refine z_headQ (cc := cX11_dip) (maxL := 4) (ret := (some .int)) (by decide) rfl (Nat.le_of_ble_eq_true rfl) ?_
  intro p e s m below meth c0 ls hIn hK hsz hW hl
  obtain ⟨hx, hb, hr, hml, hown, hts, hlocks, hname⟩ := hIn
  subst hsz
  have hown : s.vm.findClass RX11 = some m.cls := hown
  have hA : ∀ q : Nat, s.heap.size ≤ q → z_A (shC c, ad, I, JX, PC c ad) s.heap.size q := fun q h => Or.inr h
  generalize hAe : z_A (shC c, ad, I, JX, PC c ad) s.heap.size = A at *
  have hS : va_S A s.heap s.heap [] := va_S.rf
  have hl : lv_has ls 4 [(0, .ref (ad 0)), (1, .int a1), (2, .int a2)] := hl
  refine lv_aload_n hx hb dX11_dip_0 rfl (lv_at hl 0 rfl) ?_
  refine lv_iload_n hx hb dX11_dip_1 rfl (lv_at hl 1 rfl) ?_
  refine z_cq hW hS hA (va_runV (As := [.int a1]) (rest := []) ⟨hx, hb, hml, hown, hts⟩ (sx_X11_stationAt_e l G ad c I ⟨(by show 0 ≤ (I 0 0).toInt ∧ (I 0 0).toInt ≤ 719; exact hB.1), (by show 0 ≤ (I 0 8).toInt ∧ (I 0 8).toInt ≤ 10; exact hB.2)⟩ a1 hc h10 hsn _) (cwV 1 hts gX11_dip_X11_stationAt rfl rfl rfl (by decide +kernel) ⟨Nat.le_of_ble_eq_true rfl, Nat.le_of_ble_eq_true rfl⟩) (z_preV (i := 0) hK hW rfl rfl) rfl rfl hl.1 rfl (lv_room (Nat.le_of_ble_eq_true rfl)) dX11_dip_2 ⟨Nat.le_of_ble_eq_true rfl, Nat.le_of_ble_eq_true rfl⟩) (fun r u1 H locs hp hW hS => ?_)
  obtain ⟨e9, hp⟩ := hp
  rw [e9] at hW
  rcases hp with ⟨rfl, h2⟩ | ⟨k1, hk1, ek1, h3, rfl⟩
  · refine W.eq (g2 := F0 m 5 ls (.null :: [])) rfl ?_
    refine lv_astore_nN (lv' := [(3, .null), (0, .ref (ad 0)), (1, .int a1), (2, .int a2)]) hx hb dX11_dip_5 rfl hl (by decide) rfl (fun ls hl => ?_)
    refine lv_aload_nN hx hb dX11_dip_6 rfl (lv_at hl 0 rfl) ?_
    refine lv_ifnullN (tgt := 20) hx hb dX11_dip_7 (by decide) ?_
    refine lv_iconst (v := (-1)) hx hb dX11_dip_20 (by decide) ?_
    exact z_iret hx hb hr hK hS (Nat.le_of_ble_eq_true rfl) (Nat.le_of_ble_eq_true rfl) hlocks dX11_dip_21 (shC c, ad, I, JX, PC c ad) hW ⟨I, rfl, ⟨(by show 0 ≤ (I 0 0).toInt ∧ (I 0 0).toInt ≤ 719; exact hB.1), (by show 0 ≤ (I 0 8).toInt ∧ (I 0 8).toInt ≤ 10; exact hB.2)⟩, (by show 0 ≤ (I 30 8).toInt ∧ (I 30 8).toInt ≤ 300; exact hP), z_fr_0, hS0, Or.inr ⟨by omega, by decide, z_sk_0⟩⟩
  · refine W.eq (g2 := F0 m 5 ls (.ref (ad (100 + 8 * k1)) :: [])) rfl ?_
    refine lv_astore_n (lv' := [(3, .ref (ad (100 + 8 * k1))), (0, .ref (ad 0)), (1, .int a1), (2, .int a2)]) hx hb dX11_dip_5 rfl hl (by decide) rfl (fun ls hl => ?_)
    refine lv_aload_n hx hb dX11_dip_6 rfl (lv_at hl 0 rfl) ?_
    refine lv_ifnull hx hb dX11_dip_7 ?_
    refine lv_iload_n hx hb dX11_dip_10 rfl (lv_at hl 3 rfl) ?_
    refine lv_iconst (v := 0) hx hb dX11_dip_11 (by decide) ?_
    refine lv_ldc (v := 200000) hx hb hown (hts (.constant RX11 234 (200000)) (me_s (me_l (me_l (me_l (me_l (List.mem_of_getElem? (i := 0) rfl))))))) dX11_dip_12 ?_
    refine z_ci hW hS hA (va_runS (As := [.int a2, .int 0, .int 200000]) (rest := []) ⟨hx, hb, hml, hown, hts⟩ (sx_X11_within_e l G ad c I  a2 0 200000 _) (va_cwS 3 hts gX11_dip_X11_within rfl rfl rfl (by decide +kernel) ⟨Nat.le_of_ble_eq_true rfl, Nat.le_of_ble_eq_true rfl⟩) (z_preS hK hW) rfl rfl hl.1 rfl (lv_room (Nat.le_of_ble_eq_true rfl)) dX11_dip_14 ⟨Nat.le_of_ble_eq_true rfl, Nat.le_of_ble_eq_true rfl⟩) (fun r u1 H locs hp hW hS => ?_)
    obtain ⟨e9, hp⟩ := hp
    rw [e9] at hW
    rcases hp with ⟨rfl, h4⟩ | ⟨rfl, h4⟩
    · have h5 := h4
      have z6 := z_l0
      have z7 := z_l200000
      refine lv_if_ne (tgt := 22) hx hb dX11_dip_17 (by decide) (fun c8 => ?_) (fun c8 => absurd c8 (by decide))
      refine lv_aload_n hx hb dX11_dip_22 rfl (lv_at hl 0 rfl) ?_
      refine lv_iload_n hx hb dX11_dip_23 rfl (lv_at hl 3 rfl) ?_
      refine lv_aload_n hx hb dX11_dip_24 rfl (lv_at hl 1 rfl) ?_
      have r9 : 0 ≤ (I 0 0).toInt ∧ (I 0 0).toInt ≤ 719 := hB.1
      refine z_get (T := TX11) (N := 13) (ci := 11) (i := 0) (v := .int (I 0 0)) hx hb hts zj_X11_dip_X11 hown hK hW rfl rfl 0 (by decide) (hts (.fieldLink RX11 85 "PetrolBoard" "today" "I") (me_s (me_l (me_l (me_l (me_l (List.mem_of_getElem? (i := 1) rfl))))))) (fun _ h => h) rfl dX11_dip_25 ?_
      refine lv_aload_n hx hb dX11_dip_28 rfl (lv_at hl 1 rfl) ?_
      refine z_get (T := TX11) (N := 13) (ci := 11) (i := 0) (v := .ref (ad 30)) hx hb hts zj_X11_dip_X11 hown hK hW rfl rfl 6 (by decide) (hts (.fieldLink RX11 44 "PetrolBoard" "pours" "LPetrolBoard$Pours;") (me_s (me_l (me_l (me_l (me_l (List.mem_of_getElem? (i := 2) rfl))))))) (fun _ h => h) rfl dX11_dip_29 ?_
      have r10 : 0 ≤ (I 30 8).toInt ∧ (I 30 8).toInt ≤ 300 := hP
      refine z_get (T := TX8) (N := 9) (ci := 8) (i := 30) (v := .int (I 30 8)) hx hb hts zj_X11_dip_X8 hown hK hW rfl rfl 8 (by decide) (hts (.fieldLink RX11 201 "PetrolBoard$Pours" "number" "I") (me_s (me_l (me_l (me_l (me_l (List.mem_of_getElem? (i := 3) rfl))))))) (fun _ h => h) rfl dX11_dip_32 ?_
      refine z_ci hW hS hA (va_runV (As := [.int a2, .int (I 0 0), .int (I 30 8)]) (rest := []) ⟨hx, hb, hml, hown, hts⟩ (sx_X10_addDip_r l G ad c I  k1 a2 (I 0 0) (I 30 8) hk1 h10 hS0 _) (cwV 3 hts gX11_dip_X10_addDip rfl rfl rfl (by decide +kernel) ⟨Nat.le_of_ble_eq_true rfl, Nat.le_of_ble_eq_true rfl⟩) (z_preV (i := (100 + 8 * k1)) hK hW (z_ss0 hk1 h10) rfl) rfl rfl hl.1 rfl (lv_room (Nat.le_of_ble_eq_true rfl)) dX11_dip_35 ⟨Nat.le_of_ble_eq_true rfl, Nat.le_of_ble_eq_true rfl⟩) (fun r u1 H locs hp hW hS => ?_)
      obtain ⟨I11, e9, fI11, SI11, hp⟩ := hp
      rw [e9] at hW
      have f12 := z_fr_sub (L := L_X11_dip_r) z_fr_0 fI11 (by decide)
      have k13 : 0 ≤ (I11 0 0).toInt ∧ (I11 0 0).toInt ≤ 719 := by rw [fI11 0 0 (by decide)]; exact (by show 0 ≤ (I 0 0).toInt ∧ (I 0 0).toInt ≤ 719; exact hB.1)
      have k14 : 0 ≤ (I11 0 8).toInt ∧ (I11 0 8).toInt ≤ 10 := by rw [fI11 0 8 (by decide)]; exact (by show 0 ≤ (I 0 8).toInt ∧ (I 0 8).toInt ≤ 10; exact hB.2)
      have k15 : 0 ≤ (I11 30 8).toInt ∧ (I11 30 8).toInt ≤ 300 := by rw [fI11 30 8 (by decide)]; exact (by show 0 ≤ (I 30 8).toInt ∧ (I 30 8).toInt ≤ 300; exact hP)
      refine lv_topi (fun x16 ex16 => ?_)
      rw [← ex16] at hp
      rcases hp with ⟨h17, h18, h19⟩ | ⟨h17, h18, h19⟩
      · exact z_iret hx hb hr hK hS (Nat.le_of_ble_eq_true rfl) (Nat.le_of_ble_eq_true rfl) hlocks dX11_dip_38 (shC c, ad, I11, JX, PC c ad) hW ⟨I11, rfl, ⟨(by show 0 ≤ (I11 0 0).toInt ∧ (I11 0 0).toInt ≤ 719; exact k13), (by show 0 ≤ (I11 0 8).toInt ∧ (I11 0 8).toInt ≤ 10; exact k14)⟩, (by show 0 ≤ (I11 30 8).toInt ∧ (I11 30 8).toInt ≤ 300; exact k15), f12, SI11, Or.inl ⟨by rw [ek1]; omega, by rw [ek1]; exact h18, by rw [ek1]; exact h19⟩⟩
      · exact z_iret hx hb hr hK hS (Nat.le_of_ble_eq_true rfl) (Nat.le_of_ble_eq_true rfl) hlocks dX11_dip_38 (shC c, ad, I11, JX, PC c ad) hW ⟨I11, rfl, ⟨(by show 0 ≤ (I11 0 0).toInt ∧ (I11 0 0).toInt ≤ 719; exact k13), (by show 0 ≤ (I11 0 8).toInt ∧ (I11 0 8).toInt ≤ 10; exact k14)⟩, (by show 0 ≤ (I11 30 8).toInt ∧ (I11 30 8).toInt ≤ 300; exact k15), f12, SI11, Or.inr ⟨by rw [ek1]; omega, h18, h19⟩⟩
    · have h20 := h4
      have z21 := z_l0
      have z22 := z_l200000
      refine lv_if_ne (tgt := 22) hx hb dX11_dip_17 (by decide) (fun c23 => absurd (by decide) c23) (fun c23 => ?_)
      refine lv_iconst (v := (-1)) hx hb dX11_dip_20 (by decide) ?_
      exact z_iret hx hb hr hK hS (Nat.le_of_ble_eq_true rfl) (Nat.le_of_ble_eq_true rfl) hlocks dX11_dip_21 (shC c, ad, I, JX, PC c ad) hW ⟨I, rfl, ⟨(by show 0 ≤ (I 0 0).toInt ∧ (I 0 0).toInt ≤ 719; exact hB.1), (by show 0 ≤ (I 0 8).toInt ∧ (I 0 8).toInt ≤ 10; exact hB.2)⟩, (by show 0 ≤ (I 30 8).toInt ∧ (I 30 8).toInt ≤ 300; exact hP), z_fr_0, hS0, Or.inr ⟨by omega, by decide, z_sk_0⟩⟩
noncomputable def L_X12_deliver_r : z_L := [(45, 999), (46, 999), (43, 999), (44, 999), (0, 56)]
set_option maxHeartbeats 8000000 in
set_option maxRecDepth 100000 in
theorem sx_X12_deliver_r (l : Launch) (G : z_G) (ad : Nat → Nat) (I : z_I) (J : z_J) (hms : z_ims I) (hAgm : z_rg 43 0 30 I) (a1 : Int32) (a2 : Int32) : z_M l yX12_deliver wsX12_deliver { frames := 2, cells := 0, slots := 0, locals := 34 } [.ref (ad 0), .int a1, .int a2] G (shM, ad, I, J, PM ad) (fun r u1 => ∃ (I1 : z_I) (J1 : z_J), u1 = (shM, ad, I1, J1, PM ad) ∧ z_ims I1 ∧ z_rg 43 0 30 I1 ∧ z_fr L_X12_deliver_r I1 I ∧ (((0 ≤ a1.toInt ∧ a1.toInt < (I 0 54).toInt ∧ 1 ≤ a2.toInt ∧ a2.toInt ≤ 100000 ∧ ¬ (I 43 a1.toNatClampNeg).toInt = 30) ∧ r = (I 44 a1.toNatClampNeg) + a2 ∧ (∀ j, I1 43 j = if j = a1.toNatClampNeg then (I 43 a1.toNatClampNeg) + 1 else I 43 j) ∧ (∀ j, I1 44 j = if j = a1.toNatClampNeg then (I 44 a1.toNatClampNeg) + a2 else I 44 j)) ∨ (¬ (0 ≤ a1.toInt ∧ a1.toInt < (I 0 54).toInt ∧ 1 ≤ a2.toInt ∧ a2.toInt ≤ 100000 ∧ ¬ (I 43 a1.toNatClampNeg).toInt = 30) ∧ r = -1 ∧ (∀ j, I1 43 j = I 43 j) ∧ (∀ j, I1 44 j = I 44 j)))) 0 0 := by
  intro sz
  refine z_headQ (cc := cX12_deliver) (maxL := 3) (ret := (some .int)) (by decide) rfl (Nat.le_of_ble_eq_true rfl) ?_
  intro p e s m below meth c0 ls hIn hK hsz hW hl
  obtain ⟨hx, hb, hr, hml, hown, hts, hlocks, hname⟩ := hIn
  subst hsz
  have hown : s.vm.findClass RX12 = some m.cls := hown
  have hA : ∀ q : Nat, s.heap.size ≤ q → z_A (shM, ad, I, J, PM ad) s.heap.size q := fun q h => Or.inr h
  generalize hAe : z_A (shM, ad, I, J, PM ad) s.heap.size = A at *
  have hS : va_S A s.heap s.heap [] := va_S.rf
  have hl : lv_has ls 3 [(0, .ref (ad 0)), (1, .int a1), (2, .int a2)] := hl
  refine lv_aload_n hx hb dX12_deliver_0 rfl (lv_at hl 0 rfl) ?_
  refine lv_iload_n hx hb dX12_deliver_1 rfl (lv_at hl 1 rfl) ?_
  refine z_ci hW hS hA (va_runV (As := [.int a1]) (rest := []) ⟨hx, hb, hml, hown, hts⟩ (sx_X12_isStation_e l G ad I J ⟨(by show 0 ≤ (I 0 54).toInt ∧ (I 0 54).toInt ≤ 10; exact hms.1), (by show 0 ≤ (I 0 55).toInt ∧ (I 0 55).toInt ≤ 300; exact hms.2)⟩ a1 _) (cwV 1 hts gX12_deliver_X12_isStation rfl rfl rfl (by decide +kernel) ⟨Nat.le_of_ble_eq_true rfl, Nat.le_of_ble_eq_true rfl⟩) (z_preV (i := 0) hK hW rfl rfl) rfl rfl hl.1 rfl (lv_room (Nat.le_of_ble_eq_true rfl)) dX12_deliver_2 ⟨Nat.le_of_ble_eq_true rfl, Nat.le_of_ble_eq_true rfl⟩) (fun r u1 H locs hp hW hS => ?_)
  obtain ⟨e9, hp⟩ := hp
  rw [e9] at hW
  rcases hp with ⟨rfl, h1⟩ | ⟨rfl, h1⟩
  · have h2 := h1
    have r3 : 0 ≤ (I 0 54).toInt ∧ (I 0 54).toInt ≤ 10 := hms.1
    refine lv_if_eq (tgt := 29) hx hb dX12_deliver_5 (by decide) (fun c4 => absurd c4 (by decide)) (fun c4 => ?_)
    refine lv_iload_n hx hb dX12_deliver_8 rfl (lv_at hl 2 rfl) ?_
    refine lv_iconst (v := 1) hx hb dX12_deliver_9 (by decide) ?_
    refine lv_ldc (v := 100000) hx hb hown (hts (.constant RX12 113 (100000)) (me_s (me_l (List.mem_of_getElem? (i := 0) rfl)))) dX12_deliver_10 ?_
    refine z_ci hW hS hA (va_runS (As := [.int a2, .int 1, .int 100000]) (rest := []) ⟨hx, hb, hml, hown, hts⟩ (sx_X12_within_e l G ad I J  a2 1 100000 _) (va_cwS 3 hts gX12_deliver_X12_within rfl rfl rfl (by decide +kernel) ⟨Nat.le_of_ble_eq_true rfl, Nat.le_of_ble_eq_true rfl⟩) (z_preS hK hW) rfl rfl hl.1 rfl (lv_room (Nat.le_of_ble_eq_true rfl)) dX12_deliver_12 ⟨Nat.le_of_ble_eq_true rfl, Nat.le_of_ble_eq_true rfl⟩) (fun r u1 H locs hp hW hS => ?_)
    obtain ⟨e9, hp⟩ := hp
    rw [e9] at hW
    rcases hp with ⟨rfl, h5⟩ | ⟨rfl, h5⟩
    · have h6 := h5
      have z7 := z_l1
      have z8 := z_l100000
      refine lv_if_eq (tgt := 29) hx hb dX12_deliver_15 (by decide) (fun c9 => absurd c9 (by decide)) (fun c9 => ?_)
      refine lv_aload_n hx hb dX12_deliver_18 rfl (lv_at hl 0 rfl) ?_
      refine z_get (T := TX12) (N := 96) (ci := 12) (i := 0) (v := .ref (ad 43)) hx hb hts zj_X12_deliver_X12 hown hK hW rfl rfl 66 (by decide) (hts (.fieldLink RX12 145 "PetrolBoardModel" "givenMany" "[I") (me_s (me_l (List.mem_of_getElem? (i := 1) rfl)))) (fun _ h => h) rfl dX12_deliver_19 ?_
      refine lv_iload_n hx hb dX12_deliver_22 rfl (lv_at hl 1 rfl) ?_
      refine z_iald (i := 43) hx hb hK hW rfl (z_ix rfl (by omega) (by omega)) dX12_deliver_23 ?_
      refine lv_topi (fun x10 ex10 => ?_)
      have h11 : 0 ≤ x10.toInt ∧ x10.toInt ≤ 30 := by rw [ex10]; exact hAgm _
      refine lv_bipush (v := 30) hx hb dX12_deliver_24 (by decide) ?_
      refine lv_icmp_ne (tgt := 31) hx hb dX12_deliver_26 (by decide) (fun c12 => ?_) (fun c12 => ?_)
      · have g13 := z_f_ne rfl z_l30 c12
        refine lv_aload_n hx hb dX12_deliver_31 rfl (lv_at hl 0 rfl) ?_
        refine z_get (T := TX12) (N := 96) (ci := 12) (i := 0) (v := .ref (ad 45)) hx hb hts zj_X12_deliver_X12 hown hK hW rfl rfl 68 (by decide) (hts (.fieldLink RX12 151 "PetrolBoardModel" "given" "[I") (me_s (me_l (List.mem_of_getElem? (i := 2) rfl)))) (fun _ h => h) rfl dX12_deliver_32 ?_
        refine lv_bipush (v := 30) hx hb dX12_deliver_35 (by decide) ?_
        refine lv_iload_n hx hb dX12_deliver_37 rfl (lv_at hl 1 rfl) ?_
        refine lv_imul hx hb dX12_deliver_38 ?_
        refine lv_topi (fun x14 ex14 => ?_)
        have tx14 : x14.toInt = 30 * a1.toInt := z_tmul ex14 z_l30 rfl (by omega) (by omega)
        refine lv_aload_n hx hb dX12_deliver_39 rfl (lv_at hl 0 rfl) ?_
        refine z_get (T := TX12) (N := 96) (ci := 12) (i := 0) (v := .ref (ad 43)) hx hb hts zj_X12_deliver_X12 hown hK hW rfl rfl 66 (by decide) (hts (.fieldLink RX12 145 "PetrolBoardModel" "givenMany" "[I") (me_s (me_l (List.mem_of_getElem? (i := 1) rfl)))) (fun _ h => h) rfl dX12_deliver_40 ?_
        refine lv_iload_n hx hb dX12_deliver_43 rfl (lv_at hl 1 rfl) ?_
        refine z_iald (i := 43) hx hb hK hW rfl (z_ix rfl (by omega) (by omega)) dX12_deliver_44 ?_
        refine z_topi (v := x10) ex10.symm ?_
        refine lv_iadd hx hb dX12_deliver_45 ?_
        refine lv_topi (fun x15 ex15 => ?_)
        have tx15 : x15.toInt = x14.toInt + x10.toInt := z_tadd ex15 rfl rfl (by omega) (by omega)
        refine lv_iload_n hx hb dX12_deliver_46 rfl (lv_at hl 2 rfl) ?_
        refine z_iast (i := 45) hx hb hK hW hS rfl (z_ix rfl (by omega) (by omega)) dX12_deliver_47 (fun H locs hz1 hW hS => ?_)
        obtain ⟨I16, eI16⟩ : ∃ K : z_I, K = z_up I 45 x15.toNatClampNeg a2 := ⟨_, rfl⟩
        rw [← eI16] at hW
        have f17 := z_fr_a z_fr_0 (show z_wa L_X12_deliver_r 45 = true by decide) eI16
        have a18 := z_rg_n hAgm (by decide) eI16
        refine lv_aload_n hx hb dX12_deliver_48 rfl (lv_at hl 0 rfl) ?_
        refine z_get (T := TX12) (N := 96) (ci := 12) (i := 0) (v := .ref (ad 46)) hx hb hts zj_X12_deliver_X12 hown hK hW rfl rfl 69 (by decide) (hts (.fieldLink RX12 154 "PetrolBoardModel" "givenCome" "[I") (me_s (me_l (List.mem_of_getElem? (i := 3) rfl)))) (fun _ h => h) rfl dX12_deliver_49 ?_
        refine lv_bipush (v := 30) hx hb dX12_deliver_52 (by decide) ?_
        refine lv_iload_n hx hb dX12_deliver_54 rfl (lv_at hl 1 rfl) ?_
        refine lv_imul hx hb dX12_deliver_55 ?_
        refine lv_topi (fun x19 ex19 => ?_)
        have tx19 : x19.toInt = 30 * a1.toInt := z_tmul ex19 z_l30 rfl (by omega) (by omega)
        refine lv_aload_n hx hb dX12_deliver_56 rfl (lv_at hl 0 rfl) ?_
        refine z_get (T := TX12) (N := 96) (ci := 12) (i := 0) (v := .ref (ad 43)) hx hb hts zj_X12_deliver_X12 hown hK hW rfl rfl 66 (by decide) (hts (.fieldLink RX12 145 "PetrolBoardModel" "givenMany" "[I") (me_s (me_l (List.mem_of_getElem? (i := 1) rfl)))) (fun _ h => h) rfl dX12_deliver_57 ?_
        refine lv_iload_n hx hb dX12_deliver_60 rfl (lv_at hl 1 rfl) ?_
        refine z_iald (i := 43) hx hb hK hW rfl (z_ix rfl (by omega) (by omega)) dX12_deliver_61 ?_
        refine z_topi (v := x10) (by rw [eI16, z_up_n (by decide)]; exact ex10.symm) ?_
        refine lv_iadd hx hb dX12_deliver_62 ?_
        refine lv_topi (fun x20 ex20 => ?_)
        have tx20 : x20.toInt = x19.toInt + x10.toInt := z_tadd ex20 rfl rfl (by omega) (by omega)
        refine lv_aload_n hx hb dX12_deliver_63 rfl (lv_at hl 0 rfl) ?_
        refine z_get (T := TX12) (N := 96) (ci := 12) (i := 0) (v := .int (I 0 56)) hx hb hts zj_X12_deliver_X12 hown hK hW rfl rfl 56 (by decide) (hts (.fieldLink RX12 471 "PetrolBoardModel" "comes" "I") (me_s (me_l (List.mem_of_getElem? (i := 4) rfl)))) (fun _ h => h) (congrArg Value.int (by rw [eI16, z_up_n (by decide)])) dX12_deliver_64 ?_
        refine z_iast (i := 46) hx hb hK hW hS rfl (z_ix rfl (by omega) (by omega)) dX12_deliver_67 (fun H locs hz1 hW hS => ?_)
        obtain ⟨I21, eI21⟩ : ∃ K : z_I, K = z_up I16 46 x20.toNatClampNeg (I 0 56) := ⟨_, rfl⟩
        rw [← eI21] at hW
        have f22 := z_fr_a f17 (show z_wa L_X12_deliver_r 46 = true by decide) eI21
        have a23 := z_rg_n a18 (by decide) eI21
        refine lv_aload_n hx hb dX12_deliver_68 rfl (lv_at hl 0 rfl) ?_
        refine lv_dup hx hb dX12_deliver_69 rfl ?_
        refine z_get (T := TX12) (N := 96) (ci := 12) (i := 0) (v := .int (I 0 56)) hx hb hts zj_X12_deliver_X12 hown hK hW rfl rfl 56 (by decide) (hts (.fieldLink RX12 471 "PetrolBoardModel" "comes" "I") (me_s (me_l (List.mem_of_getElem? (i := 4) rfl)))) (fun _ h => h) (congrArg Value.int (by rw [eI21, z_up_n (by decide), eI16, z_up_n (by decide)])) dX12_deliver_70 ?_
        refine lv_iconst (v := 1) hx hb dX12_deliver_73 (by decide) ?_
        refine lv_iadd hx hb dX12_deliver_74 ?_
        refine lv_topi (fun x24 ex24 => ?_)
        refine z_put (T := TX12) (N := 96) (ci := 12) (i := 0) (v := .int x24) (I1 := z_up I21 0 56 x24) (J1 := J) (P1 := PM ad) hx hb hts zj_X12_deliver_X12 tyX12 tyX12_ok nmX12 hown hK hW hS rfl rfl 56 (by decide) (hts (.fieldLink RX12 471 "PetrolBoardModel" "comes" "I") (me_s (me_l (List.mem_of_getElem? (i := 4) rfl)))) (fun _ h => h) rfl rfl rfl (by first | rfl | exact congrArg _ z_up_s) (fun a b h ty => z_vI h ty) dX12_deliver_75 (fun H locs hz1 hW hS => ?_)
        obtain ⟨I25, eI25⟩ : ∃ K : z_I, K = z_up I21 0 56 x24 := ⟨_, rfl⟩
        rw [← eI25] at hW
        have f26 := z_fr_k f22 (show z_wr L_X12_deliver_r 0 56 = true by decide) eI25
        have a27 := z_rg_n a23 (by decide) eI25
        refine lv_aload_n hx hb dX12_deliver_78 rfl (lv_at hl 0 rfl) ?_
        refine z_get (T := TX12) (N := 96) (ci := 12) (i := 0) (v := .ref (ad 43)) hx hb hts zj_X12_deliver_X12 hown hK hW rfl rfl 66 (by decide) (hts (.fieldLink RX12 145 "PetrolBoardModel" "givenMany" "[I") (me_s (me_l (List.mem_of_getElem? (i := 1) rfl)))) (fun _ h => h) rfl dX12_deliver_79 ?_
        refine lv_iload_n hx hb dX12_deliver_82 rfl (lv_at hl 1 rfl) ?_
        refine lv_dup2_11 hx hb dX12_deliver_83 rfl rfl ?_
        refine z_iald (i := 43) hx hb hK hW rfl (z_ix rfl (by omega) (by omega)) dX12_deliver_84 ?_
        refine z_topi (v := x10) (by rw [eI25, z_up_n (by decide), eI21, z_up_n (by decide), eI16, z_up_n (by decide)]; exact ex10.symm) ?_
        refine lv_iconst (v := 1) hx hb dX12_deliver_85 (by decide) ?_
        refine lv_iadd hx hb dX12_deliver_86 ?_
        refine lv_topi (fun x28 ex28 => ?_)
        have tx28 : x28.toInt = x10.toInt + 1 := z_tadd ex28 rfl z_l1 (by omega) (by omega)
        refine z_iast (i := 43) hx hb hK hW hS rfl (z_ix rfl (by omega) (by omega)) dX12_deliver_87 (fun H locs hz1 hW hS => ?_)
        obtain ⟨I29, eI29⟩ : ∃ K : z_I, K = z_up I25 43 a1.toNatClampNeg x28 := ⟨_, rfl⟩
        rw [← eI29] at hW
        have f30 := z_fr_a f26 (show z_wa L_X12_deliver_r 43 = true by decide) eI29
        have a31 := z_rg_a a27 (by omega) eI29
        refine lv_aload_n hx hb dX12_deliver_88 rfl (lv_at hl 0 rfl) ?_
        refine z_get (T := TX12) (N := 96) (ci := 12) (i := 0) (v := .ref (ad 44)) hx hb hts zj_X12_deliver_X12 hown hK hW rfl rfl 67 (by decide) (hts (.fieldLink RX12 148 "PetrolBoardModel" "givenSum" "[I") (me_s (me_l (List.mem_of_getElem? (i := 5) rfl)))) (fun _ h => h) rfl dX12_deliver_89 ?_
        refine lv_iload_n hx hb dX12_deliver_92 rfl (lv_at hl 1 rfl) ?_
        refine lv_dup2_11 hx hb dX12_deliver_93 rfl rfl ?_
        refine z_iald (i := 44) hx hb hK hW rfl (z_ix rfl (by omega) (by omega)) dX12_deliver_94 ?_
        refine lv_topi (fun x32 ex32 => ?_)
        refine lv_iload_n hx hb dX12_deliver_95 rfl (lv_at hl 2 rfl) ?_
        refine lv_iadd hx hb dX12_deliver_96 ?_
        refine lv_topi (fun x33 ex33 => ?_)
        refine z_iast (i := 44) hx hb hK hW hS rfl (z_ix rfl (by omega) (by omega)) dX12_deliver_97 (fun H locs hz1 hW hS => ?_)
        obtain ⟨I34, eI34⟩ : ∃ K : z_I, K = z_up I29 44 a1.toNatClampNeg x33 := ⟨_, rfl⟩
        rw [← eI34] at hW
        have f35 := z_fr_a f30 (show z_wa L_X12_deliver_r 44 = true by decide) eI34
        have a36 := z_rg_n a31 (by decide) eI34
        refine lv_aload_n hx hb dX12_deliver_98 rfl (lv_at hl 0 rfl) ?_
        refine z_get (T := TX12) (N := 96) (ci := 12) (i := 0) (v := .ref (ad 44)) hx hb hts zj_X12_deliver_X12 hown hK hW rfl rfl 67 (by decide) (hts (.fieldLink RX12 148 "PetrolBoardModel" "givenSum" "[I") (me_s (me_l (List.mem_of_getElem? (i := 5) rfl)))) (fun _ h => h) rfl dX12_deliver_99 ?_
        refine lv_iload_n hx hb dX12_deliver_102 rfl (lv_at hl 1 rfl) ?_
        refine z_iald (i := 44) hx hb hK hW rfl (z_ix rfl (by omega) (by omega)) dX12_deliver_103 ?_
        refine z_topi (v := x33) (by rw [eI34, z_up_s]) ?_
        exact z_iret hx hb hr hK hS (Nat.le_of_ble_eq_true rfl) (Nat.le_of_ble_eq_true rfl) hlocks dX12_deliver_104 (shM, ad, I34, J, PM ad) hW ⟨I34, J, rfl, ⟨(by show 0 ≤ (I34 0 54).toInt ∧ (I34 0 54).toInt ≤ 10; rw [eI34, z_up_n (by decide), eI29, z_up_n (by decide), eI25, z_up_k (by decide), eI21, z_up_n (by decide), eI16, z_up_n (by decide)]; exact hms.1), (by show 0 ≤ (I34 0 55).toInt ∧ (I34 0 55).toInt ≤ 300; rw [eI34, z_up_n (by decide), eI29, z_up_n (by decide), eI25, z_up_k (by decide), eI21, z_up_n (by decide), eI16, z_up_n (by decide)]; exact hms.2)⟩, a36, f35, (Or.inl ⟨(by have := congrArg Int32.toInt ex10; have := congrArg Int32.toInt ex32; omega), (by rw [ex33, ex32, eI29, z_up_n (by decide), eI25, z_up_n (by decide), eI21, z_up_n (by decide), eI16, z_up_n (by decide)]), (fun j => by rw [eI34, z_up_n (by decide), eI29, z_up_j, eI25, z_up_n (by decide), eI21, z_up_n (by decide), eI16, z_up_n (by decide), ex28, ex10]), (fun j => by rw [eI34, z_up_j, eI29, z_up_n (by decide), eI25, z_up_n (by decide), eI21, z_up_n (by decide), eI16, z_up_n (by decide), ex33, ex32, eI29, z_up_n (by decide), eI25, z_up_n (by decide), eI21, z_up_n (by decide), eI16, z_up_n (by decide)])⟩)⟩
      · have g37 := z_f_eq rfl z_l30 c12
        refine lv_iconst (v := (-1)) hx hb dX12_deliver_29 (by decide) ?_
        exact z_iret hx hb hr hK hS (Nat.le_of_ble_eq_true rfl) (Nat.le_of_ble_eq_true rfl) hlocks dX12_deliver_30 (shM, ad, I, J, PM ad) hW ⟨I, J, rfl, ⟨(by show 0 ≤ (I 0 54).toInt ∧ (I 0 54).toInt ≤ 10; exact hms.1), (by show 0 ≤ (I 0 55).toInt ∧ (I 0 55).toInt ≤ 300; exact hms.2)⟩, hAgm, z_fr_0, (Or.inr ⟨(by have := congrArg Int32.toInt ex10; omega), rfl, (fun j => rfl), (fun j => rfl)⟩)⟩
    · have h38 := h5
      have z39 := z_l1
      have z40 := z_l100000
      refine lv_if_eq (tgt := 29) hx hb dX12_deliver_15 (by decide) (fun c41 => ?_) (fun c41 => absurd (by decide) c41)
      refine lv_iconst (v := (-1)) hx hb dX12_deliver_29 (by decide) ?_
      exact z_iret hx hb hr hK hS (Nat.le_of_ble_eq_true rfl) (Nat.le_of_ble_eq_true rfl) hlocks dX12_deliver_30 (shM, ad, I, J, PM ad) hW ⟨I, J, rfl, ⟨(by show 0 ≤ (I 0 54).toInt ∧ (I 0 54).toInt ≤ 10; exact hms.1), (by show 0 ≤ (I 0 55).toInt ∧ (I 0 55).toInt ≤ 300; exact hms.2)⟩, hAgm, z_fr_0, (Or.inr ⟨(by omega), rfl, (fun j => rfl), (fun j => rfl)⟩)⟩
  · have h42 := h1
    have r43 : 0 ≤ (I 0 54).toInt ∧ (I 0 54).toInt ≤ 10 := hms.1
    refine lv_if_eq (tgt := 29) hx hb dX12_deliver_5 (by decide) (fun c44 => ?_) (fun c44 => absurd (by decide) c44)
    refine lv_iconst (v := (-1)) hx hb dX12_deliver_29 (by decide) ?_
    exact z_iret hx hb hr hK hS (Nat.le_of_ble_eq_true rfl) (Nat.le_of_ble_eq_true rfl) hlocks dX12_deliver_30 (shM, ad, I, J, PM ad) hW ⟨I, J, rfl, ⟨(by show 0 ≤ (I 0 54).toInt ∧ (I 0 54).toInt ≤ 10; exact hms.1), (by show 0 ≤ (I 0 55).toInt ∧ (I 0 55).toInt ≤ 300; exact hms.2)⟩, hAgm, z_fr_0, (Or.inr ⟨(by omega), rfl, (fun j => rfl), (fun j => rfl)⟩)⟩
noncomputable def L_X12_dip_r : z_L := [(48, 999), (49, 999), (50, 999), (47, 999), (0, 56)]
set_option maxHeartbeats 8000000 in
set_option maxRecDepth 100000 in
theorem sx_X12_dip_r (l : Launch) (G : z_G) (ad : Nat → Nat) (I : z_I) (J : z_J) (hms : z_ims I) (hAdm : z_rg 47 0 30 I) (hma : z_ima I) (a1 : Int32) (a2 : Int32) : z_M l yX12_dip wsX12_dip { frames := 2, cells := 0, slots := 0, locals := 34 } [.ref (ad 0), .int a1, .int a2] G (shM, ad, I, J, PM ad) (fun r u1 => ∃ (I1 : z_I) (J1 : z_J), u1 = (shM, ad, I1, J1, PM ad) ∧ z_ims I1 ∧ z_rg 47 0 30 I1 ∧ z_ima I1 ∧ z_fr L_X12_dip_r I1 I ∧ (((0 ≤ a1.toInt ∧ a1.toInt < (I 0 54).toInt ∧ 0 ≤ a2.toInt ∧ a2.toInt ≤ 200000 ∧ ¬ (I 47 a1.toNatClampNeg).toInt = 30) ∧ r.toInt = (I 47 a1.toNatClampNeg).toInt ∧ (∀ j, I1 47 j = if j = a1.toNatClampNeg then (I 47 a1.toNatClampNeg) + 1 else I 47 j)) ∨ (¬ (0 ≤ a1.toInt ∧ a1.toInt < (I 0 54).toInt ∧ 0 ≤ a2.toInt ∧ a2.toInt ≤ 200000 ∧ ¬ (I 47 a1.toNatClampNeg).toInt = 30) ∧ r.toInt = -1 ∧ (∀ j, I1 47 j = I 47 j)))) 0 0 := by
  intro sz
  refine z_headQ (cc := cX12_dip) (maxL := 4) (ret := (some .int)) (by decide) rfl (Nat.le_of_ble_eq_true rfl) ?_
  intro p e s m below meth c0 ls hIn hK hsz hW hl
  obtain ⟨hx, hb, hr, hml, hown, hts, hlocks, hname⟩ := hIn
  subst hsz
  have hown : s.vm.findClass RX12 = some m.cls := hown
  have hA : ∀ q : Nat, s.heap.size ≤ q → z_A (shM, ad, I, J, PM ad) s.heap.size q := fun q h => Or.inr h
  generalize hAe : z_A (shM, ad, I, J, PM ad) s.heap.size = A at *
  have hS : va_S A s.heap s.heap [] := va_S.rf
  have hl : lv_has ls 4 [(0, .ref (ad 0)), (1, .int a1), (2, .int a2)] := hl
  refine lv_aload_n hx hb dX12_dip_0 rfl (lv_at hl 0 rfl) ?_
  refine lv_iload_n hx hb dX12_dip_1 rfl (lv_at hl 1 rfl) ?_
  refine z_ci hW hS hA (va_runV (As := [.int a1]) (rest := []) ⟨hx, hb, hml, hown, hts⟩ (sx_X12_isStation_e l G ad I J ⟨(by show 0 ≤ (I 0 54).toInt ∧ (I 0 54).toInt ≤ 10; exact hms.1), (by show 0 ≤ (I 0 55).toInt ∧ (I 0 55).toInt ≤ 300; exact hms.2)⟩ a1 _) (cwV 1 hts gX12_dip_X12_isStation rfl rfl rfl (by decide +kernel) ⟨Nat.le_of_ble_eq_true rfl, Nat.le_of_ble_eq_true rfl⟩) (z_preV (i := 0) hK hW rfl rfl) rfl rfl hl.1 rfl (lv_room (Nat.le_of_ble_eq_true rfl)) dX12_dip_2 ⟨Nat.le_of_ble_eq_true rfl, Nat.le_of_ble_eq_true rfl⟩) (fun r u1 H locs hp hW hS => ?_)
  obtain ⟨e9, hp⟩ := hp
  rw [e9] at hW
  rcases hp with ⟨rfl, h1⟩ | ⟨rfl, h1⟩
  · have h2 := h1
    have r3 : 0 ≤ (I 0 54).toInt ∧ (I 0 54).toInt ≤ 10 := hms.1
    refine lv_if_eq (tgt := 30) hx hb dX12_dip_5 (by decide) (fun c4 => absurd c4 (by decide)) (fun c4 => ?_)
    refine lv_iload_n hx hb dX12_dip_8 rfl (lv_at hl 2 rfl) ?_
    refine lv_iconst (v := 0) hx hb dX12_dip_9 (by decide) ?_
    refine lv_ldcw (v := 200000) hx hb hown (hts (.constant RX12 477 (200000)) (me_s (me_l (List.mem_of_getElem? (i := 0) rfl)))) dX12_dip_10 ?_
    refine z_ci hW hS hA (va_runS (As := [.int a2, .int 0, .int 200000]) (rest := []) ⟨hx, hb, hml, hown, hts⟩ (sx_X12_within_e l G ad I J  a2 0 200000 _) (va_cwS 3 hts gX12_dip_X12_within rfl rfl rfl (by decide +kernel) ⟨Nat.le_of_ble_eq_true rfl, Nat.le_of_ble_eq_true rfl⟩) (z_preS hK hW) rfl rfl hl.1 rfl (lv_room (Nat.le_of_ble_eq_true rfl)) dX12_dip_13 ⟨Nat.le_of_ble_eq_true rfl, Nat.le_of_ble_eq_true rfl⟩) (fun r u1 H locs hp hW hS => ?_)
    obtain ⟨e9, hp⟩ := hp
    rw [e9] at hW
    rcases hp with ⟨rfl, h5⟩ | ⟨rfl, h5⟩
    · have h6 := h5
      have z7 := z_l0
      have z8 := z_l200000
      refine lv_if_eq (tgt := 30) hx hb dX12_dip_16 (by decide) (fun c9 => absurd c9 (by decide)) (fun c9 => ?_)
      refine lv_aload_n hx hb dX12_dip_19 rfl (lv_at hl 0 rfl) ?_
      refine z_get (T := TX12) (N := 96) (ci := 12) (i := 0) (v := .ref (ad 47)) hx hb hts zj_X12_dip_X12 hown hK hW rfl rfl 70 (by decide) (hts (.fieldLink RX12 157 "PetrolBoardModel" "dipMany" "[I") (me_s (me_l (List.mem_of_getElem? (i := 1) rfl)))) (fun _ h => h) rfl dX12_dip_20 ?_
      refine lv_iload_n hx hb dX12_dip_23 rfl (lv_at hl 1 rfl) ?_
      refine z_iald (i := 47) hx hb hK hW rfl (z_ix rfl (by omega) (by omega)) dX12_dip_24 ?_
      refine lv_topi (fun x10 ex10 => ?_)
      have h11 : 0 ≤ x10.toInt ∧ x10.toInt ≤ 30 := by rw [ex10]; exact hAdm _
      refine lv_bipush (v := 30) hx hb dX12_dip_25 (by decide) ?_
      refine lv_icmp_ne (tgt := 32) hx hb dX12_dip_27 (by decide) (fun c12 => ?_) (fun c12 => ?_)
      · have g13 := z_f_ne rfl z_l30 c12
        refine lv_bipush (v := 30) hx hb dX12_dip_32 (by decide) ?_
        refine lv_iload_n hx hb dX12_dip_34 rfl (lv_at hl 1 rfl) ?_
        refine lv_imul hx hb dX12_dip_35 ?_
        refine lv_topi (fun x14 ex14 => ?_)
        have tx14 : x14.toInt = 30 * a1.toInt := z_tmul ex14 z_l30 rfl (by omega) (by omega)
        refine lv_aload_n hx hb dX12_dip_36 rfl (lv_at hl 0 rfl) ?_
        refine z_get (T := TX12) (N := 96) (ci := 12) (i := 0) (v := .ref (ad 47)) hx hb hts zj_X12_dip_X12 hown hK hW rfl rfl 70 (by decide) (hts (.fieldLink RX12 157 "PetrolBoardModel" "dipMany" "[I") (me_s (me_l (List.mem_of_getElem? (i := 1) rfl)))) (fun _ h => h) rfl dX12_dip_37 ?_
        refine lv_iload_n hx hb dX12_dip_40 rfl (lv_at hl 1 rfl) ?_
        refine z_iald (i := 47) hx hb hK hW rfl (z_ix rfl (by omega) (by omega)) dX12_dip_41 ?_
        refine z_topi (v := x10) ex10.symm ?_
        refine lv_iadd hx hb dX12_dip_42 ?_
        refine lv_topi (fun x15 ex15 => ?_)
        have tx15 : x15.toInt = x14.toInt + x10.toInt := z_tadd ex15 rfl rfl (by omega) (by omega)
        refine lv_istore_n (lv' := [(3, .int x15), (0, .ref (ad 0)), (1, .int a1), (2, .int a2)]) hx hb dX12_dip_43 rfl hl (by decide) rfl (fun ls hl => ?_)
        refine lv_aload_n hx hb dX12_dip_44 rfl (lv_at hl 1 rfl) ?_
        refine z_get (T := TX12) (N := 96) (ci := 12) (i := 0) (v := .ref (ad 48)) hx hb hts zj_X12_dip_X12 hown hK hW rfl rfl 71 (by decide) (hts (.fieldLink RX12 160 "PetrolBoardModel" "dipTold" "[I") (me_s (me_l (List.mem_of_getElem? (i := 2) rfl)))) (fun _ h => h) rfl dX12_dip_45 ?_
        refine lv_iload_n hx hb dX12_dip_48 rfl (lv_at hl 0 rfl) ?_
        refine lv_iload_n hx hb dX12_dip_49 rfl (lv_at hl 3 rfl) ?_
        refine z_iast (i := 48) hx hb hK hW hS rfl (z_ix rfl (by omega) (by omega)) dX12_dip_50 (fun H locs hz1 hW hS => ?_)
        obtain ⟨I16, eI16⟩ : ∃ K : z_I, K = z_up I 48 x15.toNatClampNeg a2 := ⟨_, rfl⟩
        rw [← eI16] at hW
        have f17 := z_fr_a z_fr_0 (show z_wa L_X12_dip_r 48 = true by decide) eI16
        have a18 := z_rg_n hAdm (by decide) eI16
        refine lv_aload_n hx hb dX12_dip_51 rfl (lv_at hl 1 rfl) ?_
        refine z_get (T := TX12) (N := 96) (ci := 12) (i := 0) (v := .ref (ad 49)) hx hb hts zj_X12_dip_X12 hown hK hW rfl rfl 72 (by decide) (hts (.fieldLink RX12 163 "PetrolBoardModel" "dipDay" "[I") (me_s (me_l (List.mem_of_getElem? (i := 3) rfl)))) (fun _ h => h) rfl dX12_dip_52 ?_
        refine lv_iload_n hx hb dX12_dip_55 rfl (lv_at hl 0 rfl) ?_
        refine lv_aload_n hx hb dX12_dip_56 rfl (lv_at hl 1 rfl) ?_
        have r19 : 0 ≤ (I 0 0).toInt ∧ (I 0 0).toInt ≤ 719 := hma.1
        refine z_get (T := TX12) (N := 96) (ci := 12) (i := 0) (v := .int (I 0 0)) hx hb hts zj_X12_dip_X12 hown hK hW rfl rfl 0 (by decide) (hts (.fieldLink RX12 232 "PetrolBoardModel" "today" "I") (me_s (me_l (List.mem_of_getElem? (i := 4) rfl)))) (fun _ h => h) (congrArg Value.int (by rw [eI16, z_up_n (by decide)])) dX12_dip_57 ?_
        refine z_iast (i := 49) hx hb hK hW hS rfl (z_ix rfl (by omega) (by omega)) dX12_dip_60 (fun H locs hz1 hW hS => ?_)
        obtain ⟨I20, eI20⟩ : ∃ K : z_I, K = z_up I16 49 x15.toNatClampNeg (I 0 0) := ⟨_, rfl⟩
        rw [← eI20] at hW
        have f21 := z_fr_a f17 (show z_wa L_X12_dip_r 49 = true by decide) eI20
        have a22 := z_rg_n a18 (by decide) eI20
        refine lv_aload_n hx hb dX12_dip_61 rfl (lv_at hl 1 rfl) ?_
        refine z_get (T := TX12) (N := 96) (ci := 12) (i := 0) (v := .ref (ad 50)) hx hb hts zj_X12_dip_X12 hown hK hW rfl rfl 73 (by decide) (hts (.fieldLink RX12 166 "PetrolBoardModel" "dipCome" "[I") (me_s (me_l (List.mem_of_getElem? (i := 5) rfl)))) (fun _ h => h) rfl dX12_dip_62 ?_
        refine lv_iload_n hx hb dX12_dip_65 rfl (lv_at hl 0 rfl) ?_
        refine lv_aload_n hx hb dX12_dip_66 rfl (lv_at hl 1 rfl) ?_
        refine z_get (T := TX12) (N := 96) (ci := 12) (i := 0) (v := .int (I 0 56)) hx hb hts zj_X12_dip_X12 hown hK hW rfl rfl 56 (by decide) (hts (.fieldLink RX12 471 "PetrolBoardModel" "comes" "I") (me_s (me_l (List.mem_of_getElem? (i := 6) rfl)))) (fun _ h => h) (congrArg Value.int (by rw [eI20, z_up_n (by decide), eI16, z_up_n (by decide)])) dX12_dip_67 ?_
        refine z_iast (i := 50) hx hb hK hW hS rfl (z_ix rfl (by omega) (by omega)) dX12_dip_70 (fun H locs hz1 hW hS => ?_)
        obtain ⟨I23, eI23⟩ : ∃ K : z_I, K = z_up I20 50 x15.toNatClampNeg (I 0 56) := ⟨_, rfl⟩
        rw [← eI23] at hW
        have f24 := z_fr_a f21 (show z_wa L_X12_dip_r 50 = true by decide) eI23
        have a25 := z_rg_n a22 (by decide) eI23
        refine lv_aload_n hx hb dX12_dip_71 rfl (lv_at hl 1 rfl) ?_
        refine lv_dup hx hb dX12_dip_72 rfl ?_
        refine z_get (T := TX12) (N := 96) (ci := 12) (i := 0) (v := .int (I 0 56)) hx hb hts zj_X12_dip_X12 hown hK hW rfl rfl 56 (by decide) (hts (.fieldLink RX12 471 "PetrolBoardModel" "comes" "I") (me_s (me_l (List.mem_of_getElem? (i := 6) rfl)))) (fun _ h => h) (congrArg Value.int (by rw [eI23, z_up_n (by decide), eI20, z_up_n (by decide), eI16, z_up_n (by decide)])) dX12_dip_73 ?_
        refine lv_iconst (v := 1) hx hb dX12_dip_76 (by decide) ?_
        refine lv_iadd hx hb dX12_dip_77 ?_
        refine lv_topi (fun x26 ex26 => ?_)
        refine z_put (T := TX12) (N := 96) (ci := 12) (i := 0) (v := .int x26) (I1 := z_up I23 0 56 x26) (J1 := J) (P1 := PM ad) hx hb hts zj_X12_dip_X12 tyX12 tyX12_ok nmX12 hown hK hW hS rfl rfl 56 (by decide) (hts (.fieldLink RX12 471 "PetrolBoardModel" "comes" "I") (me_s (me_l (List.mem_of_getElem? (i := 6) rfl)))) (fun _ h => h) rfl rfl rfl (by first | rfl | exact congrArg _ z_up_s) (fun a b h ty => z_vI h ty) dX12_dip_78 (fun H locs hz1 hW hS => ?_)
        obtain ⟨I27, eI27⟩ : ∃ K : z_I, K = z_up I23 0 56 x26 := ⟨_, rfl⟩
        rw [← eI27] at hW
        have f28 := z_fr_k f24 (show z_wr L_X12_dip_r 0 56 = true by decide) eI27
        have a29 := z_rg_n a25 (by decide) eI27
        refine lv_aload_n hx hb dX12_dip_81 rfl (lv_at hl 1 rfl) ?_
        refine z_get (T := TX12) (N := 96) (ci := 12) (i := 0) (v := .ref (ad 47)) hx hb hts zj_X12_dip_X12 hown hK hW rfl rfl 70 (by decide) (hts (.fieldLink RX12 157 "PetrolBoardModel" "dipMany" "[I") (me_s (me_l (List.mem_of_getElem? (i := 1) rfl)))) (fun _ h => h) rfl dX12_dip_82 ?_
        refine lv_iload_n hx hb dX12_dip_85 rfl (lv_at hl 2 rfl) ?_
        refine lv_dup2_11 hx hb dX12_dip_86 rfl rfl ?_
        refine z_iald (i := 47) hx hb hK hW rfl (z_ix rfl (by omega) (by omega)) dX12_dip_87 ?_
        refine z_topi (v := x10) (by rw [eI27, z_up_n (by decide), eI23, z_up_n (by decide), eI20, z_up_n (by decide), eI16, z_up_n (by decide)]; exact ex10.symm) ?_
        refine lv_iconst (v := 1) hx hb dX12_dip_88 (by decide) ?_
        refine lv_iadd hx hb dX12_dip_89 ?_
        refine lv_topi (fun x30 ex30 => ?_)
        have tx30 : x30.toInt = x10.toInt + 1 := z_tadd ex30 rfl z_l1 (by omega) (by omega)
        refine z_iast (i := 47) hx hb hK hW hS rfl (z_ix rfl (by omega) (by omega)) dX12_dip_90 (fun H locs hz1 hW hS => ?_)
        obtain ⟨I31, eI31⟩ : ∃ K : z_I, K = z_up I27 47 a1.toNatClampNeg x30 := ⟨_, rfl⟩
        rw [← eI31] at hW
        have f32 := z_fr_a f28 (show z_wa L_X12_dip_r 47 = true by decide) eI31
        have a33 := z_rg_a a29 (by omega) eI31
        refine lv_aload_n hx hb dX12_dip_91 rfl (lv_at hl 1 rfl) ?_
        refine z_get (T := TX12) (N := 96) (ci := 12) (i := 0) (v := .ref (ad 47)) hx hb hts zj_X12_dip_X12 hown hK hW rfl rfl 70 (by decide) (hts (.fieldLink RX12 157 "PetrolBoardModel" "dipMany" "[I") (me_s (me_l (List.mem_of_getElem? (i := 1) rfl)))) (fun _ h => h) rfl dX12_dip_92 ?_
        refine lv_iload_n hx hb dX12_dip_95 rfl (lv_at hl 2 rfl) ?_
        refine z_iald (i := 47) hx hb hK hW rfl (z_ix rfl (by omega) (by omega)) dX12_dip_96 ?_
        refine z_topi (v := x30) (by rw [eI31, z_up_s]) ?_
        refine lv_iconst (v := 1) hx hb dX12_dip_97 (by decide) ?_
        refine lv_isub hx hb dX12_dip_98 ?_
        refine lv_topi (fun x34 ex34 => ?_)
        have tx34 : x34.toInt = x30.toInt - 1 := z_tsub ex34 rfl z_l1 (by omega) (by omega)
        exact z_iret hx hb hr hK hS (Nat.le_of_ble_eq_true rfl) (Nat.le_of_ble_eq_true rfl) hlocks dX12_dip_99 (shM, ad, I31, J, PM ad) hW ⟨I31, J, rfl, ⟨(by show 0 ≤ (I31 0 54).toInt ∧ (I31 0 54).toInt ≤ 10; rw [eI31, z_up_n (by decide), eI27, z_up_k (by decide), eI23, z_up_n (by decide), eI20, z_up_n (by decide), eI16, z_up_n (by decide)]; exact hms.1), (by show 0 ≤ (I31 0 55).toInt ∧ (I31 0 55).toInt ≤ 300; rw [eI31, z_up_n (by decide), eI27, z_up_k (by decide), eI23, z_up_n (by decide), eI20, z_up_n (by decide), eI16, z_up_n (by decide)]; exact hms.2)⟩, a33, ⟨(by show 0 ≤ (I31 0 0).toInt ∧ (I31 0 0).toInt ≤ 719; rw [eI31, z_up_n (by decide), eI27, z_up_k (by decide), eI23, z_up_n (by decide), eI20, z_up_n (by decide), eI16, z_up_n (by decide)]; exact hma.1), (by show 0 ≤ (I31 0 1).toInt ∧ (I31 0 1).toInt ≤ 30; rw [eI31, z_up_n (by decide), eI27, z_up_k (by decide), eI23, z_up_n (by decide), eI20, z_up_n (by decide), eI16, z_up_n (by decide)]; exact hma.2.1), (by show 0 ≤ (I31 0 2).toInt ∧ (I31 0 2).toInt ≤ 200; rw [eI31, z_up_n (by decide), eI27, z_up_k (by decide), eI23, z_up_n (by decide), eI20, z_up_n (by decide), eI16, z_up_n (by decide)]; exact hma.2.2)⟩, f32, (Or.inl ⟨(by have := congrArg Int32.toInt ex10; omega), (by have := congrArg Int32.toInt ex10; omega), (fun j => by rw [eI31, z_up_j, eI27, z_up_n (by decide), eI23, z_up_n (by decide), eI20, z_up_n (by decide), eI16, z_up_n (by decide), ex30, ex10])⟩)⟩
      · have g35 := z_f_eq rfl z_l30 c12
        refine lv_iconst (v := (-1)) hx hb dX12_dip_30 (by decide) ?_
        exact z_iret hx hb hr hK hS (Nat.le_of_ble_eq_true rfl) (Nat.le_of_ble_eq_true rfl) hlocks dX12_dip_31 (shM, ad, I, J, PM ad) hW ⟨I, J, rfl, ⟨(by show 0 ≤ (I 0 54).toInt ∧ (I 0 54).toInt ≤ 10; exact hms.1), (by show 0 ≤ (I 0 55).toInt ∧ (I 0 55).toInt ≤ 300; exact hms.2)⟩, hAdm, ⟨(by show 0 ≤ (I 0 0).toInt ∧ (I 0 0).toInt ≤ 719; exact hma.1), (by show 0 ≤ (I 0 1).toInt ∧ (I 0 1).toInt ≤ 30; exact hma.2.1), (by show 0 ≤ (I 0 2).toInt ∧ (I 0 2).toInt ≤ 200; exact hma.2.2)⟩, z_fr_0, (Or.inr ⟨(by have := congrArg Int32.toInt ex10; omega), (by decide), (fun j => rfl)⟩)⟩
    · have h36 := h5
      have z37 := z_l0
      have z38 := z_l200000
      refine lv_if_eq (tgt := 30) hx hb dX12_dip_16 (by decide) (fun c39 => ?_) (fun c39 => absurd (by decide) c39)
      refine lv_iconst (v := (-1)) hx hb dX12_dip_30 (by decide) ?_
      exact z_iret hx hb hr hK hS (Nat.le_of_ble_eq_true rfl) (Nat.le_of_ble_eq_true rfl) hlocks dX12_dip_31 (shM, ad, I, J, PM ad) hW ⟨I, J, rfl, ⟨(by show 0 ≤ (I 0 54).toInt ∧ (I 0 54).toInt ≤ 10; exact hms.1), (by show 0 ≤ (I 0 55).toInt ∧ (I 0 55).toInt ≤ 300; exact hms.2)⟩, hAdm, ⟨(by show 0 ≤ (I 0 0).toInt ∧ (I 0 0).toInt ≤ 719; exact hma.1), (by show 0 ≤ (I 0 1).toInt ∧ (I 0 1).toInt ≤ 30; exact hma.2.1), (by show 0 ≤ (I 0 2).toInt ∧ (I 0 2).toInt ≤ 200; exact hma.2.2)⟩, z_fr_0, (Or.inr ⟨(by omega), (by decide), (fun j => rfl)⟩)⟩
  · have h40 := h1
    have r41 : 0 ≤ (I 0 54).toInt ∧ (I 0 54).toInt ≤ 10 := hms.1
    refine lv_if_eq (tgt := 30) hx hb dX12_dip_5 (by decide) (fun c42 => ?_) (fun c42 => absurd (by decide) c42)
    refine lv_iconst (v := (-1)) hx hb dX12_dip_30 (by decide) ?_
    exact z_iret hx hb hr hK hS (Nat.le_of_ble_eq_true rfl) (Nat.le_of_ble_eq_true rfl) hlocks dX12_dip_31 (shM, ad, I, J, PM ad) hW ⟨I, J, rfl, ⟨(by show 0 ≤ (I 0 54).toInt ∧ (I 0 54).toInt ≤ 10; exact hms.1), (by show 0 ≤ (I 0 55).toInt ∧ (I 0 55).toInt ≤ 300; exact hms.2)⟩, hAdm, ⟨(by show 0 ≤ (I 0 0).toInt ∧ (I 0 0).toInt ≤ 719; exact hma.1), (by show 0 ≤ (I 0 1).toInt ∧ (I 0 1).toInt ≤ 30; exact hma.2.1), (by show 0 ≤ (I 0 2).toInt ∧ (I 0 2).toInt ≤ 200; exact hma.2.2)⟩, z_fr_0, (Or.inr ⟨(by omega), (by decide), (fun j => rfl)⟩)⟩
set_option maxHeartbeats 8000000 in
set_option maxRecDepth 100000 in
theorem sx_X11_station_s (l : Launch) (G : z_G) (ad : Nat → Nat) (c : z_C) (I : z_I) (h10 : c.1 ≤ 10) (hsn : (I 0 8).toInt = (c.1 : Int)) : z_M l yX11_station wsX11_station { frames := 2, cells := 8, slots := 220, locals := 40 } [.ref (ad 0)] G (shC c, ad, I, JX, PC c ad) (fun r u1 => ∃ (c1 : z_C) (ad1 : Nat → Nat) (I1 : z_I), u1 = (shC c1, ad1, I1, JX, PC c1 ad1) ∧ c1.2 = c.2 ∧ c1.1 ≤ 10 ∧ (I1 0 8).toInt = (c1.1 : Int) ∧ (∀ j, j < 75 → ad1 j = ad j) ∧ (∀ a k, a < 75 → ¬ (a = 0 ∧ k = 8) → I1 a k = I a k) ∧ (z_iS c I → z_iS c1 I1) ∧ (((I 0 8).toInt < 10 ∧ r.toInt = (I 0 8).toInt ∧ (I1 0 8).toInt = (I 0 8).toInt + 1 ∧ z_sn I1 I c.1) ∨ (¬ (I 0 8).toInt < 10 ∧ r.toInt = -1 ∧ (I1 0 8).toInt = (I 0 8).toInt ∧ z_sk I1 I))) 8 220 := by
  intro sz
  refine z_headQ (cc := cX11_station) (maxL := 1) (ret := (some .int)) (by decide) rfl (Nat.le_of_ble_eq_true rfl) ?_
  intro p e s m below meth c0 ls hIn hK hsz hW hl
  obtain ⟨hx, hb, hr, hml, hown, hts, hlocks, hname⟩ := hIn
  subst hsz
  have hown : s.vm.findClass RX11 = some m.cls := hown
  have hA : ∀ q : Nat, s.heap.size ≤ q → z_A (shC c, ad, I, JX, PC c ad) s.heap.size q := fun q h => Or.inr h
  generalize hAe : z_A (shC c, ad, I, JX, PC c ad) s.heap.size = A at *
  have hS : va_S A s.heap s.heap [] := va_S.rf
  have hl : lv_has ls 1 [(0, .ref (ad 0))] := hl
  refine lv_aload_n hx hb dX11_station_0 rfl (lv_at hl 0 rfl) ?_
  refine z_get (T := TX11) (N := 13) (ci := 11) (i := 0) (v := .int (I 0 8)) hx hb hts zj_X11_station_X11 hown hK hW rfl rfl 8 (by decide) (hts (.fieldLink RX11 178 "PetrolBoard" "stationNumber" "I") (me_s (me_l (me_l (List.mem_of_getElem? (i := 0) rfl))))) (fun _ h => h) rfl dX11_station_1 ?_
  refine lv_aload_n hx hb dX11_station_4 rfl (lv_at hl 0 rfl) ?_
  refine z_get (T := TX11) (N := 13) (ci := 11) (i := 0) (v := .ref (ad 39)) hx hb hts zj_X11_station_X11 hown hK hW rfl rfl 7 (by decide) (hts (.fieldLink RX11 50 "PetrolBoard" "stations" "[LPetrolBoard$Station;") (me_s (me_l (me_l (List.mem_of_getElem? (i := 1) rfl))))) (fun _ h => h) rfl dX11_station_5 ?_
  refine z_alen (i := 39) (v := 10) hx hb hK hW rfl (by simp [z_tys]) (by rfl) dX11_station_8 ?_
  refine lv_icmp_lt (tgt := 14) hx hb dX11_station_9 (by decide) (fun c1 => ?_) (fun c1 => ?_)
  · have g1 := z_f_lt rfl (show (10 : Int32).toInt = 10 by decide) c1
    have h9 : c.1 < 10 := by omega
    refine lv_aload_n hx hb dX11_station_14 rfl (lv_at hl 0 rfl) ?_
    refine z_get (T := TX11) (N := 13) (ci := 11) (i := 0) (v := .ref (ad 39)) hx hb hts zj_X11_station_X11 hown hK hW rfl rfl 7 (by decide) (hts (.fieldLink RX11 50 "PetrolBoard" "stations" "[LPetrolBoard$Station;") (me_s (me_l (me_l (List.mem_of_getElem? (i := 1) rfl))))) (fun _ h => h) rfl dX11_station_15 ?_
    refine lv_aload_n hx hb dX11_station_18 rfl (lv_at hl 0 rfl) ?_
    refine z_get (T := TX11) (N := 13) (ci := 11) (i := 0) (v := .int (I 0 8)) hx hb hts zj_X11_station_X11 hown hK hW rfl rfl 8 (by decide) (hts (.fieldLink RX11 178 "PetrolBoard" "stationNumber" "I") (me_s (me_l (me_l (List.mem_of_getElem? (i := 0) rfl))))) (fun _ h => h) rfl dX11_station_19 ?_
    obtain ⟨ad1, ead⟩ : ∃ f, f = z_ad8 ad (z_i0 c) s.heap.size := ⟨_, rfl⟩
    obtain ⟨P1, eP1⟩ : ∃ f, f = z_P8 (PC c ad) (z_i0 c) := ⟨_, rfl⟩
    have hlo : ∀ j, j < 75 → ad1 j = ad j := fun j hj => by rw [ead]; exact if_neg (by unfold z_i0; omega)
    have hnew : ∀ j, j < 8 → ad1 (z_i0 c + j) = s.heap.size + j := fun j hj => by rw [ead]; show (if _ then _ else _) = _; rw [if_pos (by omega)]; omega
    have hW := z_re8 (q := s.heap.size) h9 hW
    rw [← ead, ← eP1] at hW
    have hl : lv_has ls 1 [(0, .ref (ad1 0))] := by rw [hlo 0 (by decide)]; exact hl
    refine W.eq (g2 := F0 m 22 ls [.int (I 0 8), .ref (ad1 39)]) (by rw [hlo 39 (by decide)]) ?_
    refine z_new (z_i0 c) ad1 (T := TX10) (N := 10) (ci := 10) hx hb hts zj_X11_station_X10 tyX10 tyX10_ok hown (hts (.classLink RX11 48 RX10) (me_s (me_l (me_l (List.mem_of_getElem? (i := 2) rfl))))) (hts (.instantiable RX10 10) (me_s (me_l (me_l (List.mem_of_getElem? (i := 3) rfl))))) (hts (.initialized RX10) (me_s (me_l (me_l (List.mem_of_getElem? (i := 4) rfl))))) hK hW hS hA (hnew 0 (by decide)) (fun _ _ => rfl) rfl (fun k hk => (z_v0 (if_pos (by omega)) rfl (by rw [eP1]; exact if_pos rfl) (ndX10 k hk)).symm) (Nat.le_of_ble_eq_true rfl) (Nat.le_of_ble_eq_true rfl) dX11_station_22 (fun H hz1 hW hS => ?_)
    refine lv_dup hx hb dX11_station_25 rfl ?_
    refine z_cc hW hS hA (va_runIN (As := []) (rest := [.ref (ad1 (z_i0 c)), .int (I 0 8), .ref (ad1 39)]) ⟨hx, hb, hml, hown, hts⟩ (sx_X10_init l G (z_sh (shC c) (z_i0 c) (.inr 10)) ad1 (z_I8 I (z_i0 c)) JX P1 (z_i0 c) _ (by simp [z_sh]) (fun j hj => by rw [hz1, Nat.add_assoc, hnew (1 + j) (by omega)]; omega) (fun j hj k => if_pos (by omega))) ⟨va_cnB 0 hts gX11_station_X10_init_n181 rfl rfl rfl (hK.2.2.1 _ (List.mem_of_getElem? (i := 11) rfl)) (hts (.initialized RX10) (me_s (me_l (me_l (List.mem_of_getElem? (i := 4) rfl))))) (by decide +kernel) ⟨(Nat.le_of_ble_eq_true rfl), (Nat.le_of_ble_eq_true rfl)⟩, rfl, (hts (.instanceMethod yX10_init) (me_s (me_l (me_l (List.mem_of_getElem? (i := 5) rfl)))))⟩ (z_preS hK hW) rfl rfl hl.1 rfl (lv_room (Nat.le_of_ble_eq_true rfl)) dX11_station_26 ⟨(Nat.le_of_ble_eq_true rfl), (Nat.le_of_ble_eq_true rfl)⟩) (fun H locs hz1 hW hS => ?_)
    have hsh39 : z_shr (z_sh (shC c) (z_i0 c) (.inr 10)) (z_i0 c) 30 7 39 = some (.inl (.object RX10, 10)) := by rw [z_shC_1 h9]; rfl
    have hsh0 : z_shr (z_sh (shC c) (z_i0 c) (.inr 10)) (z_i0 c) 30 7 0 = some (.inr 11) := by rw [z_shC_1 h9]; rfl
    have hshi : z_shr (z_sh (shC c) (z_i0 c) (.inr 10)) (z_i0 c) 30 7 (z_i0 c) = some (.inr 10) := (z_shr_o 7).trans (by simp [z_sh])
    refine z_aast (i := 39) (j := z_i0 c) (x := I 0 8) (ci := 10) hx hb hK hW hS hsh39 (by simp [z_tys]) hshi rfl (z_ix rfl (by omega) (by omega)) dX11_station_29 (fun H locs hz1 hW hS => ?_)
    have hI8 : z_I8 I (z_i0 c) 0 8 = I 0 8 := if_neg (by unfold z_i0; omega)
    have hx9 : (I 0 8).toNatClampNeg = c.1 := by have := z_clt (x := I 0 8) hsn (by omega); omega
    obtain ⟨P2, eP2⟩ : ∃ f, f = z_up (z_ps z_f10 P1 (z_i0 c) ad1 7) 39 (I 0 8).toNatClampNeg (some (ad1 (z_i0 c))) := ⟨_, rfl⟩
    rw [← eP2] at hW
    refine lv_aload_n hx hb dX11_station_30 rfl (lv_at hl 0 rfl) ?_
    refine lv_dup hx hb dX11_station_31 rfl ?_
    refine z_get (T := TX11) (N := 13) (ci := 11) (i := 0) (v := .int (I 0 8)) hx hb hts zj_X11_station_X11 hown hK hW hsh0 rfl 8 (by decide) (hts (.fieldLink RX11 178 "PetrolBoard" "stationNumber" "I") (me_s (me_l (me_l (List.mem_of_getElem? (i := 0) rfl))))) (fun _ h => h) (congrArg Value.int hI8) dX11_station_32 ?_
    refine lv_iconst (v := 1) hx hb dX11_station_35 (by decide) ?_
    refine lv_iadd hx hb dX11_station_36 ?_
    refine lv_topi (fun y ey => ?_)
    have ty : y.toInt = (c.1 : Int) + 1 := z_tadd ey hsn (show (1 : Int32).toInt = 1 by decide) (by omega) (by omega)
    refine z_put (T := TX11) (N := 13) (ci := 11) (i := 0) (v := .int y) (I1 := z_up (z_I8 I (z_i0 c)) 0 8 y) (J1 := JX) (P1 := P2) hx hb hts zj_X11_station_X11 tyX11 tyX11_ok nmX11 hown hK hW hS hsh0 rfl 8 (by decide) (hts (.fieldLink RX11 178 "PetrolBoard" "stationNumber" "I") (me_s (me_l (me_l (List.mem_of_getElem? (i := 0) rfl))))) (fun _ h => h) rfl rfl rfl (by first | rfl | exact congrArg _ z_up_s) (fun a b h ty => z_vI h ty) dX11_station_37 (fun H locs hz1 hW hS => ?_)
    obtain ⟨I2, eI2⟩ : ∃ f, f = z_up (z_I8 I (z_i0 c)) 0 8 y := ⟨_, rfl⟩
    rw [← eI2] at hW
    refine lv_aload_n hx hb dX11_station_40 rfl (lv_at hl 0 rfl) ?_
    refine z_get (T := TX11) (N := 13) (ci := 11) (i := 0) (v := .int y) hx hb hts zj_X11_station_X11 hown hK hW hsh0 rfl 8 (by decide) (hts (.fieldLink RX11 178 "PetrolBoard" "stationNumber" "I") (me_s (me_l (me_l (List.mem_of_getElem? (i := 0) rfl))))) (fun _ h => h) (congrArg Value.int (by rw [eI2, z_up_s])) dX11_station_41 ?_
    refine lv_iconst (v := 1) hx hb dX11_station_44 (by decide) ?_
    refine lv_isub hx hb dX11_station_45 ?_
    refine lv_topi (fun rr err => ?_)
    have trr : rr.toInt = (c.1 : Int) + 1 - 1 := z_tsub err ty (show (1 : Int32).toInt = 1 by decide) (by omega) (by omega)
    rw [eP2, eP1, ead] at hW
    have hW := z_st1 h9 hx9 hW
    rw [← ead] at hW
    exact z_iret hx hb hr hK hS (Nat.le_of_ble_eq_true rfl) (Nat.le_of_ble_eq_true rfl) hlocks dX11_station_46 (shC (z_c1 c), ad1, I2, JX, PC (z_c1 c) ad1) hW ⟨z_c1 c, ad1, I2, rfl, rfl, (by show c.1 + 1 ≤ 10; omega), (by rw [eI2, z_up_s, ty]; rfl), hlo, (fun a k ha hk => by rw [eI2]; by_cases q : a = 0; (· (rw [z_up_k (fun e => hk ⟨q, e⟩)]; exact if_neg (by unfold z_i0; omega))); (· (rw [z_up_n q]; exact if_neg (by unfold z_i0; omega)))), z_st2 eI2, Or.inl ⟨by omega, by omega, by rw [eI2, z_up_s, ty]; omega, z_sn_of h9 eI2⟩⟩
  · refine lv_iconst (v := (-1)) hx hb dX11_station_12 (by decide) ?_
    exact z_iret hx hb hr hK hS (Nat.le_of_ble_eq_true rfl) (Nat.le_of_ble_eq_true rfl) hlocks dX11_station_13 (shC c, ad, I, JX, PC c ad) hW ⟨c, ad, I, rfl, rfl, h10, hsn, fun _ _ => rfl, fun _ _ _ _ => rfl, fun h => h, Or.inr ⟨by have := z_f_nlt rfl (show (10 : Int32).toInt = 10 by decide) c1; omega, by decide, rfl, z_sk_0⟩⟩
end SG60h
