

set_option maxHeartbeats 8000000 in
set_option maxRecDepth 100000 in
theorem sx_X6_ordersOf_x (l : Launch) (G : z_G) (ad : Nat → Nat) (c : z_C) (I : z_I) (hO : z_iO I) (a1 : Int32) (a2 : Int32) (hon : (I 21 2).toInt = (c.2.1 : Int)) (hmo : ∀ j, j < c.2.1 → 0 ≤ (I (200 + 5 * j) 0).toInt) : z_Mq l yX6_ordersOf wsX6_ordersOf { frames := 2, cells := 0, slots := 0, locals := 39 } [.ref (ad 21), .int a1, .int a2] G (shC c, ad, I, JX, PC c ad) (fun r u1 => u1 = (shC c, ad, I, JX, PC c ad) ∧ ((r = none ∧ zi_B (zi_mo I) (zi_td I) a1.toInt a2.toInt c.2.1 (-1)) ∨ ∃ k, k < c.2.1 ∧ r = some (ad (200 + 5 * k)) ∧ zi_B (zi_mo I) (zi_td I) a1.toInt a2.toInt c.2.1 (k : Int))) 0 0 := by
  intro sz
  refine z_headQ (cc := cX6_ordersOf) (maxL := 4) (ret := (some (.object "PetrolBoard$Orders"))) (by decide) rfl (Nat.le_of_ble_eq_true rfl) ?_
  intro p e s m below meth c0 ls hIn hK hsz hW hl
  obtain ⟨hx, hb, hr, hml, hown, hts, hlocks, hname⟩ := hIn
  subst hsz
  have hown : s.vm.findClass RX6 = some m.cls := hown
  have hA : ∀ q : Nat, s.heap.size ≤ q → z_A (shC c, ad, I, JX, PC c ad) s.heap.size q := fun q h => Or.inr h
  generalize hAe : z_A (shC c, ad, I, JX, PC c ad) s.heap.size = A at *
  have hS : va_S A s.heap s.heap [] := va_S.rf
  have hl : lv_has ls 4 [(0, .ref (ad 21)), (1, .int a1), (2, .int a2)] := hl
  refine lv_aload_n hx hb dX6_ordersOf_0 rfl (lv_at hl 0 rfl) ?_
  refine lv_iload_n hx hb dX6_ordersOf_1 rfl (lv_at hl 1 rfl) ?_
  refine lv_iload_n hx hb dX6_ordersOf_2 rfl (lv_at hl 2 rfl) ?_
  refine z_ci hW hS hA (va_runV (As := [.int a1, .int a2]) (rest := []) ⟨hx, hb, hml, hown, hts⟩ (sx_X6_inForce_x l G ad c I (by show 0 ≤ (I 21 2).toInt ∧ (I 21 2).toInt ≤ 12; exact hO) a1 a2 hon hmo _) (cwV 2 hts gX6_ordersOf_X6_inForce rfl rfl rfl (by decide +kernel) ⟨Nat.le_of_ble_eq_true rfl, Nat.le_of_ble_eq_true rfl⟩) (z_preV (i := 21) hK hW rfl rfl) rfl rfl hl.1 rfl (lv_room (Nat.le_of_ble_eq_true rfl)) dX6_ordersOf_3 ⟨Nat.le_of_ble_eq_true rfl, Nat.le_of_ble_eq_true rfl⟩) (fun r u1 H locs hp hW hS => ?_)
  obtain ⟨e9, hp⟩ := hp
  rw [e9] at hW
  refine lv_topi (fun x1 ex1 => ?_)
  rw [← ex1] at hp
  obtain ⟨hB_x1, h2⟩ := hp
  refine lv_istore_n (lv' := [(3, .int x1), (0, .ref (ad 21)), (1, .int a1), (2, .int a2)]) hx hb dX6_ordersOf_6 rfl hl (by decide) rfl (fun ls hl => ?_)
  refine lv_iload_n hx hb dX6_ordersOf_7 rfl (lv_at hl 0 rfl) ?_
  refine lv_if_lt (tgt := 29) hx hb dX6_ordersOf_8 (by decide) (fun c3 => ?_) (fun c3 => ?_)
  · have g4 := z_f_lt rfl z_l0 c3
    refine lv_null hx hb dX6_ordersOf_29 ?_
    exact z_nret hx hb hr hK hS (Nat.le_of_ble_eq_true rfl) (Nat.le_of_ble_eq_true rfl) hlocks dX6_ordersOf_30 (shC c, ad, I, JX, PC c ad) hW ⟨rfl, (by first | exact Or.inl ⟨rfl, by rw [show (-1 : Int) = x1.toInt by omega]; exact hB_x1⟩ | (exfalso; have z9 := z_clt (x := x1) rfl (by omega); rcases hB_x1 with ⟨z1, _⟩ | ⟨q9, z1, z2, _⟩ <;> omega))⟩
  · have g5 := z_f_nlt rfl z_l0 c3
    refine lv_iload_n hx hb dX6_ordersOf_11 rfl (lv_at hl 0 rfl) ?_
    refine lv_aload_n hx hb dX6_ordersOf_12 rfl (lv_at hl 1 rfl) ?_
    refine z_get (T := TX6) (N := 3) (ci := 6) (i := 21) (v := .ref (ad 22)) hx hb hts zj_X6_ordersOf_X6 hown hK hW rfl rfl 0 (by decide) (hts (.fieldLink RX6 11 "PetrolBoard$OrderBook" "told" "[LPetrolBoard$Orders;") (me_s (me_l (me_l (List.mem_of_getElem? (i := 0) rfl))))) (fun _ h => h) rfl dX6_ordersOf_13 ?_
    refine z_alen (i := 22) (v := 12) hx hb hK hW rfl (by simp [z_tys]) (by rfl) dX6_ordersOf_16 ?_
    refine lv_icmp_ge (tgt := 29) hx hb dX6_ordersOf_17 (by decide) (fun c6 => (by have g := z_f_ge rfl z_l12 c6; omega)) (fun c6 => ?_)
    have g7 := z_f_nge rfl z_l12 c6
    refine lv_aload_n hx hb dX6_ordersOf_20 rfl (lv_at hl 1 rfl) ?_
    refine z_get (T := TX6) (N := 3) (ci := 6) (i := 21) (v := .ref (ad 22)) hx hb hts zj_X6_ordersOf_X6 hown hK hW rfl rfl 0 (by decide) (hts (.fieldLink RX6 11 "PetrolBoard$OrderBook" "told" "[LPetrolBoard$Orders;") (me_s (me_l (me_l (List.mem_of_getElem? (i := 0) rfl))))) (fun _ h => h) rfl dX6_ordersOf_21 ?_
    refine lv_iload_n hx hb dX6_ordersOf_24 rfl (lv_at hl 0 rfl) ?_
    obtain ⟨k8, ek8⟩ : ∃ k : Nat, (x1 : Int32).toNatClampNeg = k := ⟨_, rfl⟩
    rcases Nat.lt_or_ge k8 c.2.1 with hk8 | hk8
    · refine z_aald (i := 22) (v := .ref (ad (200 + 5 * k8))) hx hb hK hW rfl (by simp [z_tys]) rfl (z_ix rfl (by omega) (by omega)) (z_p22 ek8 hk8) dX6_ordersOf_25 ?_
      refine lv_goto (tgt := 30) hx hb dX6_ordersOf_26 (by decide) ?_
      exact z_qretO hx hb hr hK hS (Nat.le_of_ble_eq_true rfl) (Nat.le_of_ble_eq_true rfl) hlocks dX6_ordersOf_30 (shC c, ad, I, JX, PC c ad) hW ⟨rfl, (Or.inr ⟨k8, hk8, rfl, by have z9 := z_clt (x := x1) rfl (by omega); rw [show ((k8 : Nat) : Int) = x1.toInt by omega]; exact hB_x1⟩)⟩
    · refine z_aald (i := 22) (v := .null) hx hb hK hW rfl (by simp [z_tys]) rfl (z_ix rfl (by omega) (by omega)) (z_p22n (by rw [ek8]; omega)) dX6_ordersOf_25 ?_
      refine lv_goto (tgt := 30) hx hb dX6_ordersOf_26 (by decide) ?_
      exact z_nret hx hb hr hK hS (Nat.le_of_ble_eq_true rfl) (Nat.le_of_ble_eq_true rfl) hlocks dX6_ordersOf_30 (shC c, ad, I, JX, PC c ad) hW ⟨rfl, (by first | exact Or.inl ⟨rfl, by rw [show (-1 : Int) = x1.toInt by omega]; exact hB_x1⟩ | (exfalso; have z9 := z_clt (x := x1) rfl (by omega); rcases hB_x1 with ⟨z1, _⟩ | ⟨q9, z1, z2, _⟩ <;> omega))⟩
set_option maxHeartbeats 8000000 in
set_option maxRecDepth 100000 in
theorem sx_X6_amount_x (l : Launch) (G : z_G) (ad : Nat → Nat) (c : z_C) (I : z_I) (hO : z_iO I) (a1 : Int32) (a2 : Int32) (a3 : Int32) (hc : z_okc c) (hon : (I 21 2).toInt = (c.2.1 : Int)) (hmo : ∀ j, j < c.2.1 → 0 ≤ (I (200 + 5 * j) 0).toInt) (q1 : 0 ≤ a1.toInt ∧ a1.toInt ≤ 4) : z_MS l yX6_amount wsX6_amount { frames := 3, cells := 0, slots := 0, locals := 62 } [.ref (ad 21), .int a1, .int a2, .int a3] G (shC c, ad, I, JX, PC c ad) (fun r u1 => u1 = (shC c, ad, I, JX, PC c ad) ∧ (zi_R (zi_mo I) (zi_td I) a2.toInt a3.toInt c.2.1 (zi_us a1.toInt) (zi_ax c I a1.toInt) r.toInt)) 0 0 := by
  intro sz
  refine z_headS (cc := cX6_amount) (maxL := 5) (ret := (some .int)) (by decide) rfl (Nat.le_of_ble_eq_true rfl) ?_
  intro p e s m below meth c0 ls hIn hK hsz hW hl hSt
  obtain ⟨hx, hb, hr, hml, hown, hts, hlocks, hname⟩ := hIn
  subst hsz
  have hown : s.vm.findClass RX6 = some m.cls := hown
  have hA : ∀ q : Nat, s.heap.size ≤ q → z_A (shC c, ad, I, JX, PC c ad) s.heap.size q := fun q h => Or.inr h
  generalize hAe : z_A (shC c, ad, I, JX, PC c ad) s.heap.size = A at *
  have hS : va_S A s.heap s.heap [] := va_S.rf
  have hl : lv_has ls 5 [(0, .ref (ad 21)), (1, .int a1), (2, .int a2), (3, .int a3)] := hl
  refine lv_aload_n hx hb dX6_amount_0 rfl (lv_at hl 0 rfl) ?_
  refine lv_iload_n hx hb dX6_amount_1 rfl (lv_at hl 2 rfl) ?_
  refine lv_iload_n hx hb dX6_amount_2 rfl (lv_at hl 3 rfl) ?_
  refine z_cq hW hS hA (va_runV (As := [.int a2, .int a3]) (rest := []) ⟨hx, hb, hml, hown, hts⟩ (sx_X6_ordersOf_x l G ad c I (by show 0 ≤ (I 21 2).toInt ∧ (I 21 2).toInt ≤ 12; exact hO) a2 a3 hon hmo _) (cwV 2 hts gX6_amount_X6_ordersOf rfl rfl rfl (by decide +kernel) ⟨Nat.le_of_ble_eq_true rfl, Nat.le_of_ble_eq_true rfl⟩) (z_preV (i := 21) hK hW rfl rfl) rfl rfl hl.1 rfl (lv_room (Nat.le_of_ble_eq_true rfl)) dX6_amount_3 ⟨Nat.le_of_ble_eq_true rfl, Nat.le_of_ble_eq_true rfl⟩) (fun r u1 H locs hp hW hS => ?_)
  obtain ⟨e9, hp⟩ := hp
  rw [e9] at hW
  rcases hp with ⟨rfl, hb2⟩ | ⟨k1, hk1, rfl, hb2⟩
  · refine W.eq (g2 := F0 m 6 ls (.null :: [])) rfl ?_
    refine lv_astoreN (lv' := [(4, .null), (0, .ref (ad 21)), (1, .int a1), (2, .int a2), (3, .int a3)]) hx hb dX6_amount_6 hl (by decide) rfl (fun ls hl => ?_)
    refine lv_aloadN hx hb dX6_amount_8 (lv_at hl 0 rfl) ?_
    refine lv_ifnonnullN hx hb dX6_amount_10 ?_
    refine lv_iload_n hx hb dX6_amount_13 rfl (lv_at hl 2 rfl) ?_
    refine z_ci hW hS hA (va_runSN (As := [.int a1]) (rest := []) ⟨hx, hb, hml, hown, hts⟩ (sx_X11_usual_x l G ad c I a1 (by omega) _) ⟨va_cnB 1 hts gX6_amount_X11_usual_n42 rfl rfl rfl (hK.2.2.1 _ (List.mem_of_getElem? (i := 9) rfl)) (hts (.initialized RX11) (me_s (me_l (me_l (List.mem_of_getElem? (i := 14) rfl))))) (by decide +kernel) ⟨Nat.le_of_ble_eq_true rfl, Nat.le_of_ble_eq_true rfl⟩, (hts (.static yX11_usual) (me_s (me_l (me_l (List.mem_of_getElem? (i := 13) rfl))))), trivial⟩ (z_preSS hK hW hS hA hSt) rfl rfl hl.1 rfl (lv_room (Nat.le_of_ble_eq_true rfl)) dX6_amount_14 ⟨Nat.le_of_ble_eq_true rfl, Nat.le_of_ble_eq_true rfl⟩) (fun r u1 H locs hp hW hS => ?_)
    obtain ⟨e9, hp⟩ := hp
    rw [e9] at hW
    refine lv_topi (fun x3 ex3 => ?_)
    rw [← ex3] at hp
    have hux3 := hp
    refine lv_goto (tgt := 26) hx hb dX6_amount_17 (by decide) ?_
    exact z_iret hx hb hr hK hS (Nat.le_of_ble_eq_true rfl) (Nat.le_of_ble_eq_true rfl) hlocks dX6_amount_26 (shC c, ad, I, JX, PC c ad) hW ⟨rfl, ⟨-1, hb2, Or.inl ⟨rfl, by rw [hux3]; exact zi_un_us (by omega) (by omega)⟩⟩⟩
  · refine W.eq (g2 := F0 m 6 ls (.ref (ad (200 + 5 * k1)) :: [])) rfl ?_
    refine lv_astore (lv' := [(4, .ref (ad (200 + 5 * k1))), (0, .ref (ad 21)), (1, .int a1), (2, .int a2), (3, .int a3)]) hx hb dX6_amount_6 hl (by decide) rfl (fun ls hl => ?_)
    refine lv_aload hx hb dX6_amount_8 (lv_at hl 0 rfl) ?_
    refine lv_ifnonnull (tgt := 20) hx hb dX6_amount_10 (by decide) ?_
    refine lv_aload hx hb dX6_amount_20 (lv_at hl 0 rfl) ?_
    refine lv_iload_n hx hb dX6_amount_22 rfl (lv_at hl 2 rfl) ?_
    refine z_ci hW hS hA (va_runV (As := [.int a1]) (rest := []) ⟨hx, hb, hml, hown, hts⟩ (sx_X7_amount_x l G ad c I k1 a1 hk1 hc (by omega) _) (cwV 1 hts gX6_amount_X7_amount rfl rfl rfl (by decide +kernel) ⟨Nat.le_of_ble_eq_true rfl, Nat.le_of_ble_eq_true rfl⟩) (z_preVS (i := (200 + 5 * k1)) hK hW hS hA hSt (z_so0 hk1) rfl) rfl rfl hl.1 rfl (lv_room (Nat.le_of_ble_eq_true rfl)) dX6_amount_23 ⟨Nat.le_of_ble_eq_true rfl, Nat.le_of_ble_eq_true rfl⟩) (fun r u1 H locs hp hW hS => ?_)
    obtain ⟨e9, hp⟩ := hp
    rw [e9] at hW
    refine lv_topi (fun x4 ex4 => ?_)
    rw [← ex4] at hp
    have hax4 := hp
    exact z_iret hx hb hr hK hS (Nat.le_of_ble_eq_true rfl) (Nat.le_of_ble_eq_true rfl) hlocks dX6_amount_26 (shC c, ad, I, JX, PC c ad) hW ⟨rfl, ⟨(k1 : Int), hb2, Or.inr ⟨k1, rfl, hk1, by rw [hax4, zi_un_us (by omega) (by omega)]; rfl⟩⟩⟩
set_option maxHeartbeats 8000000 in
set_option maxRecDepth 100000 in
theorem sx_X11_rule_x (l : Launch) (G : z_G) (ad : Nat → Nat) (c : z_C) (I : z_I) (hO : z_iO I) (a1 : Int32) (a2 : Int32) (a3 : Int32) (hc : z_okc c) (hon : (I 21 2).toInt = (c.2.1 : Int)) (hmo : ∀ j, j < c.2.1 → 0 ≤ (I (200 + 5 * j) 0).toInt) : z_MS l yX11_rule wsX11_rule { frames := 4, cells := 0, slots := 0, locals := 86 } [.ref (ad 0), .int a1, .int a2, .int a3] G (shC c, ad, I, JX, PC c ad) (fun r u1 => u1 = (shC c, ad, I, JX, PC c ad) ∧ (zi_rule (zi_mo I) (zi_td I) c.2.1 (zi_ax c I) a1.toInt a2.toInt a3.toInt r.toInt)) 0 0 := by
  intro sz
  refine z_headS (cc := cX11_rule) (maxL := 4) (ret := (some .int)) (by decide) rfl (Nat.le_of_ble_eq_true rfl) ?_
  intro p e s m below meth c0 ls hIn hK hsz hW hl hSt
  obtain ⟨hx, hb, hr, hml, hown, hts, hlocks, hname⟩ := hIn
  subst hsz
  have hown : s.vm.findClass RX11 = some m.cls := hown
  have hA : ∀ q : Nat, s.heap.size ≤ q → z_A (shC c, ad, I, JX, PC c ad) s.heap.size q := fun q h => Or.inr h
  generalize hAe : z_A (shC c, ad, I, JX, PC c ad) s.heap.size = A at *
  have hS : va_S A s.heap s.heap [] := va_S.rf
  have hl : lv_has ls 4 [(0, .ref (ad 0)), (1, .int a1), (2, .int a2), (3, .int a3)] := hl
  refine lv_iload_n hx hb dX11_rule_0 rfl (lv_at hl 1 rfl) ?_
  refine z_ci hW hS hA (va_runS (As := [.int a1]) (rest := []) ⟨hx, hb, hml, hown, hts⟩ (sx_X11_isMonth_e l G ad c I  a1 _) (va_cwS 1 hts gX11_rule_X11_isMonth rfl rfl rfl (by decide +kernel) ⟨Nat.le_of_ble_eq_true rfl, Nat.le_of_ble_eq_true rfl⟩) (z_preS hK hW) rfl rfl hl.1 rfl (lv_room (Nat.le_of_ble_eq_true rfl)) dX11_rule_1 ⟨Nat.le_of_ble_eq_true rfl, Nat.le_of_ble_eq_true rfl⟩) (fun r u1 H locs hp hW hS => ?_)
  obtain ⟨e9, hp⟩ := hp
  rw [e9] at hW
  rcases hp with ⟨rfl, h1⟩ | ⟨rfl, h1⟩
  · have h2 := h1
    refine lv_if_eq (tgt := 14) hx hb dX11_rule_4 (by decide) (fun c3 => absurd c3 (by decide)) (fun c3 => ?_)
    refine lv_iload_n hx hb dX11_rule_7 rfl (lv_at hl 2 rfl) ?_
    refine z_ci hW hS hA (va_runS (As := [.int a2]) (rest := []) ⟨hx, hb, hml, hown, hts⟩ (sx_X11_isDay_e l G ad c I  a2 _) (va_cwS 1 hts gX11_rule_X11_isDay rfl rfl rfl (by decide +kernel) ⟨Nat.le_of_ble_eq_true rfl, Nat.le_of_ble_eq_true rfl⟩) (z_preS hK hW) rfl rfl hl.1 rfl (lv_room (Nat.le_of_ble_eq_true rfl)) dX11_rule_8 ⟨Nat.le_of_ble_eq_true rfl, Nat.le_of_ble_eq_true rfl⟩) (fun r u1 H locs hp hW hS => ?_)
    obtain ⟨e9, hp⟩ := hp
    rw [e9] at hW
    rcases hp with ⟨rfl, h4⟩ | ⟨rfl, h4⟩
    · have h5 := h4
      refine lv_if_ne (tgt := 16) hx hb dX11_rule_11 (by decide) (fun c6 => ?_) (fun c6 => absurd c6 (by decide))
      refine lv_iload_n hx hb dX11_rule_16 rfl (lv_at hl 3 rfl) ?_
      refine lv_iconst (v := 5) hx hb dX11_rule_17 (by decide) ?_
      refine lv_icmp_ne (tgt := 31) hx hb dX11_rule_18 (by decide) (fun c7 => ?_) (fun c7 => ?_)
      · have g8 := z_f_ne rfl z_l5 c7
        have b9 := Int32.toInt_lt a3
        refine lv_iload_n hx hb dX11_rule_31 rfl (lv_at hl 3 rfl) ?_
        refine lv_iconst (v := 0) hx hb dX11_rule_32 (by decide) ?_
        refine lv_iconst (v := 4) hx hb dX11_rule_33 (by decide) ?_
        refine z_ci hW hS hA (va_runS (As := [.int a3, .int 0, .int 4]) (rest := []) ⟨hx, hb, hml, hown, hts⟩ (sx_X11_within_e l G ad c I  a3 0 4 _) (va_cwS 3 hts gX11_rule_X11_within rfl rfl rfl (by decide +kernel) ⟨Nat.le_of_ble_eq_true rfl, Nat.le_of_ble_eq_true rfl⟩) (z_preS hK hW) rfl rfl hl.1 rfl (lv_room (Nat.le_of_ble_eq_true rfl)) dX11_rule_34 ⟨Nat.le_of_ble_eq_true rfl, Nat.le_of_ble_eq_true rfl⟩) (fun r u1 H locs hp hW hS => ?_)
        obtain ⟨e9, hp⟩ := hp
        rw [e9] at hW
        rcases hp with ⟨rfl, h11⟩ | ⟨rfl, h11⟩
        · have h12 := h11
          have z13 := z_l0
          have z14 := z_l4
          refine lv_if_ne (tgt := 42) hx hb dX11_rule_37 (by decide) (fun c15 => ?_) (fun c15 => absurd c15 (by decide))
          refine lv_aload_n hx hb dX11_rule_42 rfl (lv_at hl 0 rfl) ?_
          refine z_get (T := TX11) (N := 13) (ci := 11) (i := 0) (v := .ref (ad 21)) hx hb hts zj_X11_rule_X11 hown hK hW rfl rfl 4 (by decide) (hts (.fieldLink RX11 30 "PetrolBoard" "orderBook" "LPetrolBoard$OrderBook;") (me_s (me_l (me_l (me_l (me_l (List.mem_of_getElem? (i := 0) rfl))))))) (fun _ h => h) rfl dX11_rule_43 ?_
          refine lv_iload_n hx hb dX11_rule_46 rfl (lv_at hl 3 rfl) ?_
          refine lv_iload_n hx hb dX11_rule_47 rfl (lv_at hl 1 rfl) ?_
          refine lv_iload_n hx hb dX11_rule_48 rfl (lv_at hl 2 rfl) ?_
          refine z_ci hW hS hA (va_runV (As := [.int a3, .int a1, .int a2]) (rest := []) ⟨hx, hb, hml, hown, hts⟩ (sx_X6_amount_x l G ad c I (by show 0 ≤ (I 21 2).toInt ∧ (I 21 2).toInt ≤ 12; exact hO) a3 a1 a2 hc hon hmo (by omega) _) (cwV 3 hts gX11_rule_X6_amount rfl rfl rfl (by decide +kernel) ⟨Nat.le_of_ble_eq_true rfl, Nat.le_of_ble_eq_true rfl⟩) (z_preVS (i := 21) hK hW hS hA hSt rfl rfl) rfl rfl hl.1 rfl (lv_room (Nat.le_of_ble_eq_true rfl)) dX11_rule_49 ⟨Nat.le_of_ble_eq_true rfl, Nat.le_of_ble_eq_true rfl⟩) (fun r u1 H locs hp hW hS => ?_)
          obtain ⟨e9, hp⟩ := hp
          rw [e9] at hW
          refine lv_topi (fun x16 ex16 => ?_)
          rw [← ex16] at hp
          have hRx16 := hp
          exact z_iret hx hb hr hK hS (Nat.le_of_ble_eq_true rfl) (Nat.le_of_ble_eq_true rfl) hlocks dX11_rule_52 (shC c, ad, I, JX, PC c ad) hW ⟨rfl, (Or.inr ⟨⟨by omega, by omega, by omega, by omega⟩, Or.inr (Or.inr ⟨by omega, by omega, hRx16⟩)⟩)⟩
        · have h17 := h11
          have z18 := z_l0
          have z19 := z_l4
          refine lv_if_ne (tgt := 42) hx hb dX11_rule_37 (by decide) (fun c20 => absurd (by decide) c20) (fun c20 => ?_)
          refine lv_iconst (v := (-1)) hx hb dX11_rule_40 (by decide) ?_
          exact z_iret hx hb hr hK hS (Nat.le_of_ble_eq_true rfl) (Nat.le_of_ble_eq_true rfl) hlocks dX11_rule_41 (shC c, ad, I, JX, PC c ad) hW ⟨rfl, (by first | exact Or.inl ⟨by omega, by decide⟩ | exact Or.inr ⟨⟨by omega, by omega, by omega, by omega⟩, Or.inr (Or.inl ⟨by omega, by decide⟩)⟩)⟩
      · have g21 := z_f_eq rfl z_l5 c7
        have b22 := Int32.toInt_lt a3
        refine lv_aload_n hx hb dX11_rule_21 rfl (lv_at hl 0 rfl) ?_
        refine z_get (T := TX11) (N := 13) (ci := 11) (i := 0) (v := .ref (ad 21)) hx hb hts zj_X11_rule_X11 hown hK hW rfl rfl 4 (by decide) (hts (.fieldLink RX11 30 "PetrolBoard" "orderBook" "LPetrolBoard$OrderBook;") (me_s (me_l (me_l (me_l (me_l (List.mem_of_getElem? (i := 0) rfl))))))) (fun _ h => h) rfl dX11_rule_22 ?_
        refine lv_iload_n hx hb dX11_rule_25 rfl (lv_at hl 1 rfl) ?_
        refine lv_iload_n hx hb dX11_rule_26 rfl (lv_at hl 2 rfl) ?_
        refine z_ci hW hS hA (va_runV (As := [.int a1, .int a2]) (rest := []) ⟨hx, hb, hml, hown, hts⟩ (sx_X6_inForce_x l G ad c I (by show 0 ≤ (I 21 2).toInt ∧ (I 21 2).toInt ≤ 12; exact hO) a1 a2 hon hmo _) (cwV 2 hts gX11_rule_X6_inForce rfl rfl rfl (by decide +kernel) ⟨Nat.le_of_ble_eq_true rfl, Nat.le_of_ble_eq_true rfl⟩) (z_preV (i := 21) hK hW rfl rfl) rfl rfl hl.1 rfl (lv_room (Nat.le_of_ble_eq_true rfl)) dX11_rule_27 ⟨Nat.le_of_ble_eq_true rfl, Nat.le_of_ble_eq_true rfl⟩) (fun r u1 H locs hp hW hS => ?_)
        obtain ⟨e9, hp⟩ := hp
        rw [e9] at hW
        refine lv_topi (fun x23 ex23 => ?_)
        rw [← ex23] at hp
        obtain ⟨hB_x23, h24⟩ := hp
        exact z_iret hx hb hr hK hS (Nat.le_of_ble_eq_true rfl) (Nat.le_of_ble_eq_true rfl) hlocks dX11_rule_30 (shC c, ad, I, JX, PC c ad) hW ⟨rfl, (Or.inr ⟨⟨by omega, by omega, by omega, by omega⟩, Or.inl ⟨by omega, hB_x23⟩⟩)⟩
    · have h25 := h4
      refine lv_if_ne (tgt := 16) hx hb dX11_rule_11 (by decide) (fun c26 => absurd (by decide) c26) (fun c26 => ?_)
      refine lv_iconst (v := (-1)) hx hb dX11_rule_14 (by decide) ?_
      exact z_iret hx hb hr hK hS (Nat.le_of_ble_eq_true rfl) (Nat.le_of_ble_eq_true rfl) hlocks dX11_rule_15 (shC c, ad, I, JX, PC c ad) hW ⟨rfl, (by first | exact Or.inl ⟨by omega, by decide⟩ | exact Or.inr ⟨⟨by omega, by omega, by omega, by omega⟩, Or.inr (Or.inl ⟨by omega, by decide⟩)⟩)⟩
  · have h27 := h1
    refine lv_if_eq (tgt := 14) hx hb dX11_rule_4 (by decide) (fun c28 => ?_) (fun c28 => absurd (by decide) c28)
    refine lv_iconst (v := (-1)) hx hb dX11_rule_14 (by decide) ?_
    exact z_iret hx hb hr hK hS (Nat.le_of_ble_eq_true rfl) (Nat.le_of_ble_eq_true rfl) hlocks dX11_rule_15 (shC c, ad, I, JX, PC c ad) hW ⟨rfl, (by first | exact Or.inl ⟨by omega, by decide⟩ | exact Or.inr ⟨⟨by omega, by omega, by omega, by omega⟩, Or.inr (Or.inl ⟨by omega, by decide⟩)⟩)⟩
set_option maxHeartbeats 8000000 in
set_option maxRecDepth 100000 in
theorem sx_X12_rule_x (l : Launch) (G : z_G) (ad : Nat → Nat) (I : z_I) (J : z_J) (hmb : z_imb I) (hAtf : z_rg 11 0 288 I) (hAtm : z_rg 12 0 24 I) (a1 : Int32) (a2 : Int32) (a3 : Int32) : z_M l yX12_rule wsX12_rule { frames := 3, cells := 0, slots := 0, locals := 62 } [.ref (ad 0), .int a1, .int a2, .int a3] G (shM, ad, I, J, PM ad) (fun r u1 => u1 = (shM, ad, I, J, PM ad) ∧ (zi_rule (zi_km I) (zi_kt I) (I 0 13).toNatClampNeg (zi_am I) a1.toInt a2.toInt a3.toInt r.toInt)) 0 0 := by
  intro sz
  refine z_headQ (cc := cX12_rule) (maxL := 4) (ret := (some .int)) (by decide) rfl (Nat.le_of_ble_eq_true rfl) ?_
  intro p e s m below meth c0 ls hIn hK hsz hW hl
  obtain ⟨hx, hb, hr, hml, hown, hts, hlocks, hname⟩ := hIn
  subst hsz
  have hown : s.vm.findClass RX12 = some m.cls := hown
  have hA : ∀ q : Nat, s.heap.size ≤ q → z_A (shM, ad, I, J, PM ad) s.heap.size q := fun q h => Or.inr h
  generalize hAe : z_A (shM, ad, I, J, PM ad) s.heap.size = A at *
  have hS : va_S A s.heap s.heap [] := va_S.rf
  have hl : lv_has ls 4 [(0, .ref (ad 0)), (1, .int a1), (2, .int a2), (3, .int a3)] := hl
  refine lv_iload_n hx hb dX12_rule_0 rfl (lv_at hl 1 rfl) ?_
  refine z_ci hW hS hA (va_runS (As := [.int a1]) (rest := []) ⟨hx, hb, hml, hown, hts⟩ (sx_X12_isMonth_e l G ad I J  a1 _) (va_cwS 1 hts gX12_rule_X12_isMonth rfl rfl rfl (by decide +kernel) ⟨Nat.le_of_ble_eq_true rfl, Nat.le_of_ble_eq_true rfl⟩) (z_preS hK hW) rfl rfl hl.1 rfl (lv_room (Nat.le_of_ble_eq_true rfl)) dX12_rule_1 ⟨Nat.le_of_ble_eq_true rfl, Nat.le_of_ble_eq_true rfl⟩) (fun r u1 H locs hp hW hS => ?_)
  obtain ⟨e9, hp⟩ := hp
  rw [e9] at hW
  rcases hp with ⟨rfl, h1⟩ | ⟨rfl, h1⟩
  · have h2 := h1
    refine lv_if_eq (tgt := 14) hx hb dX12_rule_4 (by decide) (fun c3 => absurd c3 (by decide)) (fun c3 => ?_)
    refine lv_iload_n hx hb dX12_rule_7 rfl (lv_at hl 2 rfl) ?_
    refine z_ci hW hS hA (va_runS (As := [.int a2]) (rest := []) ⟨hx, hb, hml, hown, hts⟩ (sx_X12_isDay_e l G ad I J  a2 _) (va_cwS 1 hts gX12_rule_X12_isDay rfl rfl rfl (by decide +kernel) ⟨Nat.le_of_ble_eq_true rfl, Nat.le_of_ble_eq_true rfl⟩) (z_preS hK hW) rfl rfl hl.1 rfl (lv_room (Nat.le_of_ble_eq_true rfl)) dX12_rule_8 ⟨Nat.le_of_ble_eq_true rfl, Nat.le_of_ble_eq_true rfl⟩) (fun r u1 H locs hp hW hS => ?_)
    obtain ⟨e9, hp⟩ := hp
    rw [e9] at hW
    rcases hp with ⟨rfl, h4⟩ | ⟨rfl, h4⟩
    · have h5 := h4
      refine lv_if_ne (tgt := 18) hx hb dX12_rule_11 (by decide) (fun c6 => ?_) (fun c6 => absurd c6 (by decide))
      refine lv_iload_n hx hb dX12_rule_18 rfl (lv_at hl 3 rfl) ?_
      refine lv_iconst (v := 5) hx hb dX12_rule_19 (by decide) ?_
      refine lv_icmp_ne (tgt := 32) hx hb dX12_rule_20 (by decide) (fun c7 => ?_) (fun c7 => ?_)
      · have g8 := z_f_ne rfl z_l5 c7
        have b9 := Int32.toInt_lt a3
        refine lv_iload_n hx hb dX12_rule_32 rfl (lv_at hl 3 rfl) ?_
        refine lv_iconst (v := 0) hx hb dX12_rule_33 (by decide) ?_
        refine lv_iconst (v := 4) hx hb dX12_rule_34 (by decide) ?_
        refine z_ci hW hS hA (va_runS (As := [.int a3, .int 0, .int 4]) (rest := []) ⟨hx, hb, hml, hown, hts⟩ (sx_X12_within_e l G ad I J  a3 0 4 _) (va_cwS 3 hts gX12_rule_X12_within rfl rfl rfl (by decide +kernel) ⟨Nat.le_of_ble_eq_true rfl, Nat.le_of_ble_eq_true rfl⟩) (z_preS hK hW) rfl rfl hl.1 rfl (lv_room (Nat.le_of_ble_eq_true rfl)) dX12_rule_35 ⟨Nat.le_of_ble_eq_true rfl, Nat.le_of_ble_eq_true rfl⟩) (fun r u1 H locs hp hW hS => ?_)
        obtain ⟨e9, hp⟩ := hp
        rw [e9] at hW
        rcases hp with ⟨rfl, h11⟩ | ⟨rfl, h11⟩
        · have h12 := h11
          have z13 := z_l0
          have z14 := z_l4
          refine lv_if_eq (tgt := 53) hx hb dX12_rule_38 (by decide) (fun c15 => absurd c15 (by decide)) (fun c15 => ?_)
          refine lv_aload_n hx hb dX12_rule_41 rfl (lv_at hl 0 rfl) ?_
          refine lv_iload_n hx hb dX12_rule_42 rfl (lv_at hl 1 rfl) ?_
          refine lv_iload_n hx hb dX12_rule_43 rfl (lv_at hl 2 rfl) ?_
          refine lv_iconst (v := 3) hx hb dX12_rule_44 (by decide) ?_
          refine lv_iload_n hx hb dX12_rule_45 rfl (lv_at hl 3 rfl) ?_
          refine lv_iadd hx hb dX12_rule_46 ?_
          refine lv_topi (fun x16 ex16 => ?_)
          have tx16 : x16.toInt = 3 + a3.toInt := z_tadd ex16 z_l3 rfl (by omega) (by omega)
          refine z_ci hW hS hA (va_runV (As := [.int a1, .int a2, .int x16]) (rest := []) ⟨hx, hb, hml, hown, hts⟩ (sx_X12_number_x l G ad I J ⟨(by show 0 ≤ (I 0 13).toInt ∧ (I 0 13).toInt ≤ 12; exact hmb.1), (by show 0 ≤ (I 0 14).toInt ∧ (I 0 14).toInt ≤ 288; exact hmb.2)⟩ hAtf hAtm a1 a2 x16 (by omega) _) (cwV 3 hts gX12_rule_X12_number rfl rfl rfl (by decide +kernel) ⟨Nat.le_of_ble_eq_true rfl, Nat.le_of_ble_eq_true rfl⟩) (z_preV (i := 0) hK hW rfl rfl) rfl rfl hl.1 rfl (lv_room (Nat.le_of_ble_eq_true rfl)) dX12_rule_47 ⟨Nat.le_of_ble_eq_true rfl, Nat.le_of_ble_eq_true rfl⟩) (fun r u1 H locs hp hW hS => ?_)
          obtain ⟨e9, hp⟩ := hp
          rw [e9] at hW
          refine lv_topi (fun x17 ex17 => ?_)
          rw [← ex17] at hp
          have hRx17 := hp
          rw [show x16.toInt - 3 = a3.toInt by omega] at hRx17
          refine lv_goto (tgt := 54) hx hb dX12_rule_50 (by decide) ?_
          exact z_iret hx hb hr hK hS (Nat.le_of_ble_eq_true rfl) (Nat.le_of_ble_eq_true rfl) hlocks dX12_rule_54 (shM, ad, I, J, PM ad) hW ⟨rfl, (Or.inr ⟨⟨by omega, by omega, by omega, by omega⟩, Or.inr (Or.inr ⟨by omega, by omega, hRx17⟩)⟩)⟩
        · have h18 := h11
          have z19 := z_l0
          have z20 := z_l4
          refine lv_if_eq (tgt := 53) hx hb dX12_rule_38 (by decide) (fun c21 => ?_) (fun c21 => absurd (by decide) c21)
          refine lv_iconst (v := (-1)) hx hb dX12_rule_53 (by decide) ?_
          exact z_iret hx hb hr hK hS (Nat.le_of_ble_eq_true rfl) (Nat.le_of_ble_eq_true rfl) hlocks dX12_rule_54 (shM, ad, I, J, PM ad) hW ⟨rfl, (by first | exact Or.inl ⟨by omega, by decide⟩ | exact Or.inr ⟨⟨by omega, by omega, by omega, by omega⟩, Or.inr (Or.inl ⟨by omega, by decide⟩)⟩)⟩
      · have g22 := z_f_eq rfl z_l5 c7
        have b23 := Int32.toInt_lt a3
        refine lv_aload_n hx hb dX12_rule_23 rfl (lv_at hl 0 rfl) ?_
        refine lv_iload_n hx hb dX12_rule_24 rfl (lv_at hl 1 rfl) ?_
        refine lv_iload_n hx hb dX12_rule_25 rfl (lv_at hl 2 rfl) ?_
        refine z_ci hW hS hA (va_runV (As := [.int a1, .int a2]) (rest := []) ⟨hx, hb, hml, hown, hts⟩ (sx_X12_inForce_x l G ad I J ⟨(by show 0 ≤ (I 0 13).toInt ∧ (I 0 13).toInt ≤ 12; exact hmb.1), (by show 0 ≤ (I 0 14).toInt ∧ (I 0 14).toInt ≤ 288; exact hmb.2)⟩ a1 a2 _) (cwV 2 hts gX12_rule_X12_inForce rfl rfl rfl (by decide +kernel) ⟨Nat.le_of_ble_eq_true rfl, Nat.le_of_ble_eq_true rfl⟩) (z_preV (i := 0) hK hW rfl rfl) rfl rfl hl.1 rfl (lv_room (Nat.le_of_ble_eq_true rfl)) dX12_rule_26 ⟨Nat.le_of_ble_eq_true rfl, Nat.le_of_ble_eq_true rfl⟩) (fun r u1 H locs hp hW hS => ?_)
        obtain ⟨e9, hp⟩ := hp
        rw [e9] at hW
        refine lv_topi (fun x24 ex24 => ?_)
        rw [← ex24] at hp
        obtain ⟨hB_x24, h25⟩ := hp
        refine lv_goto (tgt := 54) hx hb dX12_rule_29 (by decide) ?_
        exact z_iret hx hb hr hK hS (Nat.le_of_ble_eq_true rfl) (Nat.le_of_ble_eq_true rfl) hlocks dX12_rule_54 (shM, ad, I, J, PM ad) hW ⟨rfl, (Or.inr ⟨⟨by omega, by omega, by omega, by omega⟩, Or.inl ⟨by omega, hB_x24⟩⟩)⟩
    · have h26 := h4
      refine lv_if_ne (tgt := 18) hx hb dX12_rule_11 (by decide) (fun c27 => absurd (by decide) c27) (fun c27 => ?_)
      refine lv_iconst (v := (-1)) hx hb dX12_rule_14 (by decide) ?_
      refine lv_goto (tgt := 54) hx hb dX12_rule_15 (by decide) ?_
      exact z_iret hx hb hr hK hS (Nat.le_of_ble_eq_true rfl) (Nat.le_of_ble_eq_true rfl) hlocks dX12_rule_54 (shM, ad, I, J, PM ad) hW ⟨rfl, (by first | exact Or.inl ⟨by omega, by decide⟩ | exact Or.inr ⟨⟨by omega, by omega, by omega, by omega⟩, Or.inr (Or.inl ⟨by omega, by decide⟩)⟩)⟩
  · have h28 := h1
    refine lv_if_eq (tgt := 14) hx hb dX12_rule_4 (by decide) (fun c29 => ?_) (fun c29 => absurd (by decide) c29)
    refine lv_iconst (v := (-1)) hx hb dX12_rule_14 (by decide) ?_
    refine lv_goto (tgt := 54) hx hb dX12_rule_15 (by decide) ?_
    exact z_iret hx hb hr hK hS (Nat.le_of_ble_eq_true rfl) (Nat.le_of_ble_eq_true rfl) hlocks dX12_rule_54 (shM, ad, I, J, PM ad) hW ⟨rfl, (by first | exact Or.inl ⟨by omega, by decide⟩ | exact Or.inr ⟨⟨by omega, by omega, by omega, by omega⟩, Or.inr (Or.inl ⟨by omega, by decide⟩)⟩)⟩
