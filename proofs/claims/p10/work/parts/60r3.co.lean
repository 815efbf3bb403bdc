

/-! a text of the class -/
theorem zo_hi {L : z_L} {a k : Nat} (hL : L.all (fun e => decide (e.1 < 100)) = true) (ha : 100 ≤ a) : z_wr L a k = false := by
  cases hz : z_wr L a k with
  | false => rfl
  | true =>
    exfalso
    unfold z_wr at hz
    rw [List.any_eq_true] at hz
    obtain ⟨e, he, h2⟩ := hz
    rw [List.all_eq_true] at hL
    have h3 := hL e he
    simp only [z_ce, Bool.and_eq_true, Bool.or_eq_true, beq_iff_eq, decide_eq_true_eq] at h2 h3
    omega
theorem zo_c4 {I : z_I} {i : Nat} (hi : 200 ≤ i) : ∀ n q, q < n → n ≤ 4 → z_c4 I i z_src n (i + 1 + q) = I (z_src q)
  | 0, q, h, _ => absurd h (by omega)
  | n + 1, q, h, h4 => by
    show z_cpI (z_c4 I i z_src n) (z_src n) (i + 1 + n) (i + 1 + q) = _
    by_cases e : q = n
    · subst e
      funext b
      have h1 : z_cpI (z_c4 I i z_src q) (z_src q) (i + 1 + q) (i + 1 + q) b = z_c4 I i z_src q (z_src q) b := if_pos rfl
      rw [h1, z_c4_n q (by unfold z_src; split <;> omega)]
    · rw [z_cpI_n (by omega)]
      exact zo_c4 hi n q (by omega) (by omega)
noncomputable def zo_ok (I : z_I) (n mo : Int) : Prop := 0 ≤ n ∧ n ≤ (I 12 1).toInt ∧ 0 ≤ mo ∧ mo ≤ 23
/-- what orders() does -/
noncomputable def zo_PO (c c1 : z_C) (I I1 : z_I) (n mo r : Int) : Prop :=
  (r = -2 ∧ ¬ zo_ok I n mo ∧ I1 = I ∧ c1 = c) ∨ (r = -3 ∧ zo_ok I n mo ∧ c.2.1 = 12 ∧ I1 = I ∧ c1 = c) ∨
  (zo_ok I n mo ∧ c.2.1 ≠ 12 ∧ (I1 12 1).toInt = 0 ∧ (∀ a k, 200 ≤ a → a < z_o0 c → I1 a k = I a k) ∧ ∃ Ir : z_I, zr_RE (zx_h I n.toNat) Ir (I1 0 1).toInt ∧
    ((r = -1 ∧ (I1 0 1).toInt ≠ -1 ∧ c1 = c) ∨
     (r = (c.2.1 : Int) ∧ (I1 0 1).toInt = -1 ∧ c1 = z_c2 c (Ir 12 13).toNatClampNeg (Ir 12 9).toNatClampNeg ∧ (I1 (z_o0 c) 0).toInt = mo ∧ I1 (z_o0 c) 1 = I 0 0 ∧ 0 ≤ (Ir 12 9).toInt ∧ ∀ q, q < 4 → ∀ k, I1 (z_o0 c + 1 + q) k = Ir (z_src q) k)))
set_option maxHeartbeats 8000000 in
set_option maxRecDepth 100000 in
theorem sx_X11_isMonth_e (l : Launch) (G : z_G) (ad : Nat → Nat) (c : z_C) (I : z_I) (a1 : Int32) : z_M l yX11_isMonth wsX11_isMonth { frames := 2, cells := 0, slots := 0, locals := 34 } [.int a1] G (shC c, ad, I, JX, PC c ad) (fun r u1 => u1 = (shC c, ad, I, JX, PC c ad) ∧ ((r = 1 ∧ 0 ≤ a1.toInt ∧ a1.toInt ≤ 23) ∨ (r = 0 ∧ ¬ (0 ≤ a1.toInt ∧ a1.toInt ≤ 23)))) 0 0 := by
  intro sz
  refine z_headQ (cc := cX11_isMonth) (maxL := 1) (ret := (some .boolean)) (by decide) rfl (Nat.le_of_ble_eq_true rfl) ?_
  intro p e s m below meth c0 ls hIn hK hsz hW hl
  obtain ⟨hx, hb, hr, hml, hown, hts, hlocks, hname⟩ := hIn
  subst hsz
  have hown : s.vm.findClass RX11 = some m.cls := hown
  have hA : ∀ q : Nat, s.heap.size ≤ q → z_A (shC c, ad, I, JX, PC c ad) s.heap.size q := fun q h => Or.inr h
  generalize hAe : z_A (shC c, ad, I, JX, PC c ad) s.heap.size = A at *
  have hS : va_S A s.heap s.heap [] := va_S.rf
  have hl : lv_has ls 1 [(0, .int a1)] := hl
  refine lv_iload_n hx hb dX11_isMonth_0 rfl (lv_at hl 0 rfl) ?_
  refine lv_iconst (v := 0) hx hb dX11_isMonth_1 (by decide) ?_
  refine lv_bipush (v := 23) hx hb dX11_isMonth_2 (by decide) ?_
  refine z_ci hW hS hA (va_runS (As := [.int a1, .int 0, .int 23]) (rest := []) ⟨hx, hb, hml, hown, hts⟩ (sx_X11_within_e l G ad c I  a1 0 23 _) (va_cwS 3 hts gX11_isMonth_X11_within rfl rfl rfl (by decide +kernel) ⟨Nat.le_of_ble_eq_true rfl, Nat.le_of_ble_eq_true rfl⟩) (z_preS hK hW) rfl rfl hl.1 rfl (lv_room (Nat.le_of_ble_eq_true rfl)) dX11_isMonth_4 ⟨Nat.le_of_ble_eq_true rfl, Nat.le_of_ble_eq_true rfl⟩) (fun r u1 H locs hp hW hS => ?_)
  obtain ⟨e9, hp⟩ := hp
  rw [e9] at hW
  rcases hp with ⟨rfl, h1⟩ | ⟨rfl, h1⟩
  · have h2 := h1
    have z3 := z_l0
    have z4 := z_l23
    exact z_zret hx hb hr (by decide) hK hS (Nat.le_of_ble_eq_true rfl) (Nat.le_of_ble_eq_true rfl) hlocks dX11_isMonth_7 (shC c, ad, I, JX, PC c ad) hW ⟨rfl, (Or.inl ⟨rfl, by omega⟩)⟩
  · have h5 := h1
    have z6 := z_l0
    have z7 := z_l23
    exact z_zret hx hb hr (by decide) hK hS (Nat.le_of_ble_eq_true rfl) (Nat.le_of_ble_eq_true rfl) hlocks dX11_isMonth_7 (shC c, ad, I, JX, PC c ad) hW ⟨rfl, (Or.inr ⟨rfl, by omega⟩)⟩
set_option maxHeartbeats 8000000 in
set_option maxRecDepth 100000 in
theorem sx_X6_add_x (l : Launch) (G : z_G) (sh : Nat → Option z_S) (ad : Nat → Nat) (I : z_I) (J : z_J) (P : z_P) (j : Nat) (s21 : sh 21 = some (.inr 6)) (s22 : sh 22 = some (.inl (.object RX7, 12))) (hj : sh j = some (.inr 7)) (p0 : P 21 0 = some (ad 22)) (hn : 0 ≤ (I 21 2).toInt ∧ (I 21 2).toInt ≤ 11) : z_M l yX6_add wsX6_add { frames := 1, cells := 0, slots := 0, locals := 12 } [.ref (ad 21), .ref (ad j)] G (sh, ad, I, J, P) (fun r u1 => ∃ y : Int32, y.toInt = (I 21 2).toInt + 1 ∧ r.toInt = (I 21 2).toInt ∧ u1 = (sh, ad, z_up I 21 2 y, J, z_up P 22 (I 21 2).toNatClampNeg (some (ad j)))) 0 0 := by
  intro sz
  refine z_headQ (cc := cX6_add) (maxL := 2) (ret := (some .int)) (by decide) rfl (Nat.le_of_ble_eq_true rfl) ?_
  intro p e s m below meth c0 ls hIn hK hsz hW hl
  obtain ⟨hx, hb, hr, hml, hown, hts, hlocks, hname⟩ := hIn
  subst hsz
  have hown : s.vm.findClass RX6 = some m.cls := hown
  have hA : ∀ q : Nat, s.heap.size ≤ q → z_A (sh, ad, I, J, P) s.heap.size q := fun q h => Or.inr h
  generalize hAe : z_A (sh, ad, I, J, P) s.heap.size = A at *
  have hS : va_S A s.heap s.heap [] := va_S.rf
  have hl : lv_has ls 2 [(0, .ref (ad 21)), (1, .ref (ad j))] := hl
  refine lv_aload_n hx hb dX6_add_0 rfl (lv_at hl 0 rfl) ?_
  refine z_get (T := TX6) (N := 3) (ci := 6) (i := 21) (v := .int (I 21 2)) hx hb hts zj_X6_add_X6 hown hK hW s21 rfl 2 (by decide) (hts (.fieldLink RX6 24 "PetrolBoard$OrderBook" "number" "I") (me_s (me_l (List.mem_of_getElem? (i := 0) rfl)))) (fun _ h => h) rfl dX6_add_1 ?_
  refine lv_aload_n hx hb dX6_add_4 rfl (lv_at hl 0 rfl) ?_
  refine z_get (T := TX6) (N := 3) (ci := 6) (i := 21) (v := .ref (ad 22)) hx hb hts zj_X6_add_X6 hown hK hW s21 rfl 0 (by decide) (hts (.fieldLink RX6 11 "PetrolBoard$OrderBook" "told" "[LPetrolBoard$Orders;") (me_s (me_l (List.mem_of_getElem? (i := 1) rfl)))) (fun _ h => h) (congrArg va_rf p0) dX6_add_5 ?_
  refine z_alen (i := 22) (v := 12) hx hb hK hW s22 (by simp [z_tys]) (by rfl) dX6_add_8 ?_
  refine lv_icmp_lt (tgt := 14) hx hb dX6_add_9 (by decide) (fun c1 => ?_) (fun c1 => absurd (z_f_nlt rfl (show (12 : Int32).toInt = 12 by decide) c1) (by omega))
  refine lv_aload_n hx hb dX6_add_14 rfl (lv_at hl 0 rfl) ?_
  refine z_get (T := TX6) (N := 3) (ci := 6) (i := 21) (v := .ref (ad 22)) hx hb hts zj_X6_add_X6 hown hK hW s21 rfl 0 (by decide) (hts (.fieldLink RX6 11 "PetrolBoard$OrderBook" "told" "[LPetrolBoard$Orders;") (me_s (me_l (List.mem_of_getElem? (i := 1) rfl)))) (fun _ h => h) (congrArg va_rf p0) dX6_add_15 ?_
  refine lv_aload_n hx hb dX6_add_18 rfl (lv_at hl 0 rfl) ?_
  refine z_get (T := TX6) (N := 3) (ci := 6) (i := 21) (v := .int (I 21 2)) hx hb hts zj_X6_add_X6 hown hK hW s21 rfl 2 (by decide) (hts (.fieldLink RX6 24 "PetrolBoard$OrderBook" "number" "I") (me_s (me_l (List.mem_of_getElem? (i := 0) rfl)))) (fun _ h => h) rfl dX6_add_19 ?_
  refine lv_aload_n hx hb dX6_add_22 rfl (lv_at hl 1 rfl) ?_
  refine z_aast (i := 22) (j := j) (x := I 21 2) (ci := 7) hx hb hK hW hS s22 (by simp [z_tys]) hj rfl (z_ix rfl (by omega) (by omega)) dX6_add_23 (fun H locs hz1 hW hS => ?_)
  refine lv_aload_n hx hb dX6_add_24 rfl (lv_at hl 0 rfl) ?_
  refine lv_dup hx hb dX6_add_25 rfl ?_
  refine z_get (T := TX6) (N := 3) (ci := 6) (i := 21) (v := .int (I 21 2)) hx hb hts zj_X6_add_X6 hown hK hW s21 rfl 2 (by decide) (hts (.fieldLink RX6 24 "PetrolBoard$OrderBook" "number" "I") (me_s (me_l (List.mem_of_getElem? (i := 0) rfl)))) (fun _ h => h) rfl dX6_add_26 ?_
  refine lv_iconst (v := 1) hx hb dX6_add_29 (by decide) ?_
  refine lv_iadd hx hb dX6_add_30 ?_
  refine lv_topi (fun y ey => ?_)
  have ty : y.toInt = (I 21 2).toInt + 1 := z_tadd ey rfl (show (1 : Int32).toInt = 1 by decide) (by omega) (by omega)
  refine z_put (T := TX6) (N := 3) (ci := 6) (i := 21) (v := .int y) (I1 := z_up I 21 2 y) (J1 := J) (P1 := z_up P 22 (I 21 2).toNatClampNeg (some (ad j))) hx hb hts zj_X6_add_X6 tyX6 tyX6_ok nmX6 hown hK hW hS s21 rfl 2 (by decide) (hts (.fieldLink RX6 24 "PetrolBoard$OrderBook" "number" "I") (me_s (me_l (List.mem_of_getElem? (i := 0) rfl)))) (fun _ h => h) rfl rfl rfl (by first | rfl | exact congrArg _ z_up_s) (fun a b h ty => z_vI h ty) dX6_add_31 (fun H locs hz1 hW hS => ?_)
  refine lv_aload_n hx hb dX6_add_34 rfl (lv_at hl 0 rfl) ?_
  refine z_get (T := TX6) (N := 3) (ci := 6) (i := 21) (v := .int y) hx hb hts zj_X6_add_X6 hown hK hW s21 rfl 2 (by decide) (hts (.fieldLink RX6 24 "PetrolBoard$OrderBook" "number" "I") (me_s (me_l (List.mem_of_getElem? (i := 0) rfl)))) (fun _ h => h) (congrArg Value.int z_up_s) dX6_add_35 ?_
  refine lv_iconst (v := 1) hx hb dX6_add_38 (by decide) ?_
  refine lv_isub hx hb dX6_add_39 ?_
  refine lv_topi (fun z ez => ?_)
  have tz : z.toInt = (I 21 2).toInt := by have := z_tsub ez ty (show (1 : Int32).toInt = 1 by decide) (by omega) (by omega); omega
  exact z_iret hx hb hr hK hS (Nat.le_of_ble_eq_true rfl) (Nat.le_of_ble_eq_true rfl) hlocks dX6_add_40 (sh, ad, z_up I 21 2 y, J, z_up P 22 (I 21 2).toNatClampNeg (some (ad j))) hW ⟨y, ty, tz, rfl⟩
noncomputable def L_X11_orders_x : z_L := [(14, 999), (16, 999), (15, 999), (12, 5), (12, 1), (12, 9), (12, 13), (12, 6), (12, 7), (17, 999), (20, 999), (19, 999), (18, 999), (0, 1), (21, 2)]
set_option maxHeartbeats 8000000 in
set_option maxRecDepth 100000 in
theorem sx_X11_orders_x (l : Launch) (G : z_G) (adK adV : Nat → Nat) (ad : Nat → Nat) (c : z_C) (I : z_I) (hR : z_iR I) (hB : z_iB I) (hO : z_iO I) (a1 : Int32) (a2 : Int32) (htx : ∀ p : Nat, (p : Int) < (I 12 1).toInt → 0 ≤ (I 13 p).toInt) (hc : z_okc c) (hc10 : c.1 ≤ 10) (hon : (I 21 2).toInt = (c.2.1 : Int)) : z_MN (z_Cq adK adV) l yX11_orders wsX11_orders { frames := 88, cells := 5, slots := 2006, locals := 1923 } [.ref (ad 0), .int a1, .int a2] G (shC c, ad, I, JX, PC c ad) (fun r u1 => ∃ (c1 : z_C) (ad1 : Nat → Nat) (I1 : z_I), u1 = (shC c1, ad1, I1, JX, PC c1 ad1) ∧ c1.1 = c.1 ∧ z_okc c1 ∧ (I1 21 2).toInt = (c1.2.1 : Int) ∧ z_iR I1 ∧ z_iO I1 ∧ (∀ j, j < 200 → ad1 j = ad j) ∧ (∀ a k, a < 200 → z_wr L_X11_orders_x a k = false → I1 a k = I a k) ∧ zo_PO c c1 I I1 a1.toInt a2.toInt r.toInt) 5 2006 := by
  intro sz
  refine z_headN (cc := cX11_orders) (maxL := 3) (ret := (some .int)) (by decide) rfl (Nat.le_of_ble_eq_true rfl) ?_
  intro p e s m below meth c0 ls hIn hK hsz hW hl hKn
  obtain ⟨hx, hb, hr, hml, hown, hts, hlocks, hname⟩ := hIn
  subst hsz
  have hown : s.vm.findClass RX11 = some m.cls := hown
  have hA : ∀ q : Nat, s.heap.size ≤ q → z_A (shC c, ad, I, JX, PC c ad) s.heap.size q := fun q h => Or.inr h
  generalize hAe : z_A (shC c, ad, I, JX, PC c ad) s.heap.size = A at *
  have hS : va_S A s.heap s.heap [] := va_S.rf
  have hl : lv_has ls 3 [(0, .ref (ad 0)), (1, .int a1), (2, .int a2)] := hl
  refine lv_iload_n hx hb dX11_orders_0 rfl (lv_at hl 1 rfl) ?_
  refine lv_if_lt (tgt := 22) hx hb dX11_orders_1 (by decide) (fun c1 => ?_) (fun c1 => ?_)
  · have g2 := z_f_lt rfl z_l0 c1
    have b3 := Int32.toInt_lt a1
    refine lv_bipush (v := (-2)) hx hb dX11_orders_22 (by decide) ?_
    exact z_iret hx hb hr hK hS (Nat.le_of_ble_eq_true rfl) (Nat.le_of_ble_eq_true rfl) hlocks dX11_orders_24 (shC c, ad, I, JX, PC c ad) hW ⟨c, ad, I, rfl, rfl, hc, hon, ⟨(by show 0 ≤ (I 12 1).toInt ∧ (I 12 1).toInt ≤ 500; exact hR.1), (by show 0 ≤ (I 12 5).toInt ∧ (I 12 5).toInt ≤ 501; exact hR.2.1), (by show (-1) ≤ (I 12 6).toInt ∧ (I 12 6).toInt ≤ 1000000; exact hR.2.2.1), (by show 0 ≤ (I 12 9).toInt ∧ (I 12 9).toInt ≤ 500; exact hR.2.2.2.1), (by show 0 ≤ (I 12 13).toInt ∧ (I 12 13).toInt ≤ 24; exact hR.2.2.2.2)⟩, (by show 0 ≤ (I 21 2).toInt ∧ (I 21 2).toInt ≤ 12; exact hO), (fun _ _ => rfl), (fun _ _ _ _ => rfl), (Or.inl ⟨by decide, fun q => by unfold zo_ok at q; omega, rfl, rfl⟩)⟩
  · have g4 := z_f_nlt rfl z_l0 c1
    have b5 := Int32.toInt_lt a1
    refine lv_iload_n hx hb dX11_orders_4 rfl (lv_at hl 1 rfl) ?_
    refine lv_aload_n hx hb dX11_orders_5 rfl (lv_at hl 0 rfl) ?_
    refine z_get (T := TX11) (N := 13) (ci := 11) (i := 0) (v := .ref (ad 12)) hx hb hts zj_X11_orders_X11 hown hK hW rfl rfl 3 (by decide) (hts (.fieldLink RX11 23 "PetrolBoard" "reader" "LPetrolBoard$Reader;") (me_s (me_l (me_l (me_l (me_l (me_l (List.mem_of_getElem? (i := 0) rfl)))))))) (fun _ h => h) rfl dX11_orders_6 ?_
    have r6 : 0 ≤ (I 12 1).toInt ∧ (I 12 1).toInt ≤ 500 := hR.1
    refine z_get (T := TX9) (N := 14) (ci := 9) (i := 12) (v := .int (I 12 1)) hx hb hts zj_X11_orders_X9 hown hK hW rfl rfl 1 (by decide) (hts (.fieldLink RX11 115 "PetrolBoard$Reader" "taped" "I") (me_s (me_l (me_l (me_l (me_l (me_l (List.mem_of_getElem? (i := 1) rfl)))))))) (fun _ h => h) rfl dX11_orders_9 ?_
    refine lv_icmp_gt (tgt := 22) hx hb dX11_orders_12 (by decide) (fun c7 => ?_) (fun c7 => ?_)
    · have g8 := z_f_gt rfl rfl c7
      refine lv_bipush (v := (-2)) hx hb dX11_orders_22 (by decide) ?_
      exact z_iret hx hb hr hK hS (Nat.le_of_ble_eq_true rfl) (Nat.le_of_ble_eq_true rfl) hlocks dX11_orders_24 (shC c, ad, I, JX, PC c ad) hW ⟨c, ad, I, rfl, rfl, hc, hon, ⟨(by show 0 ≤ (I 12 1).toInt ∧ (I 12 1).toInt ≤ 500; exact hR.1), (by show 0 ≤ (I 12 5).toInt ∧ (I 12 5).toInt ≤ 501; exact hR.2.1), (by show (-1) ≤ (I 12 6).toInt ∧ (I 12 6).toInt ≤ 1000000; exact hR.2.2.1), (by show 0 ≤ (I 12 9).toInt ∧ (I 12 9).toInt ≤ 500; exact hR.2.2.2.1), (by show 0 ≤ (I 12 13).toInt ∧ (I 12 13).toInt ≤ 24; exact hR.2.2.2.2)⟩, (by show 0 ≤ (I 21 2).toInt ∧ (I 21 2).toInt ≤ 12; exact hO), (fun _ _ => rfl), (fun _ _ _ _ => rfl), (Or.inl ⟨by decide, fun q => by unfold zo_ok at q; omega, rfl, rfl⟩)⟩
    · have g9 := z_f_ngt rfl rfl c7
      refine lv_iload_n hx hb dX11_orders_15 rfl (lv_at hl 2 rfl) ?_
      refine z_ci hW hS hA (va_runS (As := [.int a2]) (rest := []) ⟨hx, hb, hml, hown, hts⟩ (sx_X11_isMonth_e l G ad c I  a2 _) (va_cwS 1 hts gX11_orders_X11_isMonth rfl rfl rfl (by decide +kernel) ⟨Nat.le_of_ble_eq_true rfl, Nat.le_of_ble_eq_true rfl⟩) (z_preS hK hW) rfl rfl hl.1 rfl (lv_room (Nat.le_of_ble_eq_true rfl)) dX11_orders_16 ⟨Nat.le_of_ble_eq_true rfl, Nat.le_of_ble_eq_true rfl⟩) (fun r u1 H locs hp hW hS => ?_)
      obtain ⟨e9, hp⟩ := hp
      rw [e9] at hW
      rcases hp with ⟨rfl, h11⟩ | ⟨rfl, h11⟩
      · have h12 := h11
        refine lv_if_ne (tgt := 25) hx hb dX11_orders_19 (by decide) (fun c13 => ?_) (fun c13 => absurd c13 (by decide))
        refine lv_aload_n hx hb dX11_orders_25 rfl (lv_at hl 0 rfl) ?_
        refine z_get (T := TX11) (N := 13) (ci := 11) (i := 0) (v := .ref (ad 21)) hx hb hts zj_X11_orders_X11 hown hK hW rfl rfl 4 (by decide) (hts (.fieldLink RX11 30 "PetrolBoard" "orderBook" "LPetrolBoard$OrderBook;") (me_s (me_l (me_l (me_l (me_l (me_l (List.mem_of_getElem? (i := 2) rfl)))))))) (fun _ h => h) rfl dX11_orders_26 ?_
        have r14 : 0 ≤ (I 21 2).toInt ∧ (I 21 2).toInt ≤ 12 := hO
        refine z_get (T := TX6) (N := 3) (ci := 6) (i := 21) (v := .int (I 21 2)) hx hb hts zj_X11_orders_X6 hown hK hW rfl rfl 2 (by decide) (hts (.fieldLink RX11 125 "PetrolBoard$OrderBook" "number" "I") (me_s (me_l (me_l (me_l (me_l (me_l (List.mem_of_getElem? (i := 3) rfl)))))))) (fun _ h => h) rfl dX11_orders_29 ?_
        refine lv_bipush (v := 12) hx hb dX11_orders_32 (by decide) ?_
        refine lv_icmp_lt (tgt := 40) hx hb dX11_orders_34 (by decide) (fun c15 => ?_) (fun c15 => ?_)
        · have g16 := z_f_lt rfl z_l12 c15
          refine lv_aload_n hx hb dX11_orders_40 rfl (lv_at hl 0 rfl) ?_
          refine lv_aload_n hx hb dX11_orders_41 rfl (lv_at hl 0 rfl) ?_
          refine z_get (T := TX11) (N := 13) (ci := 11) (i := 0) (v := .ref (ad 12)) hx hb hts zj_X11_orders_X11 hown hK hW rfl rfl 3 (by decide) (hts (.fieldLink RX11 23 "PetrolBoard" "reader" "LPetrolBoard$Reader;") (me_s (me_l (me_l (me_l (me_l (me_l (List.mem_of_getElem? (i := 0) rfl)))))))) (fun _ h => h) rfl dX11_orders_42 ?_
          refine lv_iload_n hx hb dX11_orders_45 rfl (lv_at hl 1 rfl) ?_
          refine z_ci hW hS hA (va_runV (As := [.int a1]) (rest := [.ref (ad 0)]) ⟨hx, hb, hml, hown, hts⟩ (sx_X9_read_x l G adK adV ad c I ⟨(by show 0 ≤ (I 12 1).toInt ∧ (I 12 1).toInt ≤ 500; exact hR.1), (by show 0 ≤ (I 12 5).toInt ∧ (I 12 5).toInt ≤ 501; exact hR.2.1), (by show (-1) ≤ (I 12 6).toInt ∧ (I 12 6).toInt ≤ 1000000; exact hR.2.2.1), (by show 0 ≤ (I 12 9).toInt ∧ (I 12 9).toInt ≤ 500; exact hR.2.2.2.1), (by show 0 ≤ (I 12 13).toInt ∧ (I 12 13).toInt ≤ 24; exact hR.2.2.2.2)⟩ a1.toInt.toNat a1 (by omega) (by omega) (by omega) (by omega) (fun p hp => by unfold zx_h; rw [if_pos hp]; exact htx p (by omega)) _) (cwV 1 hts gX11_orders_X9_read rfl rfl rfl (by decide +kernel) ⟨Nat.le_of_ble_eq_true rfl, Nat.le_of_ble_eq_true rfl⟩) (z_preVN (z_Ck.nice adK adV) (i := 12) hK hW hS hA hKn.1 rfl rfl) rfl rfl hl.1 rfl (lv_room (Nat.le_of_ble_eq_true rfl)) dX11_orders_46 ⟨Nat.le_of_ble_eq_true rfl, Nat.le_of_ble_eq_true rfl⟩) (fun r u1 H locs hp hW hS => ?_)
          obtain ⟨I17, e9, hI17R, fI17, hp⟩ := hp
          rw [e9] at hW
          have f18 := z_fr_sub (L := L_X11_orders_x) z_fr_0 fI17 (by decide)
          have k19 : 0 ≤ (I17 0 0).toInt ∧ (I17 0 0).toInt ≤ 719 := by rw [fI17 0 0 (by decide)]; exact (by show 0 ≤ (I 0 0).toInt ∧ (I 0 0).toInt ≤ 719; exact hB.1)
          have k20 : 0 ≤ (I17 0 8).toInt ∧ (I17 0 8).toInt ≤ 10 := by rw [fI17 0 8 (by decide)]; exact (by show 0 ≤ (I 0 8).toInt ∧ (I 0 8).toInt ≤ 10; exact hB.2)
          have k21 : 0 ≤ (I17 21 2).toInt ∧ (I17 21 2).toInt ≤ 12 := by rw [fI17 21 2 (by decide)]; exact (by show 0 ≤ (I 21 2).toInt ∧ (I 21 2).toInt ≤ 12; exact hO)
          refine lv_topi (fun x22 ex22 => ?_)
          rw [← ex22] at hp
          obtain ⟨hRE, hTA⟩ := hp
          have tz9 : x22 = x22 := rfl
          refine z_put (T := TX11) (N := 13) (ci := 11) (i := 0) (v := .int x22) (I1 := z_up I17 0 1 x22) (J1 := JX) (P1 := PC c ad) hx hb hts zj_X11_orders_X11 tyX11 tyX11_ok nmX11 hown hK hW hS rfl rfl 1 (by decide) (hts (.fieldLink RX11 9 "PetrolBoard" "faultPlace" "I") (me_s (me_l (me_l (me_l (me_l (me_l (List.mem_of_getElem? (i := 4) rfl)))))))) (fun _ h => h) rfl rfl rfl (by first | rfl | exact congrArg _ z_up_s) (fun a b h ty => z_vI h ty) dX11_orders_49 (fun H locs hz1 hW hS => ?_)
          obtain ⟨I23, eI23⟩ : ∃ K : z_I, K = z_up I17 0 1 x22 := ⟨_, rfl⟩
          rw [← eI23] at hW
          have f24 := z_fr_k f18 (show z_wr L_X11_orders_x 0 1 = true by decide) eI23
          refine lv_aload_n hx hb dX11_orders_52 rfl (lv_at hl 0 rfl) ?_
          refine z_get (T := TX11) (N := 13) (ci := 11) (i := 0) (v := .int x22) hx hb hts zj_X11_orders_X11 hown hK hW rfl rfl 1 (by decide) (hts (.fieldLink RX11 9 "PetrolBoard" "faultPlace" "I") (me_s (me_l (me_l (me_l (me_l (me_l (List.mem_of_getElem? (i := 4) rfl)))))))) (fun _ h => h) (congrArg Value.int (by rw [eI23, z_up_s])) dX11_orders_53 ?_
          refine lv_iconst (v := (-1)) hx hb dX11_orders_56 (by decide) ?_
          refine lv_icmp_eq (tgt := 62) hx hb dX11_orders_57 (by decide) (fun c25 => ?_) (fun c25 => ?_)
          · have g26 := z_f_eq rfl z_lm1 c25
            have b27 := Int32.toInt_lt x22
            have hon9 : (I23 21 2).toInt = (c.2.1 : Int) := by rw [eI23, z_up_n (by decide), fI17 21 2 (z_wr_c (by decide))]; exact hon
            have hR9 : z_iR I23 := ⟨(by show 0 ≤ (I23 12 1).toInt ∧ (I23 12 1).toInt ≤ 500; rw [eI23, z_up_n (by decide)]; exact hI17R.1), (by show 0 ≤ (I23 12 5).toInt ∧ (I23 12 5).toInt ≤ 501; rw [eI23, z_up_n (by decide)]; exact hI17R.2.1), (by show (-1) ≤ (I23 12 6).toInt ∧ (I23 12 6).toInt ≤ 1000000; rw [eI23, z_up_n (by decide)]; exact hI17R.2.2.1), (by show 0 ≤ (I23 12 9).toInt ∧ (I23 12 9).toInt ≤ 500; rw [eI23, z_up_n (by decide)]; exact hI17R.2.2.2.1), (by show 0 ≤ (I23 12 13).toInt ∧ (I23 12 13).toInt ≤ 24; rw [eI23, z_up_n (by decide)]; exact hI17R.2.2.2.2)⟩
            have hn9 : c.2.1 < 12 := by omega
            have hsz9 : ∃ q, q = H.size := ⟨_, rfl⟩
            obtain ⟨q0, hq0⟩ := hsz9
            obtain ⟨ad1, ead⟩ : ∃ f, f = z_ad5 ad (z_o0 c) H.size := ⟨_, rfl⟩
            obtain ⟨P1, eP1⟩ : ∃ f, f = z_P8 (PC c ad) (z_o0 c) := ⟨_, rfl⟩
            obtain ⟨I5, eI5⟩ : ∃ f, f = z_I5 I23 (z_o0 c) := ⟨_, rfl⟩
            have hlo : ∀ j, j < z_o0 c → ad1 j = ad j := fun j hj => by rw [ead]; exact if_neg (by omega)
            have h200 : 200 ≤ z_o0 c := by unfold z_o0; omega
            have h0ad : ad1 (z_o0 c) = H.size := by rw [ead]; show (if _ then _ else _) = _; rw [if_pos (by omega)]; omega
            have hPo : ∀ a k, a ≠ z_o0 c → P1 a k = PC c ad a k := fun a k ha => by rw [eP1]; exact if_neg ha
            have hIo : ∀ a k, a < 200 → I5 a k = I23 a k := fun a k ha => by rw [eI5]; exact if_neg (by omega)
            have hW := z_re5 (q := H.size) hW
            rw [← ead, ← eP1, ← eI5] at hW
            have hl : lv_has ls 3 [(0, .ref (ad1 0)), (1, .int a1), (2, .int a2)] := by rw [hlo 0 (by omega)]; exact hl
            refine lv_aload_n hx hb dX11_orders_62 rfl (lv_at hl 0 rfl) ?_
            refine z_get (T := TX11) (N := 13) (ci := 11) (i := 0) (v := .ref (ad1 21)) hx hb hts zj_X11_orders_X11 hown hK hW rfl rfl 4 (by decide) (hts (.fieldLink RX11 30 "PetrolBoard" "orderBook" "LPetrolBoard$OrderBook;") (me_s (me_l (me_l (me_l (me_l (me_l (List.mem_of_getElem? (i := 2) rfl)))))))) (fun _ h => h) (congrArg va_rf (show P1 0 4 = some (ad1 21) from by rw [hPo 0 4 (by omega), hlo 21 (by omega)]; rfl)) dX11_orders_63 ?_
            refine z_new (z_o0 c) ad1 (T := TX7) (N := 6) (ci := 7) hx hb hts zj_X11_orders_X7 tyX7 tyX7_ok hown (hts (.classLink RX11 132 RX7) (me_s (me_l (me_l (me_l (me_l (me_l (List.mem_of_getElem? (i := 5) rfl)))))))) (hts (.instantiable RX7 6) (me_s (me_l (me_l (me_l (me_l (me_l (List.mem_of_getElem? (i := 6) rfl)))))))) (hts (.initialized RX7) (me_s (me_l (me_l (me_l (me_l (me_l (List.mem_of_getElem? (i := 7) rfl)))))))) hK hW hS hA h0ad (fun _ _ => rfl) rfl (fun k hk => (z_v0 (by rw [eI5]; exact if_pos (by omega)) rfl (by rw [eP1]; exact if_pos rfl) (ndX7 k hk)).symm) (Nat.le_of_ble_eq_true rfl) (Nat.le_of_ble_eq_true rfl) dX11_orders_66 (fun H hz1 hW hS => ?_)
            refine lv_dup hx hb dX11_orders_69 rfl ?_
            refine lv_aload_n hx hb dX11_orders_70 rfl (lv_at hl 0 rfl) ?_
            have hso : ∀ a, a < 200 → z_sh (shC c) (z_o0 c) (.inr 7) a = shC c a := fun a ha => z_sh_n (by omega)
            refine z_get (T := TX11) (N := 13) (ci := 11) (i := 0) (v := .ref (ad1 12)) hx hb hts zj_X11_orders_X11 hown hK hW ((hso 0 (by decide)).trans rfl) rfl 3 (by decide) (hts (.fieldLink RX11 23 "PetrolBoard" "reader" "LPetrolBoard$Reader;") (me_s (me_l (me_l (me_l (me_l (me_l (List.mem_of_getElem? (i := 0) rfl)))))))) (fun _ h => h) (congrArg va_rf (show P1 0 3 = some (ad1 12) from by rw [hPo 0 3 (by omega), hlo 12 (by omega)]; rfl)) dX11_orders_71 ?_
            refine lv_iload_n hx hb dX11_orders_74 rfl (lv_at hl 2 rfl) ?_
            refine lv_aload_n hx hb dX11_orders_75 rfl (lv_at hl 0 rfl) ?_
            refine z_get (T := TX11) (N := 13) (ci := 11) (i := 0) (v := .int (I5 0 0)) hx hb hts zj_X11_orders_X11 hown hK hW ((hso 0 (by decide)).trans rfl) rfl 0 (by decide) (hts (.fieldLink RX11 85 "PetrolBoard" "today" "I") (me_s (me_l (me_l (me_l (me_l (me_l (List.mem_of_getElem? (i := 8) rfl)))))))) (fun _ h => h) rfl dX11_orders_76 ?_
            have hst9 : 0 ≤ (I5 12 13).toInt ∧ (I5 12 13).toInt ≤ 24 := by rw [hIo 12 13 (by decide)]; exact hR9.2.2.2.2
            have hus9 : 0 ≤ (I5 12 9).toInt ∧ (I5 12 9).toInt ≤ 500 := by rw [hIo 12 9 (by decide)]; exact hR9.2.2.2.1
            refine z_cv hW hS hA (va_runI (As := [.ref (ad1 12), .int a2, .int (I5 0 0)]) (rest := [.ref (ad1 (z_o0 c)), .ref (ad1 21)]) ⟨hx, hb, hml, hown, hts⟩ ((sx_X7_init l G adK adV (z_sh (shC c) (z_o0 c) (.inr 7)) ad1 I5 JX P1 (z_o0 c) a2 (I5 0 0) (by simp [z_sh]) h200 (hso 12 (by decide)) (hso 17 (by decide)) (hso 18 (by decide)) (hso 19 (by decide)) (hso 20 (by decide)) (by rw [hPo 12 10 (by omega), hlo 18 (by omega)]; rfl) (by rw [hPo 12 11 (by omega), hlo 19 (by omega)]; rfl) (by rw [hPo 12 12 (by omega), hlo 20 (by omega)]; rfl) (by rw [hPo 12 8 (by omega), hlo 17 (by omega)]; rfl) (fun j hj => (z_sh_n (by omega)).trans (z_shC_05 ⟨by omega, by omega⟩)) (fun j hj k => by rw [eI5]; exact if_pos (by omega)) hst9 hus9) _) (cwI 3 hts gX11_orders_X7_init rfl rfl rfl (hts (.initialized RX7) (me_s (me_l (me_l (me_l (me_l (me_l (List.mem_of_getElem? (i := 7) rfl)))))))) (hts (.methodLink RX11 134 yX7_init) (me_s (me_l (me_l (me_l (me_l (me_r (me_r (me_r (me_r (me_r (me_r (me_r (me_r (me_l (List.mem_of_getElem? (i := 2) rfl)))))))))))))))) (hts (.instanceMethod yX7_init) (me_s (me_l (me_l (me_l (me_l (me_r (me_r (me_r (me_r (me_r (me_r (me_r (me_r (me_l (List.mem_of_getElem? (i := 3) rfl)))))))))))))))) rfl (by decide +kernel) ⟨(Nat.le_of_ble_eq_true rfl), (Nat.le_of_ble_eq_true rfl)⟩) (z_preSN (z_Cq.nice adK adV) hK hW hS hA hKn) rfl rfl hl.1 rfl (lv_room (Nat.le_of_ble_eq_true rfl)) dX11_orders_79 ⟨(Nat.le_of_ble_eq_true rfl), (Nat.le_of_ble_eq_true rfl)⟩) (fun u1 H locs hp hW hS => ?_)
            obtain ⟨ad2, e9, had2⟩ := hp
            rw [e9] at hW
            have e21 : ad1 21 = ad2 21 := (had2 21 (by omega)).symm
            have eo : ad1 (z_o0 c) = ad2 (z_o0 c) := (had2 _ (by omega)).symm
            obtain ⟨I2, eI2⟩ : ∃ f, f = (z_c4 (z_up (z_up I5 (z_o0 c) 0 a2) (z_o0 c) 1 (I5 0 0)) (z_o0 c) z_src 4) := ⟨_, rfl⟩
            rw [← eI2] at hW
            have hI2 : ∀ a k, a < 200 → I2 a k = I23 a k := fun a k ha => by rw [eI2, z_c4_n 4 (by omega), z_up_n (by omega), z_up_n (by omega)]; exact hIo a k ha
            refine W.eq (g2 := F0 m 82 ls [.ref (ad2 (z_o0 c)), .ref (ad2 21)]) (by rw [e21, eo]) ?_
            refine z_ci hW hS hA (va_runV (As := [.ref (ad2 (z_o0 c))]) (rest := []) ⟨hx, hb, hml, hown, hts⟩ ((sx_X6_add_x l G (z_o4 (z_sh (shC c) (z_o0 c) (.inr 7)) (z_o0 c) (z_k4 (I5 12 13).toNatClampNeg (I5 12 9).toNatClampNeg) 4) ad2 I2 JX (z_ps z_f7 P1 (z_o0 c) ad2 4) (z_o0 c) ((z_o4_n 4 (by omega)).trans (hso 21 (by decide))) ((z_o4_n 4 (by omega)).trans (hso 22 (by decide))) ((z_o4_n 4 (by omega)).trans (by simp [z_sh])) (by rw [z_ps_n (by omega), hPo 21 0 (by omega), had2 22 (by omega), hlo 22 (by omega)]; rfl) (by rw [hI2 21 2 (by decide)]; omega)) _) (cwV 1 hts gX11_orders_X6_add rfl rfl rfl (by decide +kernel) ⟨(Nat.le_of_ble_eq_true rfl), (Nat.le_of_ble_eq_true rfl)⟩) (z_preV (i := 21) hK hW ((z_o4_n 4 (by omega)).trans (hso 21 (by decide))) rfl) rfl rfl hl.1 rfl (lv_room (Nat.le_of_ble_eq_true rfl)) dX11_orders_82 ⟨(Nat.le_of_ble_eq_true rfl), (Nat.le_of_ble_eq_true rfl)⟩) (fun r u1 H locs hp hW hS => ?_)
            obtain ⟨y, ty, tr9, e9⟩ := hp
            rw [e9] at hW
            have hx9 : (I2 21 2).toNatClampNeg = c.2.1 := by have g9 := z_clt (x := I2 21 2) rfl (by rw [hI2 21 2 (by decide)]; omega); rw [hI2 21 2 (by decide)] at g9 ⊢; omega
            have hW := z_or2 (ad := ad) (ad2 := ad2) hc10 hx9 (fun j hj => by rw [had2 j (by unfold z_o0; omega), ead]; exact if_neg (by unfold z_o0; omega)) (by rw [← eP1]; exact hW)
            obtain ⟨I3, eI3⟩ : ∃ f, f = z_up I2 21 2 y := ⟨_, rfl⟩
            rw [← eI3] at hW
            exact z_iret hx hb hr hK hS (Nat.le_of_ble_eq_true rfl) (Nat.le_of_ble_eq_true rfl) hlocks dX11_orders_85 (shC (z_c2 c (I5 12 13).toNatClampNeg (I5 12 9).toNatClampNeg), ad2, I3, JX, PC (z_c2 c (I5 12 13).toNatClampNeg (I5 12 9).toNatClampNeg) ad2) hW ⟨(z_c2 c (I5 12 13).toNatClampNeg (I5 12 9).toNatClampNeg), ad2, I3, rfl, rfl, z_okc2 hc (by have g9 := z_clt (x := I5 12 13) rfl hst9.1; omega) (by have g9 := z_clt (x := I5 12 9) rfl hus9.1; omega), (by rw [eI3, z_up_s, ty, hI2 21 2 (by decide), hon9]; rfl), (z_iR_3 hR9 (fun k => by rw [eI3, z_up_n (by decide)]; exact hI2 12 k (by decide))), (by show 0 ≤ (I3 21 2).toInt ∧ (I3 21 2).toInt ≤ 12; rw [eI3, z_up_s, ty, hI2 21 2 (by decide)]; omega), (fun j hj => by rw [had2 j (by omega)]; exact hlo j (by omega)), (fun a k ha hk => by rw [eI3]; by_cases q : a = 21; (· (by_cases q2 : k = 2; (· (exfalso; rw [q, q2] at hk; exact absurd hk (by decide))); (· (rw [z_up_k q2, hI2 a k ha]; exact f24 a k hk)))); (· (rw [z_up_n q, hI2 a k ha]; exact f24 a k hk))), (Or.inr (Or.inr ⟨⟨by omega, by omega, by omega, by omega⟩, by omega, (by rw [eI3, z_up_n (by decide), hI2 12 1 (by decide), eI23, z_up_n (by decide)]; exact hTA), (fun a k ha hz => by rw [eI3, z_up_n (by omega), eI2, z_c4_n 4 (by omega), z_up_n (by omega), z_up_n (by omega), eI5, show z_I5 I23 (z_o0 c) a k = I23 a k from if_neg (by omega)]; exact f24 a k (zo_hi (by decide) (by omega))), I17, by rw [(show (I3 0 1) = x22 from by rw [eI3, z_up_n (by decide), hI2 0 1 (by decide), eI23, z_up_s])]; exact hRE, Or.inr ⟨(by rw [tr9, hI2 21 2 (by decide)]; exact hon9), by rw [(show (I3 0 1) = x22 from by rw [eI3, z_up_n (by decide), hI2 0 1 (by decide), eI23, z_up_s])]; omega, by rw [(show I5 12 13 = I17 12 13 from by rw [hIo 12 13 (by decide), eI23, z_up_n (by omega)]), (show I5 12 9 = I17 12 9 from by rw [hIo 12 9 (by decide), eI23, z_up_n (by omega)])], by rw [eI3, z_up_n (by omega), eI2, z_c4_n 4 (by omega), z_up_k (by decide), z_up_s], by rw [eI3, z_up_n (by omega), eI2, z_c4_n 4 (by omega), z_up_s, hIo 0 0 (by decide)]; exact f24 0 0 (by decide), hI17R.2.2.2.1.1, fun q hq k => by rw [eI3, z_up_n (by omega), eI2, zo_c4 h200 4 q hq (by decide), z_up_n (by unfold z_src; split <;> omega), z_up_n (by unfold z_src; split <;> omega), hIo (z_src q) k (by unfold z_src; split <;> omega), eI23, z_up_n (by unfold z_src; split <;> omega)]⟩⟩))⟩
          · have g28 := z_f_ne rfl z_lm1 c25
            have b29 := Int32.toInt_lt x22
            refine lv_iconst (v := (-1)) hx hb dX11_orders_60 (by decide) ?_
            exact z_iret hx hb hr hK hS (Nat.le_of_ble_eq_true rfl) (Nat.le_of_ble_eq_true rfl) hlocks dX11_orders_61 (shC c, ad, I23, JX, PC c ad) hW ⟨c, ad, I23, rfl, rfl, hc, (by rw [eI23, z_up_n (by decide), fI17 21 2 (z_wr_c (by decide))]; exact hon), ⟨(by show 0 ≤ (I23 12 1).toInt ∧ (I23 12 1).toInt ≤ 500; rw [eI23, z_up_n (by decide)]; exact hI17R.1), (by show 0 ≤ (I23 12 5).toInt ∧ (I23 12 5).toInt ≤ 501; rw [eI23, z_up_n (by decide)]; exact hI17R.2.1), (by show (-1) ≤ (I23 12 6).toInt ∧ (I23 12 6).toInt ≤ 1000000; rw [eI23, z_up_n (by decide)]; exact hI17R.2.2.1), (by show 0 ≤ (I23 12 9).toInt ∧ (I23 12 9).toInt ≤ 500; rw [eI23, z_up_n (by decide)]; exact hI17R.2.2.2.1), (by show 0 ≤ (I23 12 13).toInt ∧ (I23 12 13).toInt ≤ 24; rw [eI23, z_up_n (by decide)]; exact hI17R.2.2.2.2)⟩, (by show 0 ≤ (I23 21 2).toInt ∧ (I23 21 2).toInt ≤ 12; rw [eI23, z_up_n (by decide)]; exact k21), (fun _ _ => rfl), (fun a k _ hk => f24 a k hk), (Or.inr (Or.inr ⟨⟨by omega, by omega, by omega, by omega⟩, by omega, (by rw [eI23, z_up_n (by decide)]; exact hTA), (fun a k ha _ => f24 a k (zo_hi (by decide) (by omega))), I17, by rw [(show (I23 0 1) = x22 from by rw [eI23, z_up_s])]; exact hRE, Or.inl ⟨by decide, by rw [(show (I23 0 1) = x22 from by rw [eI23, z_up_s])]; omega, rfl⟩⟩))⟩
        · have g30 := z_f_nlt rfl z_l12 c15
          refine lv_bipush (v := (-3)) hx hb dX11_orders_37 (by decide) ?_
          exact z_iret hx hb hr hK hS (Nat.le_of_ble_eq_true rfl) (Nat.le_of_ble_eq_true rfl) hlocks dX11_orders_39 (shC c, ad, I, JX, PC c ad) hW ⟨c, ad, I, rfl, rfl, hc, hon, ⟨(by show 0 ≤ (I 12 1).toInt ∧ (I 12 1).toInt ≤ 500; exact hR.1), (by show 0 ≤ (I 12 5).toInt ∧ (I 12 5).toInt ≤ 501; exact hR.2.1), (by show (-1) ≤ (I 12 6).toInt ∧ (I 12 6).toInt ≤ 1000000; exact hR.2.2.1), (by show 0 ≤ (I 12 9).toInt ∧ (I 12 9).toInt ≤ 500; exact hR.2.2.2.1), (by show 0 ≤ (I 12 13).toInt ∧ (I 12 13).toInt ≤ 24; exact hR.2.2.2.2)⟩, (by show 0 ≤ (I 21 2).toInt ∧ (I 21 2).toInt ≤ 12; exact hO), (fun _ _ => rfl), (fun _ _ _ _ => rfl), (Or.inr (Or.inl ⟨by decide, ⟨by omega, by omega, by omega, by omega⟩, by omega, rfl, rfl⟩))⟩
      · have h31 := h11
        refine lv_if_ne (tgt := 25) hx hb dX11_orders_19 (by decide) (fun c32 => absurd (by decide) c32) (fun c32 => ?_)
        refine lv_bipush (v := (-2)) hx hb dX11_orders_22 (by decide) ?_
        exact z_iret hx hb hr hK hS (Nat.le_of_ble_eq_true rfl) (Nat.le_of_ble_eq_true rfl) hlocks dX11_orders_24 (shC c, ad, I, JX, PC c ad) hW ⟨c, ad, I, rfl, rfl, hc, hon, ⟨(by show 0 ≤ (I 12 1).toInt ∧ (I 12 1).toInt ≤ 500; exact hR.1), (by show 0 ≤ (I 12 5).toInt ∧ (I 12 5).toInt ≤ 501; exact hR.2.1), (by show (-1) ≤ (I 12 6).toInt ∧ (I 12 6).toInt ≤ 1000000; exact hR.2.2.1), (by show 0 ≤ (I 12 9).toInt ∧ (I 12 9).toInt ≤ 500; exact hR.2.2.2.1), (by show 0 ≤ (I 12 13).toInt ∧ (I 12 13).toInt ≤ 24; exact hR.2.2.2.2)⟩, (by show 0 ≤ (I 21 2).toInt ∧ (I 21 2).toInt ≤ 12; exact hO), (fun _ _ => rfl), (fun _ _ _ _ => rfl), (Or.inl ⟨by decide, fun q => by unfold zo_ok at q; omega, rfl, rfl⟩)⟩
