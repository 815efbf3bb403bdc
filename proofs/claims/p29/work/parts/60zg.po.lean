

/-! PORTS -/
noncomputable def zk_rX (I1 I : z_I) (n : Nat) (v0 : Int32) : Prop := ∀ j, I1 42 j = if j = n then v0 else I 42 j
noncomputable def zk_rM (I1 I : z_I) (n : Nat) (v0 : Int32) : Prop := ∀ j, I1 52 j = if j = n then v0 else I 52 j
noncomputable def zk_sX (I1 I : z_I) : Prop := ∀ j, I1 42 j = I 42 j
noncomputable def zk_sM (I1 I : z_I) : Prop := ∀ j, I1 52 j = I 52 j
noncomputable def L_X4_addPort_k : z_L := [(42, 999), (41, 10)]
set_option maxHeartbeats 8000000 in
set_option maxRecDepth 100000 in
theorem sx_X4_addPort_k (l : Launch) (G : z_G) (ad : Nat → Nat) (c : z_C) (I : z_I) (hL : z_iL I) (a1 : Int32) : z_M l yX4_addPort wsX4_addPort { frames := 1, cells := 0, slots := 0, locals := 12 } [.ref (ad 41), .int a1] G (shC c, ad, I, JX, PC c ad) (fun r u1 => ∃ I1 : z_I, u1 = (shC c, ad, I1, JX, PC c ad) ∧ z_iL I1 ∧ z_fr L_X4_addPort_k I1 I ∧ ((((I 41 10).toInt < 4) ∧ r.toInt = (I 41 10).toInt ∧ (I1 41 10).toInt = (I 41 10).toInt + 1 ∧ zk_rX I1 I (I 41 10).toNatClampNeg a1) ∨ (¬ ((I 41 10).toInt < 4) ∧ r.toInt = -1 ∧ (I1 41 10).toInt = (I 41 10).toInt ∧ zk_sX I1 I))) 0 0 := by
  intro sz
  refine z_headQ (cc := cX4_addPort) (maxL := 2) (ret := (some .int)) (by decide) rfl (Nat.le_of_ble_eq_true rfl) ?_
  intro p e s m below meth c0 ls hIn hK hsz hW hl
  obtain ⟨hx, hb, hr, hml, hown, hts, hlocks, hname⟩ := hIn
  subst hsz
  have hown : s.vm.findClass RX4 = some m.cls := hown
  have hA : ∀ q : Nat, s.heap.size ≤ q → z_A (shC c, ad, I, JX, PC c ad) s.heap.size q := fun q h => Or.inr h
  generalize hAe : z_A (shC c, ad, I, JX, PC c ad) s.heap.size = A at *
  have hS : va_S A s.heap s.heap [] := va_S.rf
  have hl : lv_has ls 2 [(0, .ref (ad 41)), (1, .int a1)] := hl
  refine lv_aload_n hx hb dX4_addPort_0 rfl (lv_at hl 0 rfl) ?_
  have r1 : 0 ≤ (I 41 10).toInt ∧ (I 41 10).toInt ≤ 4 := hL
  refine z_get (T := TX4) (N := 13) (ci := 4) (i := 41) (v := .int (I 41 10)) hx hb hts zj_X4_addPort_X4 hown hK hW rfl rfl 10 (by decide) (hts (.fieldLink RX4 44 "PetrolBoard$Loads" "ports" "I") (me_s (me_l (List.mem_of_getElem? (i := 0) rfl)))) (fun _ h => h) rfl dX4_addPort_1 ?_
  refine lv_iconst (v := 4) hx hb dX4_addPort_4 (by decide) ?_
  refine lv_icmp_lt (tgt := 10) hx hb dX4_addPort_5 (by decide) (fun c2 => ?_) (fun c2 => ?_)
  · have g3 := z_f_lt rfl z_l4 c2
    refine lv_aload_n hx hb dX4_addPort_10 rfl (lv_at hl 0 rfl) ?_
    refine z_get (T := TX4) (N := 13) (ci := 4) (i := 41) (v := .ref (ad 42)) hx hb hts zj_X4_addPort_X4 hown hK hW rfl rfl 0 (by decide) (hts (.fieldLink RX4 9 "PetrolBoard$Loads" "inPort" "[I") (me_s (me_l (List.mem_of_getElem? (i := 1) rfl)))) (fun _ h => h) rfl dX4_addPort_11 ?_
    refine lv_aload_n hx hb dX4_addPort_14 rfl (lv_at hl 0 rfl) ?_
    refine z_get (T := TX4) (N := 13) (ci := 4) (i := 41) (v := .int (I 41 10)) hx hb hts zj_X4_addPort_X4 hown hK hW rfl rfl 10 (by decide) (hts (.fieldLink RX4 44 "PetrolBoard$Loads" "ports" "I") (me_s (me_l (List.mem_of_getElem? (i := 0) rfl)))) (fun _ h => h) rfl dX4_addPort_15 ?_
    refine lv_iload_n hx hb dX4_addPort_18 rfl (lv_at hl 1 rfl) ?_
    refine z_iast (i := 42) hx hb hK hW hS rfl (z_ix rfl (by omega) (by omega)) dX4_addPort_19 (fun H locs hz1 hW hS => ?_)
    obtain ⟨I4, eI4⟩ : ∃ K : z_I, K = z_up I 42 (I 41 10).toNatClampNeg a1 := ⟨_, rfl⟩
    rw [← eI4] at hW
    have f5 := z_fr_a z_fr_0 (show z_wa L_X4_addPort_k 42 = true by decide) eI4
    refine lv_aload_n hx hb dX4_addPort_20 rfl (lv_at hl 0 rfl) ?_
    refine lv_dup hx hb dX4_addPort_21 rfl ?_
    refine z_get (T := TX4) (N := 13) (ci := 4) (i := 41) (v := .int (I 41 10)) hx hb hts zj_X4_addPort_X4 hown hK hW rfl rfl 10 (by decide) (hts (.fieldLink RX4 44 "PetrolBoard$Loads" "ports" "I") (me_s (me_l (List.mem_of_getElem? (i := 0) rfl)))) (fun _ h => h) (congrArg Value.int (by rw [eI4, z_up_n (by decide)])) dX4_addPort_22 ?_
    refine lv_iconst (v := 1) hx hb dX4_addPort_25 (by decide) ?_
    refine lv_iadd hx hb dX4_addPort_26 ?_
    refine lv_topi (fun x6 ex6 => ?_)
    have tx6 : x6.toInt = (I 41 10).toInt + 1 := z_tadd ex6 rfl z_l1 (by omega) (by omega)
    refine z_put (T := TX4) (N := 13) (ci := 4) (i := 41) (v := .int x6) (I1 := z_up I4 41 10 x6) (J1 := JX) (P1 := PC c ad) hx hb hts zj_X4_addPort_X4 tyX4 tyX4_ok nmX4 hown hK hW hS rfl rfl 10 (by decide) (hts (.fieldLink RX4 44 "PetrolBoard$Loads" "ports" "I") (me_s (me_l (List.mem_of_getElem? (i := 0) rfl)))) (fun _ h => h) rfl rfl rfl (by first | rfl | exact congrArg _ z_up_s) (fun a b h ty => z_vI h ty) dX4_addPort_27 (fun H locs hz1 hW hS => ?_)
    obtain ⟨I7, eI7⟩ : ∃ K : z_I, K = z_up I4 41 10 x6 := ⟨_, rfl⟩
    rw [← eI7] at hW
    have f8 := z_fr_k f5 (show z_wr L_X4_addPort_k 41 10 = true by decide) eI7
    refine lv_aload_n hx hb dX4_addPort_30 rfl (lv_at hl 0 rfl) ?_
    refine z_get (T := TX4) (N := 13) (ci := 4) (i := 41) (v := .int x6) hx hb hts zj_X4_addPort_X4 hown hK hW rfl rfl 10 (by decide) (hts (.fieldLink RX4 44 "PetrolBoard$Loads" "ports" "I") (me_s (me_l (List.mem_of_getElem? (i := 0) rfl)))) (fun _ h => h) (congrArg Value.int (by rw [eI7, z_up_s])) dX4_addPort_31 ?_
    refine lv_iconst (v := 1) hx hb dX4_addPort_34 (by decide) ?_
    refine lv_isub hx hb dX4_addPort_35 ?_
    refine lv_topi (fun x9 ex9 => ?_)
    have tx9 : x9.toInt = x6.toInt - 1 := z_tsub ex9 rfl z_l1 (by omega) (by omega)
    exact z_iret hx hb hr hK hS (Nat.le_of_ble_eq_true rfl) (Nat.le_of_ble_eq_true rfl) hlocks dX4_addPort_36 (shC c, ad, I7, JX, PC c ad) hW ⟨I7, rfl, (by show 0 ≤ (I7 41 10).toInt ∧ (I7 41 10).toInt ≤ 4; rw [eI7, z_up_s]; omega), f8, (Or.inl ⟨by omega, by omega, (by have q9 : (I7 41 10) = x6 := (by rw [eI7, z_up_s]); show (I7 41 10).toInt = (I 41 10).toInt + 1; rw [q9]; first | done | omega), (fun j => by rw [eI7, z_up_n (by decide), eI4, z_up_j])⟩)⟩
  · have g10 := z_f_nlt rfl z_l4 c2
    refine lv_iconst (v := (-1)) hx hb dX4_addPort_8 (by decide) ?_
    exact z_iret hx hb hr hK hS (Nat.le_of_ble_eq_true rfl) (Nat.le_of_ble_eq_true rfl) hlocks dX4_addPort_9 (shC c, ad, I, JX, PC c ad) hW ⟨I, rfl, (by show 0 ≤ (I 41 10).toInt ∧ (I 41 10).toInt ≤ 4; exact hL), z_fr_0, (Or.inr ⟨by omega, by decide, (by show (I 41 10).toInt = (I 41 10).toInt; omega), (fun j => rfl)⟩)⟩
noncomputable def L_X11_port_k : z_L := [(42, 999), (41, 10)]
set_option maxHeartbeats 8000000 in
set_option maxRecDepth 100000 in
theorem sx_X11_port_k (l : Launch) (G : z_G) (ad : Nat → Nat) (c : z_C) (I : z_I) (hL : z_iL I) (a1 : Int32) (hc : z_okc c) (h10 : c.1 ≤ 10) : z_M l yX11_port wsX11_port { frames := 2, cells := 0, slots := 0, locals := 34 } [.ref (ad 0), .int a1] G (shC c, ad, I, JX, PC c ad) (fun r u1 => ∃ I1 : z_I, u1 = (shC c, ad, I1, JX, PC c ad) ∧ z_iL I1 ∧ z_fr L_X11_port_k I1 I ∧ (((0 ≤ a1.toInt ∧ a1.toInt ≤ 50 ∧ (I 41 10).toInt < 4) ∧ r.toInt = (I 41 10).toInt ∧ (I1 41 10).toInt = (I 41 10).toInt + 1 ∧ zk_rX I1 I (I 41 10).toNatClampNeg a1) ∨ (¬ (0 ≤ a1.toInt ∧ a1.toInt ≤ 50 ∧ (I 41 10).toInt < 4) ∧ r.toInt = -1 ∧ (I1 41 10).toInt = (I 41 10).toInt ∧ zk_sX I1 I))) 0 0 := by
  intro sz
  refine z_headQ (cc := cX11_port) (maxL := 2) (ret := (some .int)) (by decide) rfl (Nat.le_of_ble_eq_true rfl) ?_
  intro p e s m below meth c0 ls hIn hK hsz hW hl
  obtain ⟨hx, hb, hr, hml, hown, hts, hlocks, hname⟩ := hIn
  subst hsz
  have hown : s.vm.findClass RX11 = some m.cls := hown
  have hA : ∀ q : Nat, s.heap.size ≤ q → z_A (shC c, ad, I, JX, PC c ad) s.heap.size q := fun q h => Or.inr h
  generalize hAe : z_A (shC c, ad, I, JX, PC c ad) s.heap.size = A at *
  have hS : va_S A s.heap s.heap [] := va_S.rf
  have hl : lv_has ls 2 [(0, .ref (ad 0)), (1, .int a1)] := hl
  refine lv_iload_n hx hb dX11_port_0 rfl (lv_at hl 1 rfl) ?_
  refine lv_iconst (v := 0) hx hb dX11_port_1 (by decide) ?_
  refine lv_bipush (v := 50) hx hb dX11_port_2 (by decide) ?_
  refine z_ci hW hS hA (va_runS (As := [.int a1, .int 0, .int 50]) (rest := []) ⟨hx, hb, hml, hown, hts⟩ (sx_X11_within_e l G ad c I  a1 0 50 _) (va_cwS 3 hts gX11_port_X11_within rfl rfl rfl (by decide +kernel) ⟨Nat.le_of_ble_eq_true rfl, Nat.le_of_ble_eq_true rfl⟩) (z_preS hK hW) rfl rfl hl.1 rfl (lv_room (Nat.le_of_ble_eq_true rfl)) dX11_port_4 ⟨Nat.le_of_ble_eq_true rfl, Nat.le_of_ble_eq_true rfl⟩) (fun r u1 H locs hp hW hS => ?_)
  obtain ⟨e9, hp⟩ := hp
  rw [e9] at hW
  rcases hp with ⟨rfl, h1⟩ | ⟨rfl, h1⟩
  · have h2 := h1
    have z3 := z_l0
    have z4 := z_l50
    refine lv_if_ne (tgt := 12) hx hb dX11_port_7 (by decide) (fun c5 => ?_) (fun c5 => absurd c5 (by decide))
    refine lv_aload_n hx hb dX11_port_12 rfl (lv_at hl 0 rfl) ?_
    refine z_get (T := TX11) (N := 13) (ci := 11) (i := 0) (v := .ref (ad 41)) hx hb hts zj_X11_port_X11 hown hK hW rfl rfl 10 (by decide) (hts (.fieldLink RX11 61 "PetrolBoard" "loads" "LPetrolBoard$Loads;") (me_s (me_l (me_l (List.mem_of_getElem? (i := 0) rfl))))) (fun _ h => h) rfl dX11_port_13 ?_
    refine lv_iload_n hx hb dX11_port_16 rfl (lv_at hl 1 rfl) ?_
    refine z_ci hW hS hA (va_runV (As := [.int a1]) (rest := []) ⟨hx, hb, hml, hown, hts⟩ (sx_X4_addPort_k l G ad c I (by show 0 ≤ (I 41 10).toInt ∧ (I 41 10).toInt ≤ 4; exact hL) a1 _) (cwV 1 hts gX11_port_X4_addPort rfl rfl rfl (by decide +kernel) ⟨Nat.le_of_ble_eq_true rfl, Nat.le_of_ble_eq_true rfl⟩) (z_preV (i := 41) hK hW rfl rfl) rfl rfl hl.1 rfl (lv_room (Nat.le_of_ble_eq_true rfl)) dX11_port_17 ⟨Nat.le_of_ble_eq_true rfl, Nat.le_of_ble_eq_true rfl⟩) (fun r u1 H locs hp hW hS => ?_)
    obtain ⟨I6, e9, hI6L, fI6, hp⟩ := hp
    rw [e9] at hW
    have f7 := z_fr_sub (L := L_X11_port_k) z_fr_0 fI6 (by decide)
    refine lv_topi (fun x8 ex8 => ?_)
    rw [← ex8] at hp
    rcases hp with ⟨h9, h11, h12, h13⟩ | ⟨h9, h11, h12, h13⟩
    · exact z_iret hx hb hr hK hS (Nat.le_of_ble_eq_true rfl) (Nat.le_of_ble_eq_true rfl) hlocks dX11_port_20 (shC c, ad, I6, JX, PC c ad) hW ⟨I6, rfl, (by show 0 ≤ (I6 41 10).toInt ∧ (I6 41 10).toInt ≤ 4; exact hI6L), f7, (Or.inl ⟨by omega, by omega, (by show (I6 41 10).toInt = (I 41 10).toInt + 1; omega), h13⟩)⟩
    · exact z_iret hx hb hr hK hS (Nat.le_of_ble_eq_true rfl) (Nat.le_of_ble_eq_true rfl) hlocks dX11_port_20 (shC c, ad, I6, JX, PC c ad) hW ⟨I6, rfl, (by show 0 ≤ (I6 41 10).toInt ∧ (I6 41 10).toInt ≤ 4; exact hI6L), f7, (Or.inr ⟨by omega, by omega, (by show (I6 41 10).toInt = (I 41 10).toInt; omega), h13⟩)⟩
  · have h14 := h1
    have z15 := z_l0
    have z16 := z_l50
    refine lv_if_ne (tgt := 12) hx hb dX11_port_7 (by decide) (fun c17 => absurd (by decide) c17) (fun c17 => ?_)
    refine lv_iconst (v := (-1)) hx hb dX11_port_10 (by decide) ?_
    exact z_iret hx hb hr hK hS (Nat.le_of_ble_eq_true rfl) (Nat.le_of_ble_eq_true rfl) hlocks dX11_port_11 (shC c, ad, I, JX, PC c ad) hW ⟨I, rfl, (by show 0 ≤ (I 41 10).toInt ∧ (I 41 10).toInt ≤ 4; exact hL), z_fr_0, (Or.inr ⟨by omega, by decide, (by show (I 41 10).toInt = (I 41 10).toInt; omega), (fun j => rfl)⟩)⟩
noncomputable def L_X12_port_k : z_L := [(0, 75), (52, 999)]
set_option maxHeartbeats 8000000 in
set_option maxRecDepth 100000 in
theorem sx_X12_port_k (l : Launch) (G : z_G) (ad : Nat → Nat) (I : z_I) (J : z_J) (hmr : z_imr I) (hAld : z_rg 52 0 50 I) (a1 : Int32) : z_M l yX12_port wsX12_port { frames := 2, cells := 0, slots := 0, locals := 34 } [.ref (ad 0), .int a1] G (shM, ad, I, J, PM ad) (fun r u1 => ∃ (I1 : z_I) (J1 : z_J), u1 = (shM, ad, I1, J1, PM ad) ∧ z_imr I1 ∧ z_rg 52 0 50 I1 ∧ z_fr L_X12_port_k I1 I ∧ (((0 ≤ a1.toInt ∧ a1.toInt ≤ 50 ∧ (I 0 75).toInt < 4) ∧ r.toInt = (I 0 75).toInt ∧ (I1 0 75).toInt = (I 0 75).toInt + 1 ∧ zk_rM I1 I (I 0 75).toNatClampNeg a1) ∨ (¬ (0 ≤ a1.toInt ∧ a1.toInt ≤ 50 ∧ (I 0 75).toInt < 4) ∧ r.toInt = -1 ∧ (I1 0 75).toInt = (I 0 75).toInt ∧ zk_sM I1 I))) 0 0 := by
  intro sz
  refine z_headQ (cc := cX12_port) (maxL := 2) (ret := (some .int)) (by decide) rfl (Nat.le_of_ble_eq_true rfl) ?_
  intro p e s m below meth c0 ls hIn hK hsz hW hl
  obtain ⟨hx, hb, hr, hml, hown, hts, hlocks, hname⟩ := hIn
  subst hsz
  have hown : s.vm.findClass RX12 = some m.cls := hown
  have hA : ∀ q : Nat, s.heap.size ≤ q → z_A (shM, ad, I, J, PM ad) s.heap.size q := fun q h => Or.inr h
  generalize hAe : z_A (shM, ad, I, J, PM ad) s.heap.size = A at *
  have hS : va_S A s.heap s.heap [] := va_S.rf
  have hl : lv_has ls 2 [(0, .ref (ad 0)), (1, .int a1)] := hl
  refine lv_iload_n hx hb dX12_port_0 rfl (lv_at hl 1 rfl) ?_
  refine lv_iconst (v := 0) hx hb dX12_port_1 (by decide) ?_
  refine lv_bipush (v := 50) hx hb dX12_port_2 (by decide) ?_
  refine z_ci hW hS hA (va_runS (As := [.int a1, .int 0, .int 50]) (rest := []) ⟨hx, hb, hml, hown, hts⟩ (sx_X12_within_e l G ad I J  a1 0 50 _) (va_cwS 3 hts gX12_port_X12_within rfl rfl rfl (by decide +kernel) ⟨Nat.le_of_ble_eq_true rfl, Nat.le_of_ble_eq_true rfl⟩) (z_preS hK hW) rfl rfl hl.1 rfl (lv_room (Nat.le_of_ble_eq_true rfl)) dX12_port_4 ⟨Nat.le_of_ble_eq_true rfl, Nat.le_of_ble_eq_true rfl⟩) (fun r u1 H locs hp hW hS => ?_)
  obtain ⟨e9, hp⟩ := hp
  rw [e9] at hW
  rcases hp with ⟨rfl, h1⟩ | ⟨rfl, h1⟩
  · have h2 := h1
    have z3 := z_l0
    have z4 := z_l50
    refine lv_if_eq (tgt := 18) hx hb dX12_port_7 (by decide) (fun c5 => absurd c5 (by decide)) (fun c5 => ?_)
    refine lv_aload_n hx hb dX12_port_10 rfl (lv_at hl 0 rfl) ?_
    have r6 : 0 ≤ (I 0 75).toInt ∧ (I 0 75).toInt ≤ 4 := hmr
    refine z_get (T := TX12) (N := 96) (ci := 12) (i := 0) (v := .int (I 0 75)) hx hb hts zj_X12_port_X12 hown hK hW rfl rfl 75 (by decide) (hts (.fieldLink RX12 493 "PetrolBoardModel" "ports" "I") (me_s (me_l (List.mem_of_getElem? (i := 0) rfl)))) (fun _ h => h) rfl dX12_port_11 ?_
    refine lv_iconst (v := 4) hx hb dX12_port_14 (by decide) ?_
    refine lv_icmp_ne (tgt := 20) hx hb dX12_port_15 (by decide) (fun c7 => ?_) (fun c7 => ?_)
    · have g8 := z_f_ne rfl z_l4 c7
      refine lv_aload_n hx hb dX12_port_20 rfl (lv_at hl 0 rfl) ?_
      refine z_get (T := TX12) (N := 96) (ci := 12) (i := 0) (v := .ref (ad 52)) hx hb hts zj_X12_port_X12 hown hK hW rfl rfl 76 (by decide) (hts (.fieldLink RX12 172 "PetrolBoardModel" "loadsOf" "[I") (me_s (me_l (List.mem_of_getElem? (i := 1) rfl)))) (fun _ h => h) rfl dX12_port_21 ?_
      refine lv_aload_n hx hb dX12_port_24 rfl (lv_at hl 0 rfl) ?_
      refine z_get (T := TX12) (N := 96) (ci := 12) (i := 0) (v := .int (I 0 75)) hx hb hts zj_X12_port_X12 hown hK hW rfl rfl 75 (by decide) (hts (.fieldLink RX12 493 "PetrolBoardModel" "ports" "I") (me_s (me_l (List.mem_of_getElem? (i := 0) rfl)))) (fun _ h => h) rfl dX12_port_25 ?_
      refine lv_iload_n hx hb dX12_port_28 rfl (lv_at hl 1 rfl) ?_
      refine z_iast (i := 52) hx hb hK hW hS rfl (z_ix rfl (by omega) (by omega)) dX12_port_29 (fun H locs hz1 hW hS => ?_)
      obtain ⟨I9, eI9⟩ : ∃ K : z_I, K = z_up I 52 (I 0 75).toNatClampNeg a1 := ⟨_, rfl⟩
      rw [← eI9] at hW
      have f10 := z_fr_a z_fr_0 (show z_wa L_X12_port_k 52 = true by decide) eI9
      have a11 := z_rg_a hAld (by omega) eI9
      refine lv_aload_n hx hb dX12_port_30 rfl (lv_at hl 0 rfl) ?_
      refine lv_dup hx hb dX12_port_31 rfl ?_
      refine z_get (T := TX12) (N := 96) (ci := 12) (i := 0) (v := .int (I 0 75)) hx hb hts zj_X12_port_X12 hown hK hW rfl rfl 75 (by decide) (hts (.fieldLink RX12 493 "PetrolBoardModel" "ports" "I") (me_s (me_l (List.mem_of_getElem? (i := 0) rfl)))) (fun _ h => h) (congrArg Value.int (by rw [eI9, z_up_n (by decide)])) dX12_port_32 ?_
      refine lv_iconst (v := 1) hx hb dX12_port_35 (by decide) ?_
      refine lv_iadd hx hb dX12_port_36 ?_
      refine lv_topi (fun x12 ex12 => ?_)
      have tx12 : x12.toInt = (I 0 75).toInt + 1 := z_tadd ex12 rfl z_l1 (by omega) (by omega)
      refine z_put (T := TX12) (N := 96) (ci := 12) (i := 0) (v := .int x12) (I1 := z_up I9 0 75 x12) (J1 := J) (P1 := PM ad) hx hb hts zj_X12_port_X12 tyX12 tyX12_ok nmX12 hown hK hW hS rfl rfl 75 (by decide) (hts (.fieldLink RX12 493 "PetrolBoardModel" "ports" "I") (me_s (me_l (List.mem_of_getElem? (i := 0) rfl)))) (fun _ h => h) rfl rfl rfl (by first | rfl | exact congrArg _ z_up_s) (fun a b h ty => z_vI h ty) dX12_port_37 (fun H locs hz1 hW hS => ?_)
      obtain ⟨I13, eI13⟩ : ∃ K : z_I, K = z_up I9 0 75 x12 := ⟨_, rfl⟩
      rw [← eI13] at hW
      have f14 := z_fr_k f10 (show z_wr L_X12_port_k 0 75 = true by decide) eI13
      have a15 := z_rg_n a11 (by decide) eI13
      refine lv_aload_n hx hb dX12_port_40 rfl (lv_at hl 0 rfl) ?_
      refine z_get (T := TX12) (N := 96) (ci := 12) (i := 0) (v := .int x12) hx hb hts zj_X12_port_X12 hown hK hW rfl rfl 75 (by decide) (hts (.fieldLink RX12 493 "PetrolBoardModel" "ports" "I") (me_s (me_l (List.mem_of_getElem? (i := 0) rfl)))) (fun _ h => h) (congrArg Value.int (by rw [eI13, z_up_s])) dX12_port_41 ?_
      refine lv_iconst (v := 1) hx hb dX12_port_44 (by decide) ?_
      refine lv_isub hx hb dX12_port_45 ?_
      refine lv_topi (fun x16 ex16 => ?_)
      have tx16 : x16.toInt = x12.toInt - 1 := z_tsub ex16 rfl z_l1 (by omega) (by omega)
      exact z_iret hx hb hr hK hS (Nat.le_of_ble_eq_true rfl) (Nat.le_of_ble_eq_true rfl) hlocks dX12_port_46 (shM, ad, I13, J, PM ad) hW ⟨I13, J, rfl, (by show 0 ≤ (I13 0 75).toInt ∧ (I13 0 75).toInt ≤ 4; rw [eI13, z_up_s]; omega), a15, f14, (Or.inl ⟨by omega, by omega, (by have q9 : (I13 0 75) = x12 := (by rw [eI13, z_up_s]); show (I13 0 75).toInt = (I 0 75).toInt + 1; rw [q9]; first | done | omega), (fun j => by rw [eI13, z_up_n (by decide), eI9, z_up_j])⟩)⟩
    · have g17 := z_f_eq rfl z_l4 c7
      refine lv_iconst (v := (-1)) hx hb dX12_port_18 (by decide) ?_
      exact z_iret hx hb hr hK hS (Nat.le_of_ble_eq_true rfl) (Nat.le_of_ble_eq_true rfl) hlocks dX12_port_19 (shM, ad, I, J, PM ad) hW ⟨I, J, rfl, (by show 0 ≤ (I 0 75).toInt ∧ (I 0 75).toInt ≤ 4; exact hmr), hAld, z_fr_0, (Or.inr ⟨by omega, by decide, (by show (I 0 75).toInt = (I 0 75).toInt; omega), (fun j => rfl)⟩)⟩
  · have h18 := h1
    have z19 := z_l0
    have z20 := z_l50
    refine lv_if_eq (tgt := 18) hx hb dX12_port_7 (by decide) (fun c21 => ?_) (fun c21 => absurd (by decide) c21)
    refine lv_iconst (v := (-1)) hx hb dX12_port_18 (by decide) ?_
    exact z_iret hx hb hr hK hS (Nat.le_of_ble_eq_true rfl) (Nat.le_of_ble_eq_true rfl) hlocks dX12_port_19 (shM, ad, I, J, PM ad) hW ⟨I, J, rfl, (by show 0 ≤ (I 0 75).toInt ∧ (I 0 75).toInt ≤ 4; exact hmr), hAld, z_fr_0, (Or.inr ⟨by omega, by decide, (by show (I 0 75).toInt = (I 0 75).toInt; omega), (fun j => rfl)⟩)⟩
