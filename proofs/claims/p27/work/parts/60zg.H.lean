section SG60zg


/-! PORTS -/
noncomputable def zk_rX (I1 I : z_I) (n : Nat) (v0 : Int32) : Prop := ∀ j, I1 42 j = if j = n then v0 else I 42 j
noncomputable def zk_rM (I1 I : z_I) (n : Nat) (v0 : Int32) : Prop := ∀ j, I1 52 j = if j = n then v0 else I 52 j
noncomputable def zk_sX (I1 I : z_I) : Prop := ∀ j, I1 42 j = I 42 j
noncomputable def zk_sM (I1 I : z_I) : Prop := ∀ j, I1 52 j = I 52 j
/-- the same loads in the PORTS on both sides -/
noncomputable def zk_RP (Ix Im : z_I) : Prop := ∀ j : Nat, (j : Int) < (Ix 41 10).toInt → Ix 42 j = Im 52 j ∧ 0 ≤ (Ix 42 j).toInt ∧ (Ix 42 j).toInt ≤ 50
theorem zk_RP_same {Ix Im Ix1 Im1 : z_I} (h : zk_RP Ix Im) (eN : (Ix1 41 10).toInt = (Ix 41 10).toInt) (hx : zk_sX Ix1 Ix) (hm : zk_sM Im1 Im) : zk_RP Ix1 Im1 := fun j hj => by
  rw [hx j, hm j]
  exact h j (by omega)
theorem zk_RP_port {Ix Im Ix1 Im1 : z_I} {n n1 : Nat} {a b : Int32} (h : zk_RP Ix Im) (eN : (Ix1 41 10).toInt = (Ix 41 10).toInt + 1) (en : (n : Int) = (Ix 41 10).toInt) (en1 : n1 = n) (hx : zk_rX Ix1 Ix n a) (hm : zk_rM Im1 Im n1 b) (ea : b = a) (hb : 0 ≤ a.toInt ∧ a.toInt ≤ 50) : zk_RP Ix1 Im1 := fun j hj => by
  subst en1 ea
  rw [hx j, hm j]
  by_cases q : j = n1
  · rw [if_pos q, if_pos q]
    exact ⟨rfl, hb⟩
  · rw [if_neg q, if_neg q]
    exact h j (by omega)
theorem zk_RP_m {Ix Im : z_I} (h : zk_RP Ix Im) (hn : (Ix 41 10).toInt = (Im 0 75).toInt) : ∀ j : Nat, (j : Int) < (Im 0 75).toInt → 0 ≤ (Im 52 j).toInt ∧ (Im 52 j).toInt ≤ 50 := fun j hj => by
  obtain ⟨e, q⟩ := h j (by omega)
  rw [← e]
  exact q
noncomputable def L_X4_addPort_k : z_L := [(42, 999), (41, 10)]
set_option maxHeartbeats 8000000 in
set_option maxRecDepth 100000 in
theorem sx_X4_addPort_k (l : Launch) (G : z_G) (ad : Nat → Nat) (c : z_C) (I : z_I) (hL : z_iL I) (a1 : Int32) : z_M l yX4_addPort wsX4_addPort { frames := 1, cells := 0, slots := 0, locals := 12 } [.ref (ad 41), .int a1] G (shC c, ad, I, JX, PC c ad) (fun r u1 => ∃ I1 : z_I, u1 = (shC c, ad, I1, JX, PC c ad) ∧ z_iL I1 ∧ z_fr L_X4_addPort_k I1 I ∧ ((((I 41 10).toInt < 4) ∧ r.toInt = (I 41 10).toInt ∧ (I1 41 10).toInt = (I 41 10).toInt + 1 ∧ zk_rX I1 I (I 41 10).toNatClampNeg a1) ∨ (¬ ((I 41 10).toInt < 4) ∧ r.toInt = -1 ∧ (I1 41 10).toInt = (I 41 10).toInt ∧ zk_sX I1 I))) 0 0 := by
  intro sz
  refine z_headQ (cc := cX4_addPort) (maxL := 2) (ret := (some .int)) (by decide) rfl (Nat.le_of_ble_eq_true rfl) ?_
  intro p e s m below meth c0 ls hIn hK hsz hW hl
  obtain ⟨hx, hb, hr, hml, hown, hts, hlocks, hname⟩ := hIn
  subst hsz
  have hown : s.vm.findClass RX4 = some m.cls := hown
  have hA : ∀ q : Nat, s.heap.size ≤ q → z_A (shC c, ad, I, JX, PC c ad) s.heap.size q := fun q h => Or.inr h
  generalize hAe : z_A (shC c, ad, I, JX, PC c ad) s.heap.size = A at *
  have hS : va_S A s.heap s.heap [] := va_S.rf
  have hl : lv_has ls 2 [(0, .ref (ad 41)), (1, .int a1)] := hl
  refine lv_aload_n hx hb dX4_addPort_0 rfl (lv_at hl 0 rfl) ?_
  have r1 : 0 ≤ (I 41 10).toInt ∧ (I 41 10).toInt ≤ 4 := hL
  refine z_get (T := TX4) (N := 13) (ci := 4) (i := 41) (v := .int (I 41 10)) hx hb hts zj_X4_addPort_X4 hown hK hW rfl rfl 10 (by decide) (hts (.fieldLink RX4 44 "PetrolBoard$Loads" "ports" "I") (me_s (me_l (List.mem_of_getElem? (i := 0) rfl)))) (fun _ h => h) rfl dX4_addPort_1 ?_
  refine lv_iconst (v := 4) hx hb dX4_addPort_4 (by decide) ?_
  refine lv_icmp_lt (tgt := 10) hx hb dX4_addPort_5 (by decide) (fun c2 => ?_) (fun c2 => ?_)
  · have g3 := z_f_lt rfl z_l4 c2
    refine lv_aload_n hx hb dX4_addPort_10 rfl (lv_at hl 0 rfl) ?_
    refine z_get (T := TX4) (N := 13) (ci := 4) (i := 41) (v := .ref (ad 42)) hx hb hts zj_X4_addPort_X4 hown hK hW rfl rfl 0 (by decide) (hts (.fieldLink RX4 9 "PetrolBoard$Loads" "inPort" "[I") (me_s (me_l (List.mem_of_getElem? (i := 1) rfl)))) (fun _ h => h) rfl dX4_addPort_11 ?_
    refine lv_aload_n hx hb dX4_addPort_14 rfl (lv_at hl 0 rfl) ?_
    refine z_get (T := TX4) (N := 13) (ci := 4) (i := 41) (v := .int (I 41 10)) hx hb hts zj_X4_addPort_X4 hown hK hW rfl rfl 10 (by decide) (hts (.fieldLink RX4 44 "PetrolBoard$Loads" "ports" "I") (me_s (me_l (List.mem_of_getElem? (i := 0) rfl)))) (fun _ h => h) rfl dX4_addPort_15 ?_
    refine lv_iload_n hx hb dX4_addPort_18 rfl (lv_at hl 1 rfl) ?_
    refine z_iast (i := 42) hx hb hK hW hS rfl (z_ix rfl (by omega) (by omega)) dX4_addPort_19 (fun H locs hz1 hW hS => ?_)
    obtain ⟨I4, eI4⟩ : ∃ K : z_I, K = z_up I 42 (I 41 10).toNatClampNeg a1 := ⟨_, rfl⟩
    rw [← eI4] at hW
    have f5 := z_fr_a z_fr_0 (show z_wa L_X4_addPort_k 42 = true by decide) eI4
    refine lv_aload_n hx hb dX4_addPort_20 rfl (lv_at hl 0 rfl) ?_
    refine lv_dup hx hb dX4_addPort_21 rfl ?_
    refine z_get (T := TX4) (N := 13) (ci := 4) (i := 41) (v := .int (I 41 10)) hx hb hts zj_X4_addPort_X4 hown hK hW rfl rfl 10 (by decide) (hts (.fieldLink RX4 44 "PetrolBoard$Loads" "ports" "I") (me_s (me_l (List.mem_of_getElem? (i := 0) rfl)))) (fun _ h => h) (congrArg Value.int (by rw [eI4, z_up_n (by decide)])) dX4_addPort_22 ?_
    refine lv_iconst (v := 1) hx hb dX4_addPort_25 (by decide) ?_
    refine lv_iadd hx hb dX4_addPort_26 ?_
    refine lv_topi (fun x6 ex6 => ?_)
    have tx6 : x6.toInt = (I 41 10).toInt + 1 := z_tadd ex6 rfl z_l1 (by omega) (by omega)
    refine z_put (T := TX4) (N := 13) (ci := 4) (i := 41) (v := .int x6) (I1 := z_up I4 41 10 x6) (J1 := JX) (P1 := PC c ad) hx hb hts zj_X4_addPort_X4 tyX4 tyX4_ok nmX4 hown hK hW hS rfl rfl 10 (by decide) (hts (.fieldLink RX4 44 "PetrolBoard$Loads" "ports" "I") (me_s (me_l (List.mem_of_getElem? (i := 0) rfl)))) (fun _ h => h) rfl rfl rfl (by first | rfl | exact congrArg _ z_up_s) (fun a b h ty => z_vI h ty) dX4_addPort_27 (fun H locs hz1 hW hS => ?_)
    obtain ⟨I7, eI7⟩ : ∃ K : z_I, K = z_up I4 41 10 x6 := ⟨_, rfl⟩
    rw [← eI7] at hW
    have f8 := z_fr_k f5 (show z_wr L_X4_addPort_k 41 10 = true by decide) eI7
    refine lv_aload_n hx hb dX4_addPort_30 rfl (lv_at hl 0 rfl) ?_
    refine z_get (T := TX4) (N := 13) (ci := 4) (i := 41) (v := .int x6) hx hb hts zj_X4_addPort_X4 hown hK hW rfl rfl 10 (by decide) (hts (.fieldLink RX4 44 "PetrolBoard$Loads" "ports" "I") (me_s (me_l (List.mem_of_getElem? (i := 0) rfl)))) (fun _ h => h) (congrArg Value.int (by rw [eI7, z_up_s])) dX4_addPort_31 ?_
    refine lv_iconst (v := 1) hx hb dX4_addPort_34 (by decide) ?_
    refine lv_isub hx hb dX4_addPort_35 ?_
    refine lv_topi (fun x9 ex9 => ?_)
    have tx9 : x9.toInt = x6.toInt - 1 := z_tsub ex9 rfl z_l1 (by omega) (by omega)
    exact z_iret hx hb hr hK hS (Nat.le_of_ble_eq_true rfl) (Nat.le_of_ble_eq_true rfl) hlocks dX4_addPort_36 (shC c, ad, I7, JX, PC c ad) hW ⟨I7, rfl, (by show 0 ≤ (I7 41 10).toInt ∧ (I7 41 10).toInt ≤ 4; rw [eI7, z_up_s]; omega), f8, (Or.inl ⟨by omega, by omega, (by have q9 : (I7 41 10) = x6 := (by rw [eI7, z_up_s]); show (I7 41 10).toInt = (I 41 10).toInt + 1; rw [q9]; first | done | omega), (fun j => by rw [eI7, z_up_n (by decide), eI4, z_up_j])⟩)⟩
  · have g10 := z_f_nlt rfl z_l4 c2
    refine lv_iconst (v := (-1)) hx hb dX4_addPort_8 (by decide) ?_
    exact z_iret hx hb hr hK hS (Nat.le_of_ble_eq_true rfl) (Nat.le_of_ble_eq_true rfl) hlocks dX4_addPort_9 (shC c, ad, I, JX, PC c ad) hW ⟨I, rfl, (by show 0 ≤ (I 41 10).toInt ∧ (I 41 10).toInt ≤ 4; exact hL), z_fr_0, (Or.inr ⟨by omega, by decide, (by show (I 41 10).toInt = (I 41 10).toInt; omega), (fun j => rfl)⟩)⟩
noncomputable def L_X11_port_k : z_L := [(42, 999), (41, 10)]
set_option maxHeartbeats 8000000 in
set_option maxRecDepth 100000 in
theorem sx_X11_port_k (l : Launch) (G : z_G) (ad : Nat → Nat) (c : z_C) (I : z_I) (hL : z_iL I) (a1 : Int32) (hc : z_okc c) (h10 : c.1 ≤ 10) : z_M l yX11_port wsX11_port { frames := 2, cells := 0, slots := 0, locals := 34 } [.ref (ad 0), .int a1] G (shC c, ad, I, JX, PC c ad) (fun r u1 => ∃ I1 : z_I, u1 = (shC c, ad, I1, JX, PC c ad) ∧ z_iL I1 ∧ z_fr L_X11_port_k I1 I ∧ (((0 ≤ a1.toInt ∧ a1.toInt ≤ 50 ∧ (I 41 10).toInt < 4) ∧ r.toInt = (I 41 10).toInt ∧ (I1 41 10).toInt = (I 41 10).toInt + 1 ∧ zk_rX I1 I (I 41 10).toNatClampNeg a1) ∨ (¬ (0 ≤ a1.toInt ∧ a1.toInt ≤ 50 ∧ (I 41 10).toInt < 4) ∧ r.toInt = -1 ∧ (I1 41 10).toInt = (I 41 10).toInt ∧ zk_sX I1 I))) 0 0 := by
  intro sz
  refine z_headQ (cc := cX11_port) (maxL := 2) (ret := (some .int)) (by decide) rfl (Nat.le_of_ble_eq_true rfl) ?_
  intro p e s m below meth c0 ls hIn hK hsz hW hl
  obtain ⟨hx, hb, hr, hml, hown, hts, hlocks, hname⟩ := hIn
  subst hsz
  have hown : s.vm.findClass RX11 = some m.cls := hown
  have hA : ∀ q : Nat, s.heap.size ≤ q → z_A (shC c, ad, I, JX, PC c ad) s.heap.size q := fun q h => Or.inr h
  generalize hAe : z_A (shC c, ad, I, JX, PC c ad) s.heap.size = A at *
  have hS : va_S A s.heap s.heap [] := va_S.rf
  have hl : lv_has ls 2 [(0, .ref (ad 0)), (1, .int a1)] := hl
  refine lv_iload_n hx hb dX11_port_0 rfl (lv_at hl 1 rfl) ?_
  refine lv_iconst (v := 0) hx hb dX11_port_1 (by decide) ?_
  refine lv_bipush (v := 50) hx hb dX11_port_2 (by decide) ?_
  refine z_ci hW hS hA (va_runS (As := [.int a1, .int 0, .int 50]) (rest := []) ⟨hx, hb, hml, hown, hts⟩ (sx_X11_within_e l G ad c I  a1 0 50 _) (va_cwS 3 hts gX11_port_X11_within rfl rfl rfl (by decide +kernel) ⟨Nat.le_of_ble_eq_true rfl, Nat.le_of_ble_eq_true rfl⟩) (z_preS hK hW) rfl rfl hl.1 rfl (lv_room (Nat.le_of_ble_eq_true rfl)) dX11_port_4 ⟨Nat.le_of_ble_eq_true rfl, Nat.le_of_ble_eq_true rfl⟩) (fun r u1 H locs hp hW hS => ?_)
  obtain ⟨e9, hp⟩ := hp
  rw [e9] at hW
  rcases hp with ⟨rfl, h1⟩ | ⟨rfl, h1⟩
  · have h2 := h1
    have z3 := z_l0
    have z4 := z_l50
    refine lv_if_ne (tgt := 12) hx hb dX11_port_7 (by decide) (fun c5 => ?_) (fun c5 => absurd c5 (by decide))
    refine lv_aload_n hx hb dX11_port_12 rfl (lv_at hl 0 rfl) ?_
    refine z_get (T := TX11) (N := 13) (ci := 11) (i := 0) (v := .ref (ad 41)) hx hb hts zj_X11_port_X11 hown hK hW rfl rfl 10 (by decide) (hts (.fieldLink RX11 61 "PetrolBoard" "loads" "LPetrolBoard$Loads;") (me_s (me_l (me_l (List.mem_of_getElem? (i := 0) rfl))))) (fun _ h => h) rfl dX11_port_13 ?_
    refine lv_iload_n hx hb dX11_port_16 rfl (lv_at hl 1 rfl) ?_
    refine z_ci hW hS hA (va_runV (As := [.int a1]) (rest := []) ⟨hx, hb, hml, hown, hts⟩ (sx_X4_addPort_k l G ad c I (by show 0 ≤ (I 41 10).toInt ∧ (I 41 10).toInt ≤ 4; exact hL) a1 _) (cwV 1 hts gX11_port_X4_addPort rfl rfl rfl (by decide +kernel) ⟨Nat.le_of_ble_eq_true rfl, Nat.le_of_ble_eq_true rfl⟩) (z_preV (i := 41) hK hW rfl rfl) rfl rfl hl.1 rfl (lv_room (Nat.le_of_ble_eq_true rfl)) dX11_port_17 ⟨Nat.le_of_ble_eq_true rfl, Nat.le_of_ble_eq_true rfl⟩) (fun r u1 H locs hp hW hS => ?_)
    obtain ⟨I6, e9, hI6L, fI6, hp⟩ := hp
    rw [e9] at hW
    have f7 := z_fr_sub (L := L_X11_port_k) z_fr_0 fI6 (by decide)
    refine lv_topi (fun x8 ex8 => ?_)
    rw [← ex8] at hp
    rcases hp with ⟨h9, h11, h12, h13⟩ | ⟨h9, h11, h12, h13⟩
    · exact z_iret hx hb hr hK hS (Nat.le_of_ble_eq_true rfl) (Nat.le_of_ble_eq_true rfl) hlocks dX11_port_20 (shC c, ad, I6, JX, PC c ad) hW ⟨I6, rfl, (by show 0 ≤ (I6 41 10).toInt ∧ (I6 41 10).toInt ≤ 4; exact hI6L), f7, (Or.inl ⟨by omega, by omega, (by show (I6 41 10).toInt = (I 41 10).toInt + 1; omega), h13⟩)⟩
    · exact z_iret hx hb hr hK hS (Nat.le_of_ble_eq_true rfl) (Nat.le_of_ble_eq_true rfl) hlocks dX11_port_20 (shC c, ad, I6, JX, PC c ad) hW ⟨I6, rfl, (by show 0 ≤ (I6 41 10).toInt ∧ (I6 41 10).toInt ≤ 4; exact hI6L), f7, (Or.inr ⟨by omega, by omega, (by show (I6 41 10).toInt = (I 41 10).toInt; omega), h13⟩)⟩
  · have h14 := h1
    have z15 := z_l0
    have z16 := z_l50
    refine lv_if_ne (tgt := 12) hx hb dX11_port_7 (by decide) (fun c17 => absurd (by decide) c17) (fun c17 => ?_)
    refine lv_iconst (v := (-1)) hx hb dX11_port_10 (by decide) ?_
    exact z_iret hx hb hr hK hS (Nat.le_of_ble_eq_true rfl) (Nat.le_of_ble_eq_true rfl) hlocks dX11_port_11 (shC c, ad, I, JX, PC c ad) hW ⟨I, rfl, (by show 0 ≤ (I 41 10).toInt ∧ (I 41 10).toInt ≤ 4; exact hL), z_fr_0, (Or.inr ⟨by omega, by decide, (by show (I 41 10).toInt = (I 41 10).toInt; omega), (fun j => rfl)⟩)⟩
noncomputable def L_X12_port_k : z_L := [(0, 75), (52, 999)]
set_option maxHeartbeats 8000000 in
set_option maxRecDepth 100000 in
theorem sx_X12_port_k (l : Launch) (G : z_G) (ad : Nat → Nat) (I : z_I) (J : z_J) (hmr : z_imr I) (hAld : z_rg 52 0 50 I) (a1 : Int32) : z_M l yX12_port wsX12_port { frames := 2, cells := 0, slots := 0, locals := 34 } [.ref (ad 0), .int a1] G (shM, ad, I, J, PM ad) (fun r u1 => ∃ (I1 : z_I) (J1 : z_J), u1 = (shM, ad, I1, J1, PM ad) ∧ z_imr I1 ∧ z_rg 52 0 50 I1 ∧ z_fr L_X12_port_k I1 I ∧ (((0 ≤ a1.toInt ∧ a1.toInt ≤ 50 ∧ (I 0 75).toInt < 4) ∧ r.toInt = (I 0 75).toInt ∧ (I1 0 75).toInt = (I 0 75).toInt + 1 ∧ zk_rM I1 I (I 0 75).toNatClampNeg a1) ∨ (¬ (0 ≤ a1.toInt ∧ a1.toInt ≤ 50 ∧ (I 0 75).toInt < 4) ∧ r.toInt = -1 ∧ (I1 0 75).toInt = (I 0 75).toInt ∧ zk_sM I1 I))) 0 0 := by
  intro sz
  refine z_headQ (cc := cX12_port) (maxL := 2) (ret := (some .int)) (by decide) rfl (Nat.le_of_ble_eq_true rfl) ?_
  intro p e s m below meth c0 ls hIn hK hsz hW hl
  obtain ⟨hx, hb, hr, hml, hown, hts, hlocks, hname⟩ := hIn
  subst hsz
  have hown : s.vm.findClass RX12 = some m.cls := hown
  have hA : ∀ q : Nat, s.heap.size ≤ q → z_A (shM, ad, I, J, PM ad) s.heap.size q := fun q h => Or.inr h
  generalize hAe : z_A (shM, ad, I, J, PM ad) s.heap.size = A at *
  have hS : va_S A s.heap s.heap [] := va_S.rf
  have hl : lv_has ls 2 [(0, .ref (ad 0)), (1, .int a1)] := hl
  refine lv_iload_n hx hb dX12_port_0 rfl (lv_at hl 1 rfl) ?_
  refine lv_iconst (v := 0) hx hb dX12_port_1 (by decide) ?_
  refine lv_bipush (v := 50) hx hb dX12_port_2 (by decide) ?_
  refine z_ci hW hS hA (va_runS (As := [.int a1, .int 0, .int 50]) (rest := []) ⟨hx, hb, hml, hown, hts⟩ (sx_X12_within_e l G ad I J  a1 0 50 _) (va_cwS 3 hts gX12_port_X12_within rfl rfl rfl (by decide +kernel) ⟨Nat.le_of_ble_eq_true rfl, Nat.le_of_ble_eq_true rfl⟩) (z_preS hK hW) rfl rfl hl.1 rfl (lv_room (Nat.le_of_ble_eq_true rfl)) dX12_port_4 ⟨Nat.le_of_ble_eq_true rfl, Nat.le_of_ble_eq_true rfl⟩) (fun r u1 H locs hp hW hS => ?_)
  obtain ⟨e9, hp⟩ := hp
  rw [e9] at hW
  rcases hp with ⟨rfl, h1⟩ | ⟨rfl, h1⟩
  · have h2 := h1
    have z3 := z_l0
    have z4 := z_l50
    refine lv_if_eq (tgt := 18) hx hb dX12_port_7 (by decide) (fun c5 => absurd c5 (by decide)) (fun c5 => ?_)
    refine lv_aload_n hx hb dX12_port_10 rfl (lv_at hl 0 rfl) ?_
    have r6 : 0 ≤ (I 0 75).toInt ∧ (I 0 75).toInt ≤ 4 := hmr
    refine z_get (T := TX12) (N := 96) (ci := 12) (i := 0) (v := .int (I 0 75)) hx hb hts zj_X12_port_X12 hown hK hW rfl rfl 75 (by decide) (hts (.fieldLink RX12 493 "PetrolBoardModel" "ports" "I") (me_s (me_l (List.mem_of_getElem? (i := 0) rfl)))) (fun _ h => h) rfl dX12_port_11 ?_
    refine lv_iconst (v := 4) hx hb dX12_port_14 (by decide) ?_
    refine lv_icmp_ne (tgt := 20) hx hb dX12_port_15 (by decide) (fun c7 => ?_) (fun c7 => ?_)
    · have g8 := z_f_ne rfl z_l4 c7
      refine lv_aload_n hx hb dX12_port_20 rfl (lv_at hl 0 rfl) ?_
      refine z_get (T := TX12) (N := 96) (ci := 12) (i := 0) (v := .ref (ad 52)) hx hb hts zj_X12_port_X12 hown hK hW rfl rfl 76 (by decide) (hts (.fieldLink RX12 172 "PetrolBoardModel" "loadsOf" "[I") (me_s (me_l (List.mem_of_getElem? (i := 1) rfl)))) (fun _ h => h) rfl dX12_port_21 ?_
      refine lv_aload_n hx hb dX12_port_24 rfl (lv_at hl 0 rfl) ?_
      refine z_get (T := TX12) (N := 96) (ci := 12) (i := 0) (v := .int (I 0 75)) hx hb hts zj_X12_port_X12 hown hK hW rfl rfl 75 (by decide) (hts (.fieldLink RX12 493 "PetrolBoardModel" "ports" "I") (me_s (me_l (List.mem_of_getElem? (i := 0) rfl)))) (fun _ h => h) rfl dX12_port_25 ?_
      refine lv_iload_n hx hb dX12_port_28 rfl (lv_at hl 1 rfl) ?_
      refine z_iast (i := 52) hx hb hK hW hS rfl (z_ix rfl (by omega) (by omega)) dX12_port_29 (fun H locs hz1 hW hS => ?_)
      obtain ⟨I9, eI9⟩ : ∃ K : z_I, K = z_up I 52 (I 0 75).toNatClampNeg a1 := ⟨_, rfl⟩
      rw [← eI9] at hW
      have f10 := z_fr_a z_fr_0 (show z_wa L_X12_port_k 52 = true by decide) eI9
      have a11 := z_rg_a hAld (by omega) eI9
      refine lv_aload_n hx hb dX12_port_30 rfl (lv_at hl 0 rfl) ?_
      refine lv_dup hx hb dX12_port_31 rfl ?_
      refine z_get (T := TX12) (N := 96) (ci := 12) (i := 0) (v := .int (I 0 75)) hx hb hts zj_X12_port_X12 hown hK hW rfl rfl 75 (by decide) (hts (.fieldLink RX12 493 "PetrolBoardModel" "ports" "I") (me_s (me_l (List.mem_of_getElem? (i := 0) rfl)))) (fun _ h => h) (congrArg Value.int (by rw [eI9, z_up_n (by decide)])) dX12_port_32 ?_
      refine lv_iconst (v := 1) hx hb dX12_port_35 (by decide) ?_
      refine lv_iadd hx hb dX12_port_36 ?_
      refine lv_topi (fun x12 ex12 => ?_)
      have tx12 : x12.toInt = (I 0 75).toInt + 1 := z_tadd ex12 rfl z_l1 (by omega) (by omega)
      refine z_put (T := TX12) (N := 96) (ci := 12) (i := 0) (v := .int x12) (I1 := z_up I9 0 75 x12) (J1 := J) (P1 := PM ad) hx hb hts zj_X12_port_X12 tyX12 tyX12_ok nmX12 hown hK hW hS rfl rfl 75 (by decide) (hts (.fieldLink RX12 493 "PetrolBoardModel" "ports" "I") (me_s (me_l (List.mem_of_getElem? (i := 0) rfl)))) (fun _ h => h) rfl rfl rfl (by first | rfl | exact congrArg _ z_up_s) (fun a b h ty => z_vI h ty) dX12_port_37 (fun H locs hz1 hW hS => ?_)
      obtain ⟨I13, eI13⟩ : ∃ K : z_I, K = z_up I9 0 75 x12 := ⟨_, rfl⟩
      rw [← eI13] at hW
      have f14 := z_fr_k f10 (show z_wr L_X12_port_k 0 75 = true by decide) eI13
      have a15 := z_rg_n a11 (by decide) eI13
      refine lv_aload_n hx hb dX12_port_40 rfl (lv_at hl 0 rfl) ?_
      refine z_get (T := TX12) (N := 96) (ci := 12) (i := 0) (v := .int x12) hx hb hts zj_X12_port_X12 hown hK hW rfl rfl 75 (by decide) (hts (.fieldLink RX12 493 "PetrolBoardModel" "ports" "I") (me_s (me_l (List.mem_of_getElem? (i := 0) rfl)))) (fun _ h => h) (congrArg Value.int (by rw [eI13, z_up_s])) dX12_port_41 ?_
      refine lv_iconst (v := 1) hx hb dX12_port_44 (by decide) ?_
      refine lv_isub hx hb dX12_port_45 ?_
      refine lv_topi (fun x16 ex16 => ?_)
      have tx16 : x16.toInt = x12.toInt - 1 := z_tsub ex16 rfl z_l1 (by omega) (by omega)
      exact z_iret hx hb hr hK hS (Nat.le_of_ble_eq_true rfl) (Nat.le_of_ble_eq_true rfl) hlocks dX12_port_46 (shM, ad, I13, J, PM ad) hW ⟨I13, J, rfl, (by show 0 ≤ (I13 0 75).toInt ∧ (I13 0 75).toInt ≤ 4; rw [eI13, z_up_s]; omega), a15, f14, (Or.inl ⟨by omega, by omega, (by have q9 : (I13 0 75) = x12 := (by rw [eI13, z_up_s]); show (I13 0 75).toInt = (I 0 75).toInt + 1; rw [q9]; first | done | omega), (fun j => by rw [eI13, z_up_n (by decide), eI9, z_up_j])⟩)⟩
    · have g17 := z_f_eq rfl z_l4 c7
      refine lv_iconst (v := (-1)) hx hb dX12_port_18 (by decide) ?_
      exact z_iret hx hb hr hK hS (Nat.le_of_ble_eq_true rfl) (Nat.le_of_ble_eq_true rfl) hlocks dX12_port_19 (shM, ad, I, J, PM ad) hW ⟨I, J, rfl, (by show 0 ≤ (I 0 75).toInt ∧ (I 0 75).toInt ≤ 4; exact hmr), hAld, z_fr_0, (Or.inr ⟨by omega, by decide, (by show (I 0 75).toInt = (I 0 75).toInt; omega), (fun j => rfl)⟩)⟩
  · have h18 := h1
    have z19 := z_l0
    have z20 := z_l50
    refine lv_if_eq (tgt := 18) hx hb dX12_port_7 (by decide) (fun c21 => ?_) (fun c21 => absurd (by decide) c21)
    refine lv_iconst (v := (-1)) hx hb dX12_port_18 (by decide) ?_
    exact z_iret hx hb hr hK hS (Nat.le_of_ble_eq_true rfl) (Nat.le_of_ble_eq_true rfl) hlocks dX12_port_19 (shM, ad, I, J, PM ad) hW ⟨I, J, rfl, (by show 0 ≤ (I 0 75).toInt ∧ (I 0 75).toInt ≤ 4; exact hmr), hAld, z_fr_0, (Or.inr ⟨by omega, by decide, (by show (I 0 75).toInt = (I 0 75).toInt; omega), (fun j => rfl)⟩)⟩
end SG60zg
section SG60zh


/-! stocks foretold -/
theorem zk_R_c {mo td mo1 td1 : Nat → Int} {m k : Int} {n : Nat} {u r : Int} {a a1 : Nat → Int} (hc : ∀ j, j < n → mo1 j = mo j ∧ td1 j = td j) (ha : ∀ j, j < n → a1 j = a j) (h : zi_R mo td m k n u a r) : zi_R mo1 td1 m k n u a1 r := by
  obtain ⟨b, hB, q⟩ := h
  refine ⟨b, zi_B_c hc hB, ?_⟩
  rcases q with q | ⟨j, q1, q2, q3⟩
  · exact Or.inl q
  · exact Or.inr ⟨j, q1, q2, by rw [ha j q2]; exact q3⟩
/-- what is told, as a number -/
noncomputable def zk_f (mo td : Nat → Int) (m k : Int) (n : Nat) (u : Int) (a : Nat → Int) : Int := Classical.epsilon (fun r => zi_R mo td m k n u a r)
theorem zk_f_e {mo td : Nat → Int} {m k : Int} {n : Nat} {u r : Int} {a : Nat → Int} (h : zi_R mo td m k n u a r) : r = zk_f mo td m k n u a :=
  zi_R_u h (Classical.epsilon_spec (p := fun r => zi_R mo td m k n u a r) ⟨r, h⟩) (fun _ _ => ⟨rfl, rfl⟩) (fun _ _ => rfl)
theorem zk_f_c {mo td mo1 td1 : Nat → Int} {m k : Int} {n : Nat} {u : Int} {a a1 : Nat → Int} (hc : ∀ j, j < n → mo1 j = mo j ∧ td1 j = td j) (ha : ∀ j, j < n → a1 j = a j) : zk_f mo1 td1 m k n u a1 = zk_f mo td m k n u a := by
  unfold zk_f
  refine congrArg Classical.epsilon (funext fun r => propext ⟨fun h => ?_, fun h => ?_⟩)
  · exact zk_R_c (fun j hj => ⟨(hc j hj).1.symm, (hc j hj).2.symm⟩) (fun j hj => (ha j hj).symm) h
  · exact zk_R_c hc ha h
noncomputable def zk_ax (c : z_C) (I : z_I) (t m k : Int) : Int := zk_f (zi_mo I) (zi_td I) m k c.2.1 (zi_us t) (zi_ax c I t)
noncomputable def zk_am (K : z_I) (t m k : Int) : Int := zk_f (zi_km K) (zi_kt K) m k (K 0 13).toNatClampNeg (zi_us t) (zi_am K t)
theorem zk_a_e {c : z_C} {I K : z_I} {t m k : Int} (h : z_OW c I K) (hn : (K 0 13).toNatClampNeg = c.2.1) (ht : 0 ≤ t) : zk_ax c I t m k = zk_am K t m k := by
  unfold zk_ax zk_am
  rw [hn]
  refine zk_f_c (fun j hj => ?_) (fun j hj => zi_axm h ht j hj)
  obtain ⟨rs, F0, g1, g2, g3, _⟩ := h j hj
  exact ⟨g1, g3⟩
theorem zk_xc {c : z_C} {I K : z_I} {t : Int} (h : ∀ a q, 200 ≤ a → K a q = I a q) : zi_ax c K t = zi_ax c I t := funext fun j => by
  have e4 : zi_hd K (200 + 5 * j) = zi_hd I (200 + 5 * j) := funext fun q => by unfold zi_hd; rw [h _ _ (by omega)]
  have e5 : zi_nu K (200 + 5 * j) = zi_nu I (200 + 5 * j) := funext fun q => by unfold zi_nu; rw [h _ _ (by omega)]
  unfold zi_ax
  rw [e4, e5]
theorem zk_ax_c {c : z_C} {I K : z_I} {t m k : Int} (h : ∀ a q, 200 ≤ a → K a q = I a q) : zk_ax c K t m k = zk_ax c I t m k := by
  have e1 : zi_mo K = zi_mo I := funext fun j => by unfold zi_mo; rw [h _ _ (by omega)]
  have e2 : zi_td K = zi_td I := funext fun j => by unfold zi_td; rw [h _ _ (by omega)]
  unfold zk_ax
  rw [e1, e2, zk_xc h]
theorem zk_A_e {c : z_C} {I K : z_I} {t m k r : Int} (e : ∀ a q, 200 ≤ a → K a q = I a q) (h : zi_R (zi_mo K) (zi_td K) m k c.2.1 (zi_us t) (zi_ax c K t) r) : r = zk_ax c I t m k := (zk_f_e h).trans (zk_ax_c e)
theorem zk_A_b {c : z_C} {I K : z_I} {t m k r : Int} (hb : ∀ q, q < c.2.1 → 0 ≤ zi_ax c I t q ∧ zi_ax c I t q ≤ 999999) (e : ∀ a q, 200 ≤ a → K a q = I a q) (h : zi_R (zi_mo K) (zi_td K) m k c.2.1 (zi_us t) (zi_ax c K t) r) : 0 ≤ r ∧ r ≤ 999999 := zi_R_b h zi_us_b (fun j hj => by rw [zk_xc e]; exact hb j hj)
theorem zk_am_x {I K : z_I} {t : Int} (h : ∀ j, K 11 j = I 11 j ∧ K 12 j = I 12 j ∧ K 13 j = I 13 j ∧ K 14 j = I 14 j ∧ K 15 j = I 15 j ∧ K 16 j = I 16 j) : zi_am K t = zi_am I t := funext fun j => by
  have e4 : ∀ q, zi_kh K q = zi_kh I q := fun q => funext fun i => by unfold zi_kh; rw [(h _).2.2.2.2.1]
  have e5 : ∀ q, zi_kn K q = zi_kn I q := fun q => funext fun i => by unfold zi_kn; rw [(h _).2.2.2.2.2]
  unfold zi_am
  rw [e4, e5, (h j).1, (h j).2.1]
theorem zk_am_c {I K : z_I} {t m k : Int} (h : ∀ j, K 11 j = I 11 j ∧ K 12 j = I 12 j ∧ K 13 j = I 13 j ∧ K 14 j = I 14 j ∧ K 15 j = I 15 j ∧ K 16 j = I 16 j) (hn : K 0 13 = I 0 13) : zk_am K t m k = zk_am I t m k := by
  have e1 : zi_km K = zi_km I := funext fun j => by unfold zi_km; rw [(h j).2.2.1]
  have e2 : zi_kt K = zi_kt I := funext fun j => by unfold zi_kt; rw [(h j).2.2.2.1]
  unfold zk_am
  rw [e1, e2, zk_am_x h, hn]
theorem zk_M_e {I K : z_I} {t m k k1 r : Int} (h : ∀ j, K 11 j = I 11 j ∧ K 12 j = I 12 j ∧ K 13 j = I 13 j ∧ K 14 j = I 14 j ∧ K 15 j = I 15 j ∧ K 16 j = I 16 j) (hn : K 0 13 = I 0 13) (ek : k = k1) (hp : zi_R (zi_km K) (zi_kt K) m k (K 0 13).toNatClampNeg (zi_us t) (zi_am K t) r) : r = zk_am I t m k1 := by
  rw [← ek]
  exact (zk_f_e hp).trans (zk_am_c h hn)
theorem zk_M_b {I K : z_I} {t m k r : Int} (hb : ∀ q, q < (I 0 13).toNatClampNeg → 0 ≤ zi_am I t q ∧ zi_am I t q ≤ 999999) (h : ∀ j, K 11 j = I 11 j ∧ K 12 j = I 12 j ∧ K 13 j = I 13 j ∧ K 14 j = I 14 j ∧ K 15 j = I 15 j ∧ K 16 j = I 16 j) (hn : K 0 13 = I 0 13) (hp : zi_R (zi_km K) (zi_kt K) m k (K 0 13).toNatClampNeg (zi_us t) (zi_am K t) r) : 0 ≤ r ∧ r ≤ 999999 := zi_R_b hp zi_us_b (fun j hj => by rw [zk_am_x h]; exact hb j (by rw [hn] at hj; exact hj))
theorem zk_OW_m {c : z_C} {I K : z_I} {t : Int} (h : z_OW c I K) (hn : (K 0 13).toNatClampNeg = c.2.1) (ht : 0 ≤ t) : ∀ q, q < (K 0 13).toNatClampNeg → 0 ≤ zi_am K t q ∧ zi_am K t q ≤ 999999 := fun q hq => by
  rw [hn] at hq
  rw [← zi_axm h ht q hq]
  exact z_OW_b h ht q hq
/-- what all HOLDERS have for a MONTH together -/
noncomputable def zk_w (b : Int) (K U : Nat → Int) (h : Nat) : Int := if b = 0 ∧ K h = 0 then 0 else U h
theorem zk_w_0 {b : Int} {K U : Nat → Int} {h : Nat} (q : b = 0 ∧ K h = 0) : zk_w b K U h = 0 := if_pos q
theorem zk_w_1 {b : Int} {K U : Nat → Int} {h : Nat} (q : ¬ (b = 0 ∧ K h = 0)) : zk_w b K U h = U h := if_neg q
noncomputable def zk_K (I : z_I) (m : Int) (h : Nat) : Int := (z_kx I (h : Int) (m * 30) (I 0 0).toInt (I 1 11).toNatClampNeg).2
theorem zk_K_e {I K : z_I} {h d : Int32} {m r : Int} (hc : z_nsX K I) (e4 : K 1 11 = I 1 11) (eT : K 0 0 = I 0 0) (h0 : 0 ≤ h.toInt) (hd : d.toInt = m * 30) (hp : r = (z_kx K h.toInt d.toInt (K 0 0).toInt (K 1 11).toNatClampNeg).2) : r = zk_K I m h.toNatClampNeg := by
  unfold zk_K
  rw [z_clt (x := h) rfl h0, hp, hd, eT, e4, z_kx_c hc]
theorem zk_UXe {c : z_C} {I K : z_I} {SS : Nat → List zp_T} {x : Int32} {m kn r : Int} (e2 : ∀ a q, 200 ≤ a → K a q = I a q) (e3 : z_nsX K I) (e4 : K 1 11 = I 1 11) (e6 : ∀ j, K 2 j = I 2 j ∧ K 3 j = I 3 j) : zv_UX c K SS x m kn r = zv_UX c I SS x m kn r := by
  have a1 : zi_mo K = zi_mo I := funext fun j => by unfold zi_mo; rw [e2 _ _ (by omega)]
  have a2 : zi_td K = zi_td I := funext fun j => by unfold zi_td; rw [e2 _ _ (by omega)]
  have a3 : zv_AU K x m kn = zv_AU I x m kn := by
    unfold zv_AU
    rw [e4, z_kx_c e3, (e6 _).1, (e6 _).2]
  unfold zv_UX
  rw [a1, a2, a3]
theorem zk_U_c {c : z_C} {I K : z_I} {SS : Nat → List zp_T} {m : Int} (e2 : ∀ a q, 200 ≤ a → K a q = I a q) (e3 : z_nsX K I) (e4 : K 1 11 = I 1 11) (e6 : ∀ j, K 2 j = I 2 j ∧ K 3 j = I 3 j) (eT : K 0 0 = I 0 0) : zd_U c K SS m = zd_U c I SS m := funext fun h => by
  unfold zd_U
  rw [eT]
  exact congrArg Classical.epsilon (funext fun r => zk_UXe e2 e3 e4 e6)
noncomputable def zk_S (c : z_C) (I : z_I) (SS : Nat → List zp_T) (b m : Int) : Int := zd_S (zk_w b (zk_K I m) (zd_U c I SS m)) (I 1 5).toNatClampNeg
theorem zk_S_c {c : z_C} {I K : z_I} {SS : Nat → List zp_T} {b m : Int} (e2 : ∀ a q, 200 ≤ a → K a q = I a q) (e3 : z_nsX K I) (e4 : K 1 11 = I 1 11) (e6 : ∀ j, K 2 j = I 2 j ∧ K 3 j = I 3 j) (eT : K 0 0 = I 0 0) (eH : K 1 5 = I 1 5) : zk_S c K SS b m = zk_S c I SS b m := by
  have ek : zk_K K m = zk_K I m := funext fun h => by unfold zk_K; rw [eT, e4, z_kx_c e3]
  unfold zk_S
  rw [ek, zk_U_c e2 e3 e4 e6 eT, eH]
noncomputable def zk_P (c : z_C) (I : z_I) (SS : Nat → List zp_T) (b now : Int) (k : Nat) : Int := zk_ax c I 0 (now + (k : Int)) (I 0 0).toInt * zk_S c I SS b (now + (k : Int))
theorem zk_P_e {c : z_C} {I : z_I} {SS : Nat → List zp_T} {b now m a s : Int} {k : Nat} (hm : now + (k : Int) = m) (hA : a = zk_ax c I 0 m (I 0 0).toInt) (hS : s = zk_S c I SS b m) : zk_P c I SS b now k = a * s := by
  unfold zk_P
  rw [hm, ← hA, ← hS]
theorem zk_mb {a s x y : Int} (ha : 0 ≤ a ∧ a ≤ x) (hs : 0 ≤ s ∧ s ≤ y) : 0 ≤ a * s ∧ a * s ≤ x * y := ⟨Int.mul_nonneg ha.1 hs.1, Int.mul_le_mul ha.2 hs.2 hs.1 (Int.le_trans ha.1 ha.2)⟩
noncomputable def zk_p (I : z_I) (j : Nat) : Int := (I 42 j).toInt
theorem zk_p_c {I K : z_I} (e : ∀ j, K 42 j = I 42 j) (e2 : K 41 10 = I 41 10) : zd_S (zk_p K) (K 41 10).toNatClampNeg = zd_S (zk_p I) (I 41 10).toNatClampNeg := by
  rw [e2]
  exact zd_S_c _ (fun j _ => by unfold zk_p; rw [e])
/-- what is left -/
noncomputable def zk_r (P T : Int) : Int := if 100 * P - (T + 9) / 10 < -1999999999 then -1999999999 else 100 * P - (T + 9) / 10
theorem z_tldivp {z a b : Int64} {n m : Int} (e : z = a / b) (ha : a.toInt = n) (hb : b.toInt = m) (h1 : 0 ≤ n ∧ n ≤ 9000000000000000000) : z.toInt = n / m := by
  rw [z_tldiv e ha hb (by omega)]
  exact Int.tdiv_eq_ediv_of_nonneg h1.1
/-! the reference's -/
noncomputable def zk_KM (I : z_I) (m : Int) (h : Nat) : Int := z_kmr I (h : Int) (30 * m) (I 0 0).toInt (I 0 2).toNatClampNeg
theorem zk_KM_e {I K : z_I} {h d : Int32} {m r : Int} (hc : z_nsM K I) (e4 : K 0 2 = I 0 2) (eT : K 0 0 = I 0 0) (h0 : 0 ≤ h.toInt) (hd : d.toInt = 30 * m) (hp : r = z_kmr K h.toInt d.toInt (K 0 0).toInt (K 0 2).toNatClampNeg) : r = zk_KM I m h.toNatClampNeg := by
  unfold zk_KM
  rw [z_clt (x := h) rfl h0, hp, hd, eT, e4, z_kmr_c hc]
noncomputable def zk_V (I : z_I) (RS : Nat → List zm_row) (b m : Int) (h : Nat) : Int := zk_w b (zk_KM I m) (zd_V I RS m) h * zk_am I 0 m (I 0 0).toInt
theorem zk_V_0 {I : z_I} {RS : Nat → List zm_row} {b m : Int} {h : Nat} (q : b = 0 ∧ zk_KM I m h = 0) : zk_V I RS b m h = 0 := by
  unfold zk_V
  rw [zk_w_0 q, Int.zero_mul]
theorem zk_V_1 {I : z_I} {RS : Nat → List zm_row} {b m u a : Int} {h : Nat} (q : ¬ (b = 0 ∧ zk_KM I m h = 0)) (hU : u = zd_V I RS m h) (hA : a = zk_am I 0 m (I 0 0).toInt) : zk_V I RS b m h = u * a := by
  unfold zk_V
  rw [zk_w_1 q, ← hU, ← hA]
noncomputable def zk_Q (I : z_I) (RS : Nat → List zm_row) (b now : Int) (k : Nat) : Int := zd_S (zk_V I RS b (now + (k : Int))) (I 0 1).toNatClampNeg
theorem zk_Q_e {I : z_I} {RS : Nat → List zm_row} {b now m : Int} {k : Nat} (hm : now + (k : Int) = m) : zk_Q I RS b now k = zd_S (zk_V I RS b m) (I 0 1).toNatClampNeg := by
  unfold zk_Q
  rw [hm]
noncomputable def zk_q (I : z_I) (j : Nat) : Int := (I 52 j).toInt
/-! both sums are equal -/
theorem zk_dist {W : Nat → Int} {A : Int} : ∀ n : Nat, zd_S (fun h => W h * A) n = A * zd_S W n
  | 0 => (Int.mul_zero A).symm
  | n + 1 => by rw [zd_S, zd_S, zk_dist n, Int.mul_add, Int.mul_comm (W n) A]
theorem zk_E {c : z_C} {Ix Im : z_I} {RS : Nat → List zm_row} {FF : Nat → Nat} {b now : Int} (hCH : ∀ k, k < c.2.1 → zw_T Im k (FF k) (RS k) ∧ zv_ss c Ix k ((RS k).map Prod.fst) ∧ zi_mo Ix k = zi_km Im k ∧ zi_td Ix k = zi_kt Im k ∧ 0 ≤ zi_mo Ix k) (hn : (Im 0 13).toNatClampNeg = c.2.1) (hO : z_OW c Ix Im) (hRH : z_RH Ix Im) (hRN : z_RN Ix Im) (hN : (Ix 1 11).toInt = (Im 0 2).toInt) (h0 : 0 ≤ (Ix 1 11).toInt) (hT : (Im 0 0).toInt = (Ix 0 0).toInt) (hk : (Ix 0 0).toInt ≤ 719) (hH : (Im 0 1).toInt = (Ix 1 5).toInt) (hb : 0 ≤ (Ix 1 5).toInt ∧ (Ix 1 5).toInt ≤ 30) (n : Nat) : zd_S (zk_Q Im RS b now) n = zd_S (zk_P c Ix (fun k => (RS k).map Prod.fst) b now) n := by
  refine zd_S_c n (fun k _ => ?_)
  have n1 := z_clt (x := Ix 1 11) rfl h0
  have n2 := z_clt (x := Im 0 2) rfl (by omega)
  have n3 := z_clt (x := Ix 1 5) rfl hb.1
  have eH : (Im 0 1).toNatClampNeg = (Ix 1 5).toNatClampNeg := congrArg Int.toNat hH
  unfold zk_Q zk_P zk_S
  rw [show zk_V Im RS b (now + (k : Int)) = (fun h => zk_w b (zk_KM Im (now + (k : Int))) (zd_V Im RS (now + (k : Int))) h * zk_am Im 0 (now + (k : Int)) (Im 0 0).toInt) from rfl, zk_dist, hT, ← zk_a_e hO hn (by decide), eH]
  refine congrArg (fun s => zk_ax c Ix 0 (now + (k : Int)) (Ix 0 0).toInt * s) (zd_S_c _ (fun h hh => ?_))
  have e1 : zk_KM Im (now + (k : Int)) h = zk_K Ix (now + (k : Int)) h := by
    unfold zk_KM zk_K
    rw [hT, Int.mul_comm (now + (k : Int)) 30, z_RN_r hRN hk (n := (Ix 1 11).toNatClampNeg) (m := (Im 0 2).toNatClampNeg) (by omega) (by omega)]
  have e2 : zd_V Im RS (now + (k : Int)) h = zd_U c Ix (fun k => (RS k).map Prod.fst) (now + (k : Int)) h := zd_VU hCH hn hRH hRN hN h0 hT hk (by omega) hb.2
  unfold zk_w
  rw [e1, e2]
theorem zk_RPs {Ix Im : z_I} (h : ∀ j : Nat, (j : Int) < (Ix 41 10).toInt → Ix 42 j = Im 52 j ∧ 0 ≤ (Ix 42 j).toInt ∧ (Ix 42 j).toInt ≤ 50) (h0 : 0 ≤ (Ix 41 10).toInt) (hn : (Im 0 75).toInt = (Ix 41 10).toInt) : zd_S (zk_q Im) (Im 0 75).toNatClampNeg = zd_S (zk_p Ix) (Ix 41 10).toNatClampNeg := by
  have n1 := z_clt (x := Ix 41 10) rfl h0
  rw [show (Im 0 75).toNatClampNeg = (Ix 41 10).toNatClampNeg from congrArg Int.toNat hn]
  refine zd_S_c _ (fun j hj => ?_)
  unfold zk_q zk_p
  rw [(h j (by omega)).1]
set_option maxHeartbeats 8000000 in
set_option maxRecDepth 100000 in
theorem sx_X4_inPorts_k (l : Launch) (G : z_G) (ad : Nat → Nat) (c : z_C) (I : z_I) (hL : z_iL I) (hPo : ∀ j : Nat, (j : Int) < (I 41 10).toInt → 0 ≤ (I 42 j).toInt ∧ (I 42 j).toInt ≤ 50) : z_M l yX4_inPorts wsX4_inPorts { frames := 1, cells := 0, slots := 0, locals := 12 } [.ref (ad 41)] G (shC c, ad, I, JX, PC c ad) (fun r u1 => u1 = (shC c, ad, I, JX, PC c ad) ∧ (r.toInt = zd_S (zk_p I) (I 41 10).toNatClampNeg ∧ 0 ≤ r.toInt ∧ r.toInt ≤ 200)) 0 0 := by
  intro sz
  refine z_headQ (cc := cX4_inPorts) (maxL := 3) (ret := (some .int)) (by decide) rfl (Nat.le_of_ble_eq_true rfl) ?_
  intro p e s m below meth c0 ls hIn hK hsz hW hl
  obtain ⟨hx, hb, hr, hml, hown, hts, hlocks, hname⟩ := hIn
  subst hsz
  have hown : s.vm.findClass RX4 = some m.cls := hown
  have hA : ∀ q : Nat, s.heap.size ≤ q → z_A (shC c, ad, I, JX, PC c ad) s.heap.size q := fun q h => Or.inr h
  generalize hAe : z_A (shC c, ad, I, JX, PC c ad) s.heap.size = A at *
  have hS : va_S A s.heap s.heap [] := va_S.rf
  have hl : lv_has ls 3 [(0, .ref (ad 41))] := hl
  refine lv_iconst (v := 0) hx hb dX4_inPorts_0 (by decide) ?_
  refine lv_istore_n (lv' := [(1, .int 0), (0, .ref (ad 41))]) hx hb dX4_inPorts_1 rfl hl (by decide) rfl (fun ls hl => ?_)
  refine lv_iconst (v := 0) hx hb dX4_inPorts_2 (by decide) ?_
  refine lv_istore_n (lv' := [(2, .int 0), (1, .int 0), (0, .ref (ad 41))]) hx hb dX4_inPorts_3 rfl hl (by decide) rfl (fun ls hl => ?_)
  have lp1 : ∀ (f : Nat) (y2 : Int32) (y3 : Int32) (H : Heap) (locs : List Loc) (ls : Array Slot), (2147483647 < y2.toInt + (f : Int)) → (0 ≤ y2.toInt) → (0 ≤ y3.toInt) → (y3.toInt ≤ 200) → (y3.toInt = zd_S (zk_p I) y2.toNatClampNeg ∧ y3.toInt ≤ 50 * y2.toInt ∧ y2.toInt ≤ (I 41 10).toInt) → z_W G A (shC c, ad, I, JX, PC c ad) H → va_S A s.heap H locs → lv_has ls 3 [(2, .int y2), (1, .int y3), (0, .ref (ad 41))] → W p l e (headSpec wsX4_inPorts { frames := 1, cells := 0, slots := 0, locals := 12 }).room s m ([.ref (ad 41)] : List Value).toArray below meth c0 H locs 0 0 (MQ below (va_Qi (fun (r : Int32) (u1 : z_U) => u1 = (shC c, ad, I, JX, PC c ad) ∧ (r.toInt = zd_S (zk_p I) (I 41 10).toNatClampNeg ∧ 0 ≤ r.toInt ∧ r.toInt ≤ 200)) (z_B G A) A) ([.ref (ad 41)] : List Value).toArray s 0 0 A) (F0 m 4 ls []) := by
    intro f
    induction f with
    | zero => intro y2 y3 H locs ls lp1m lp1l2 lp1l1 lp1u1 lp1B hW hS hl; exact absurd lp1m (by have := Int32.toInt_lt y2; have := Int32.le_toInt y2; omega)
    | succ f lp1ih =>
      intro y2 y3 H locs ls lp1m lp1l2 lp1l1 lp1u1 lp1B hW hS hl
      refine lv_iload_n hx hb dX4_inPorts_4 rfl (lv_at hl 0 rfl) ?_
      refine lv_aload_n hx hb dX4_inPorts_5 rfl (lv_at hl 2 rfl) ?_
      have r4 : 0 ≤ (I 41 10).toInt ∧ (I 41 10).toInt ≤ 4 := hL
      refine z_get (T := TX4) (N := 13) (ci := 4) (i := 41) (v := .int (I 41 10)) hx hb hts zj_X4_inPorts_X4 hown hK hW rfl rfl 10 (by decide) (hts (.fieldLink RX4 44 "PetrolBoard$Loads" "ports" "I") (me_s (me_l (List.mem_of_getElem? (i := 0) rfl)))) (fun _ h => h) rfl dX4_inPorts_6 ?_
      refine lv_icmp_ge (tgt := 32) hx hb dX4_inPorts_9 (by decide) (fun c5 => ?_) (fun c5 => ?_)
      · have g6 := z_f_ge rfl rfl c5
        have b7 := Int32.toInt_lt y2
        refine lv_iload_n hx hb dX4_inPorts_32 rfl (lv_at hl 1 rfl) ?_
        exact z_iret hx hb hr hK hS (Nat.le_of_ble_eq_true rfl) (Nat.le_of_ble_eq_true rfl) hlocks dX4_inPorts_33 (shC c, ad, I, JX, PC c ad) hW ⟨rfl, (by have q1 := z_clt (x := y2) rfl (by omega); have q2 := z_clt (x := (I 41 10)) rfl (by omega); rw [show (I 41 10).toNatClampNeg = y2.toNatClampNeg by omega]; exact ⟨lp1B.1, by omega, by omega⟩)⟩
      · have g8 := z_f_nge rfl rfl c5
        have b9 := Int32.toInt_lt y2
        refine lv_iload_n hx hb dX4_inPorts_12 rfl (lv_at hl 0 rfl) ?_
        refine lv_iconst (v := 4) hx hb dX4_inPorts_13 (by decide) ?_
        refine lv_icmp_ge (tgt := 32) hx hb dX4_inPorts_14 (by decide) (fun c10 => (by have g := z_f_ge rfl z_l4 c10; omega)) (fun c10 => ?_)
        have g11 := z_f_nge rfl z_l4 c10
        refine lv_iload_n hx hb dX4_inPorts_17 rfl (lv_at hl 1 rfl) ?_
        refine lv_aload_n hx hb dX4_inPorts_18 rfl (lv_at hl 2 rfl) ?_
        refine z_get (T := TX4) (N := 13) (ci := 4) (i := 41) (v := .ref (ad 42)) hx hb hts zj_X4_inPorts_X4 hown hK hW rfl rfl 0 (by decide) (hts (.fieldLink RX4 9 "PetrolBoard$Loads" "inPort" "[I") (me_s (me_l (List.mem_of_getElem? (i := 1) rfl)))) (fun _ h => h) rfl dX4_inPorts_19 ?_
        refine lv_iload_n hx hb dX4_inPorts_22 rfl (lv_at hl 0 rfl) ?_
        refine z_iald (i := 42) hx hb hK hW rfl (z_ix rfl (by omega) (by omega)) dX4_inPorts_23 ?_
        refine lv_topi (fun x12 ex12 => ?_)
        have hv13 : (I 42 y2.toNatClampNeg).toInt = x12.toInt := by rw [ex12]
        have hz14 := z_clt (x := y2) rfl (by omega)
        have hu15 := hPo y2.toNatClampNeg (by omega)
        refine lv_iadd hx hb dX4_inPorts_24 ?_
        refine lv_topi (fun x16 ex16 => ?_)
        have tx16 : x16.toInt = y3.toInt + x12.toInt := z_tadd ex16 rfl rfl (by omega) (by omega)
        refine lv_istore_n (lv' := [(1, .int x16), (2, .int y2), (0, .ref (ad 41))]) hx hb dX4_inPorts_25 rfl hl (by decide) rfl (fun ls hl => ?_)
        obtain ⟨x17, ex17⟩ : ∃ y : Int32, y = y2 + 1 := ⟨_, rfl⟩
        have tx17 : x17.toInt = y2.toInt + 1 := z_tadd ex17 rfl z_l1 (by omega) (by omega)
        refine lv_iinc (v := x17) (lv' := [(2, .int x17), (1, .int x16), (0, .ref (ad 41))]) hx hb dX4_inPorts_26 hl (k := 1) rfl (by rw [ex17]; rfl) (by decide) rfl (fun ls hl => ?_)
        refine lv_goto (tgt := 4) hx hb dX4_inPorts_29 (by decide) ?_
        exact lp1ih x17 x16 _ _ _ (by omega) (by omega) (by omega) (by omega) ⟨by rw [show x17.toNatClampNeg = y2.toNatClampNeg + 1 from z_cln (by omega) (by omega), zd_S_s, ← lp1B.1]; unfold zk_p; omega, by omega, by omega⟩ hW hS (lv_sub hl [0, 1, 2] rfl)
  exact lp1 4294967296 (0) (0) _ _ _ (z_m0u _) (by rw [z_l0]; omega) (by rw [z_l0]; omega) (by rw [z_l0]; omega) ⟨by rw [show (0 : Int32).toNatClampNeg = 0 by decide]; rfl, by have q0 := z_l0; omega, by have q0 := z_l0; omega⟩ hW hS (lv_sub hl [0, 1, 2] rfl)
noncomputable def L_X11_unitsTogether_k : z_L := [(24, 999), (25, 999)]
set_option maxHeartbeats 8000000 in
set_option maxRecDepth 100000 in
theorem sx_X11_unitsTogether_k (l : Launch) (G : z_G) (ad : Nat → Nat) (c : z_C) (I : z_I) (hH : z_iH I) (hO : z_iO I) (hB : z_iB I) (SS : Nat → List zp_T) (a1 : Int32) (a2 : Int32) (hc : z_okc c) (h10 : c.1 ≤ 10) (hWu : zv_W c I SS) (q1 : 0 ≤ a1.toInt ∧ a1.toInt ≤ 23) : z_M l yX11_unitsTogether wsX11_unitsTogether { frames := 6, cells := 0, slots := 0, locals := 160 } [.ref (ad 0), .int a1, .int a2] G (shC c, ad, I, JX, PC c ad) (fun r u1 => ∃ I1 : z_I, u1 = (shC c, ad, I1, JX, PC c ad) ∧ z_iH I1 ∧ z_iO I1 ∧ z_iB I1 ∧ z_fr L_X11_unitsTogether_k I1 I ∧ r.toInt = zk_S c I SS a2.toInt a1.toInt ∧ 0 ≤ r.toInt ∧ r.toInt ≤ 2970) 0 0 := by
  intro sz
  refine z_headQ (cc := cX11_unitsTogether) (maxL := 5) (ret := (some .int)) (by decide) rfl (Nat.le_of_ble_eq_true rfl) ?_
  intro p e s m below meth c0 ls hIn hK hsz hW hl
  obtain ⟨hx, hb, hr, hml, hown, hts, hlocks, hname⟩ := hIn
  subst hsz
  have hown : s.vm.findClass RX11 = some m.cls := hown
  have hA : ∀ q : Nat, s.heap.size ≤ q → z_A (shC c, ad, I, JX, PC c ad) s.heap.size q := fun q h => Or.inr h
  generalize hAe : z_A (shC c, ad, I, JX, PC c ad) s.heap.size = A at *
  have hS : va_S A s.heap s.heap [] := va_S.rf
  have hl : lv_has ls 5 [(0, .ref (ad 0)), (1, .int a1), (2, .int a2)] := hl
  refine lv_iconst (v := 0) hx hb dX11_unitsTogether_0 (by decide) ?_
  refine lv_istore_n (lv' := [(3, .int 0), (0, .ref (ad 0)), (1, .int a1), (2, .int a2)]) hx hb dX11_unitsTogether_1 rfl hl (by decide) rfl (fun ls hl => ?_)
  refine lv_iconst (v := 0) hx hb dX11_unitsTogether_2 (by decide) ?_
  refine lv_istore (lv' := [(4, .int 0), (3, .int 0), (0, .ref (ad 0)), (1, .int a1), (2, .int a2)]) hx hb dX11_unitsTogether_3 hl (by decide) rfl (fun ls hl => ?_)
  have lp1 : ∀ (f : Nat) (y2 : Int32) (y3 : Int32) (I4 : z_I) (H : Heap) (locs : List Loc) (ls : Array Slot), (2147483647 < y2.toInt + (f : Int)) → (0 ≤ y2.toInt) → (0 ≤ y3.toInt) → (y3.toInt ≤ 2970) → (z_iH I4) → (z_iO I4) → (z_iB I4) → (y3.toInt = zd_S (zk_w a2.toInt (zk_K I a1.toInt) (zd_U c I SS a1.toInt)) y2.toNatClampNeg ∧ y3.toInt ≤ 99 * y2.toInt ∧ y2.toInt ≤ (I 1 5).toInt) → (z_fr L_X11_unitsTogether_k I4 I) → z_W G A (shC c, ad, I4, JX, PC c ad) H → va_S A s.heap H locs → lv_has ls 5 [(4, .int y2), (3, .int y3), (0, .ref (ad 0)), (1, .int a1), (2, .int a2)] → W p l e (headSpec wsX11_unitsTogether { frames := 6, cells := 0, slots := 0, locals := 160 }).room s m ([.ref (ad 0), .int a1, .int a2] : List Value).toArray below meth c0 H locs 0 0 (MQ below (va_Qi (fun (r : Int32) (u1 : z_U) => ∃ I1 : z_I, u1 = (shC c, ad, I1, JX, PC c ad) ∧ z_iH I1 ∧ z_iO I1 ∧ z_iB I1 ∧ z_fr L_X11_unitsTogether_k I1 I ∧ r.toInt = zk_S c I SS a2.toInt a1.toInt ∧ 0 ≤ r.toInt ∧ r.toInt ≤ 2970) (z_B G A) A) ([.ref (ad 0), .int a1, .int a2] : List Value).toArray s 0 0 A) (F0 m 5 ls []) := by
    intro f
    induction f with
    | zero => intro y2 y3 I4  H locs ls lp1m lp1l4 lp1l3 lp1u3 lp1H lp1O lp1B lp1S lp1fr hW hS hl; exact absurd lp1m (by have := Int32.toInt_lt y2; have := Int32.le_toInt y2; omega)
    | succ f lp1ih =>
      intro y2 y3 I4  H locs ls lp1m lp1l4 lp1l3 lp1u3 lp1H lp1O lp1B lp1S lp1fr hW hS hl
      refine lv_iload hx hb dX11_unitsTogether_5 (lv_at hl 0 rfl) ?_
      refine lv_aload_n hx hb dX11_unitsTogether_7 rfl (lv_at hl 2 rfl) ?_
      have hn5 : (I4 1 5).toInt = (I 1 5).toInt := by rw [lp1fr 1 5 (by decide)]
      refine z_get (T := TX11) (N := 13) (ci := 11) (i := 0) (v := .ref (ad 1)) hx hb hts zj_X11_unitsTogether_X11 hown hK hW rfl rfl 2 (by decide) (hts (.fieldLink RX11 16 "PetrolBoard" "holders" "LPetrolBoard$Holders;") (me_s (me_l (me_l (me_l (me_l (me_l (me_l (List.mem_of_getElem? (i := 0) rfl))))))))) (fun _ h => h) rfl dX11_unitsTogether_8 ?_
      have r6 : 0 ≤ (I4 1 5).toInt ∧ (I4 1 5).toInt ≤ 30 := lp1H.1
      refine z_get (T := TX2) (N := 12) (ci := 2) (i := 1) (v := .int (I4 1 5)) hx hb hts zj_X11_unitsTogether_X2 hown hK hW rfl rfl 5 (by decide) (hts (.fieldLink RX11 373 "PetrolBoard$Holders" "number" "I") (me_s (me_l (me_l (me_l (me_l (me_l (me_l (List.mem_of_getElem? (i := 1) rfl))))))))) (fun _ h => h) rfl dX11_unitsTogether_11 ?_
      refine lv_icmp_ge (tgt := 68) hx hb dX11_unitsTogether_14 (by decide) (fun c7 => ?_) (fun c7 => ?_)
      · have g8 := z_f_ge rfl rfl c7
        have b9 := Int32.toInt_lt y2
        refine lv_iload_n hx hb dX11_unitsTogether_68 rfl (lv_at hl 1 rfl) ?_
        exact z_iret hx hb hr hK hS (Nat.le_of_ble_eq_true rfl) (Nat.le_of_ble_eq_true rfl) hlocks dX11_unitsTogether_69 (shC c, ad, I4, JX, PC c ad) hW ⟨I4, rfl, ⟨(by show 0 ≤ (I4 1 5).toInt ∧ (I4 1 5).toInt ≤ 30; exact lp1H.1), (by show 0 ≤ (I4 1 11).toInt ∧ (I4 1 11).toInt ≤ 200; exact lp1H.2)⟩, (by show 0 ≤ (I4 21 2).toInt ∧ (I4 21 2).toInt ≤ 12; exact lp1O), ⟨(by show 0 ≤ (I4 0 0).toInt ∧ (I4 0 0).toInt ≤ 719; exact lp1B.1), (by show 0 ≤ (I4 0 8).toInt ∧ (I4 0 8).toInt ≤ 10; exact lp1B.2)⟩, lp1fr, (by have q1 := z_clt (x := y2) rfl (by omega); have q2 := z_clt (x := I 1 5) rfl (by have q9 := hH.1; omega); unfold zk_S; rw [show (I 1 5).toNatClampNeg = y2.toNatClampNeg by omega]; exact ⟨lp1S.1, by omega, by omega⟩)⟩
      · have g10 := z_f_nge rfl rfl c7
        have b11 := Int32.toInt_lt y2
        refine lv_iload_n hx hb dX11_unitsTogether_17 rfl (lv_at hl 4 rfl) ?_
        refine lv_if_ne (tgt := 41) hx hb dX11_unitsTogether_18 (by decide) (fun c12 => ?_) (fun c12 => ?_)
        · have g13 := z_f_ne rfl z_l0 c12
          have b14 := Int32.toInt_lt a2
          refine lv_iload_n hx hb dX11_unitsTogether_41 rfl (lv_at hl 1 rfl) ?_
          refine lv_aload_n hx hb dX11_unitsTogether_42 rfl (lv_at hl 2 rfl) ?_
          refine z_get (T := TX11) (N := 13) (ci := 11) (i := 0) (v := .ref (ad 21)) hx hb hts zj_X11_unitsTogether_X11 hown hK hW rfl rfl 4 (by decide) (hts (.fieldLink RX11 30 "PetrolBoard" "orderBook" "LPetrolBoard$OrderBook;") (me_s (me_l (me_l (me_l (me_l (me_l (me_l (List.mem_of_getElem? (i := 3) rfl))))))))) (fun _ h => h) rfl dX11_unitsTogether_43 ?_
          refine lv_aload_n hx hb dX11_unitsTogether_46 rfl (lv_at hl 2 rfl) ?_
          refine z_get (T := TX11) (N := 13) (ci := 11) (i := 0) (v := .ref (ad 1)) hx hb hts zj_X11_unitsTogether_X11 hown hK hW rfl rfl 2 (by decide) (hts (.fieldLink RX11 16 "PetrolBoard" "holders" "LPetrolBoard$Holders;") (me_s (me_l (me_l (me_l (me_l (me_l (me_l (List.mem_of_getElem? (i := 0) rfl))))))))) (fun _ h => h) rfl dX11_unitsTogether_47 ?_
          refine lv_iload hx hb dX11_unitsTogether_50 (lv_at hl 0 rfl) ?_
          refine lv_iload_n hx hb dX11_unitsTogether_52 rfl (lv_at hl 3 rfl) ?_
          refine lv_aload_n hx hb dX11_unitsTogether_53 rfl (lv_at hl 2 rfl) ?_
          have r15 : 0 ≤ (I4 0 0).toInt ∧ (I4 0 0).toInt ≤ 719 := lp1B.1
          refine z_get (T := TX11) (N := 13) (ci := 11) (i := 0) (v := .int (I4 0 0)) hx hb hts zj_X11_unitsTogether_X11 hown hK hW rfl rfl 0 (by decide) (hts (.fieldLink RX11 85 "PetrolBoard" "today" "I") (me_s (me_l (me_l (me_l (me_l (me_l (me_l (List.mem_of_getElem? (i := 2) rfl))))))))) (fun _ h => h) rfl dX11_unitsTogether_54 ?_
          refine z_ci hW hS hA (va_runV (As := [.ref (ad 1), .int y2, .int a1, .int (I4 0 0)]) (rest := [.int y3]) ⟨hx, hb, hml, hown, hts⟩ (sx_X6_unitsOf_x l G ad c I4 (by show 0 ≤ (I4 21 2).toInt ∧ (I4 21 2).toInt ≤ 12; exact lp1O) ⟨(by show 0 ≤ (I4 1 5).toInt ∧ (I4 1 5).toInt ≤ 30; exact lp1H.1), (by show 0 ≤ (I4 1 11).toInt ∧ (I4 1 11).toInt ≤ 200; exact lp1H.2)⟩ SS y2 a1 (I4 0 0) hc hWu (by omega) (by omega) _) (cwV 4 hts gX11_unitsTogether_X6_unitsOf rfl rfl rfl (by decide +kernel) ⟨Nat.le_of_ble_eq_true rfl, Nat.le_of_ble_eq_true rfl⟩) (z_preV (i := 21) hK hW rfl rfl) rfl rfl hl.1 rfl (lv_room (Nat.le_of_ble_eq_true rfl)) dX11_unitsTogether_57 ⟨Nat.le_of_ble_eq_true rfl, Nat.le_of_ble_eq_true rfl⟩) (fun r u1 H locs hp hW hS => ?_)
          obtain ⟨I16, e9, hI16O, hI16H, fI16, hp⟩ := hp
          rw [e9] at hW
          have f17 := z_fr_sub (L := L_X11_unitsTogether_k) lp1fr fI16 (by decide)
          have k18 : (I16 1 5).toInt = (I4 1 5).toInt := by rw [fI16 1 5 (by decide)]
          have k19 : 0 ≤ (I16 0 0).toInt ∧ (I16 0 0).toInt ≤ 719 := by rw [fI16 0 0 (by decide)]; exact (by show 0 ≤ (I4 0 0).toInt ∧ (I4 0 0).toInt ≤ 719; exact lp1B.1)
          have k20 : 0 ≤ (I16 0 8).toInt ∧ (I16 0 8).toInt ≤ 10 := by rw [fI16 0 8 (by decide)]; exact (by show 0 ≤ (I4 0 8).toInt ∧ (I4 0 8).toInt ≤ 10; exact lp1B.2)
          refine lv_topi (fun x21 ex21 => ?_)
          rw [← ex21] at hp
          have hb23 := z_UX_b hp
          have hU22 : x21.toInt = zd_U c I SS a1.toInt y2.toNatClampNeg := zd_U_e (by omega) (zv_UX_c (zv_fr2 lp1fr (by decide)) (fun j => ⟨lp1fr 7 j (z_wr_c (by decide)), lp1fr 8 j (z_wr_c (by decide)), lp1fr 9 j (z_wr_c (by decide)), lp1fr 10 j (z_wr_c (by decide)), lp1fr 11 j (z_wr_c (by decide))⟩) (lp1fr 1 11 (by decide)) (fun j => ⟨lp1fr 2 j (z_wr_c (by decide)), lp1fr 3 j (z_wr_c (by decide))⟩) (by have q9 := hp; rw [show (I4 0 0).toInt = (I 0 0).toInt by rw [lp1fr 0 0 (by decide)]] at q9; exact q9))
          refine lv_iadd hx hb dX11_unitsTogether_60 ?_
          refine lv_topi (fun x24 ex24 => ?_)
          have tx24 : x24.toInt = y3.toInt + x21.toInt := z_tadd ex24 rfl rfl (by omega) (by omega)
          refine lv_istore_n (lv' := [(3, .int x24), (4, .int y2), (0, .ref (ad 0)), (1, .int a1), (2, .int a2)]) hx hb dX11_unitsTogether_61 rfl hl (by decide) rfl (fun ls hl => ?_)
          obtain ⟨x25, ex25⟩ : ∃ y : Int32, y = y2 + 1 := ⟨_, rfl⟩
          have tx25 : x25.toInt = y2.toInt + 1 := z_tadd ex25 rfl z_l1 (by omega) (by omega)
          refine lv_iinc (v := x25) (lv' := [(4, .int x25), (3, .int x24), (0, .ref (ad 0)), (1, .int a1), (2, .int a2)]) hx hb dX11_unitsTogether_62 hl (k := 1) rfl (by rw [ex25]; rfl) (by decide) rfl (fun ls hl => ?_)
          refine lv_goto (tgt := 5) hx hb dX11_unitsTogether_65 (by decide) ?_
          exact lp1ih x25 x24 I16  _ _ _ (by omega) (by omega) (by omega) (by omega) ⟨(by show 0 ≤ (I16 1 5).toInt ∧ (I16 1 5).toInt ≤ 30; exact hI16H.1), (by show 0 ≤ (I16 1 11).toInt ∧ (I16 1 11).toInt ≤ 200; exact hI16H.2)⟩ (by show 0 ≤ (I16 21 2).toInt ∧ (I16 21 2).toInt ≤ 12; exact hI16O) ⟨(by show 0 ≤ (I16 0 0).toInt ∧ (I16 0 0).toInt ≤ 719; exact k19), (by show 0 ≤ (I16 0 8).toInt ∧ (I16 0 8).toInt ≤ 10; exact k20)⟩ ⟨by rw [show x25.toNatClampNeg = y2.toNatClampNeg + 1 from z_cln (by omega) (by omega), zd_S_s, zk_w_1 (fun q => by have q1 := q.1; have q2 := q.2; omega), ← lp1S.1, ← hU22]; omega, by omega, by omega⟩ f17 hW hS (lv_sub hl [0, 1, 2, 3, 4] rfl)
        · have g26 := z_f_eq rfl z_l0 c12
          have b27 := Int32.toInt_lt a2
          refine lv_aload_n hx hb dX11_unitsTogether_21 rfl (lv_at hl 2 rfl) ?_
          refine z_get (T := TX11) (N := 13) (ci := 11) (i := 0) (v := .ref (ad 1)) hx hb hts zj_X11_unitsTogether_X11 hown hK hW rfl rfl 2 (by decide) (hts (.fieldLink RX11 16 "PetrolBoard" "holders" "LPetrolBoard$Holders;") (me_s (me_l (me_l (me_l (me_l (me_l (me_l (List.mem_of_getElem? (i := 0) rfl))))))))) (fun _ h => h) rfl dX11_unitsTogether_22 ?_
          refine lv_iload hx hb dX11_unitsTogether_25 (lv_at hl 0 rfl) ?_
          refine lv_iload_n hx hb dX11_unitsTogether_27 rfl (lv_at hl 3 rfl) ?_
          refine lv_bipush (v := 30) hx hb dX11_unitsTogether_28 (by decide) ?_
          refine lv_imul hx hb dX11_unitsTogether_30 ?_
          refine lv_topi (fun x28 ex28 => ?_)
          have tx28 : x28.toInt = a1.toInt * 30 := z_tmul ex28 rfl z_l30 (by omega) (by omega)
          refine lv_aload_n hx hb dX11_unitsTogether_31 rfl (lv_at hl 2 rfl) ?_
          have r29 : 0 ≤ (I4 0 0).toInt ∧ (I4 0 0).toInt ≤ 719 := lp1B.1
          refine z_get (T := TX11) (N := 13) (ci := 11) (i := 0) (v := .int (I4 0 0)) hx hb hts zj_X11_unitsTogether_X11 hown hK hW rfl rfl 0 (by decide) (hts (.fieldLink RX11 85 "PetrolBoard" "today" "I") (me_s (me_l (me_l (me_l (me_l (me_l (me_l (List.mem_of_getElem? (i := 2) rfl))))))))) (fun _ h => h) rfl dX11_unitsTogether_32 ?_
          refine z_ci hW hS hA (va_runV (As := [.int y2, .int x28, .int (I4 0 0)]) (rest := []) ⟨hx, hb, hml, hown, hts⟩ (sx_X2_kindOn_r l G ad c I4 ⟨(by show 0 ≤ (I4 1 5).toInt ∧ (I4 1 5).toInt ≤ 30; exact lp1H.1), (by show 0 ≤ (I4 1 11).toInt ∧ (I4 1 11).toInt ≤ 200; exact lp1H.2)⟩ y2 x28 (I4 0 0) _) (cwV 3 hts gX11_unitsTogether_X2_kindOn rfl rfl rfl (by decide +kernel) ⟨Nat.le_of_ble_eq_true rfl, Nat.le_of_ble_eq_true rfl⟩) (z_preV (i := 1) hK hW rfl rfl) rfl rfl hl.1 rfl (lv_room (Nat.le_of_ble_eq_true rfl)) dX11_unitsTogether_35 ⟨Nat.le_of_ble_eq_true rfl, Nat.le_of_ble_eq_true rfl⟩) (fun r u1 H locs hp hW hS => ?_)
          obtain ⟨e9, hp⟩ := hp
          rw [e9] at hW
          refine lv_topi (fun x30 ex30 => ?_)
          rw [← ex30] at hp
          have hk31 : x30.toInt = zk_K I a1.toInt y2.toNatClampNeg := zk_K_e (fun j => ⟨lp1fr 7 j (z_wr_c (by decide)), lp1fr 8 j (z_wr_c (by decide)), lp1fr 9 j (z_wr_c (by decide)), lp1fr 10 j (z_wr_c (by decide)), lp1fr 11 j (z_wr_c (by decide))⟩) (lp1fr 1 11 (by decide)) (lp1fr 0 0 (by decide)) (by omega) (by omega) hp
          refine lv_if_eq (tgt := 62) hx hb dX11_unitsTogether_38 (by decide) (fun c32 => ?_) (fun c32 => ?_)
          · have g33 := z_f_eq rfl z_l0 c32
            have b34 := Int32.toInt_lt x30
            obtain ⟨x35, ex35⟩ : ∃ y : Int32, y = y2 + 1 := ⟨_, rfl⟩
            have tx35 : x35.toInt = y2.toInt + 1 := z_tadd ex35 rfl z_l1 (by omega) (by omega)
            refine lv_iinc (v := x35) (lv' := [(4, .int x35), (3, .int y3), (0, .ref (ad 0)), (1, .int a1), (2, .int a2)]) hx hb dX11_unitsTogether_62 hl (k := 0) rfl (by rw [ex35]; rfl) (by decide) rfl (fun ls hl => ?_)
            refine lv_goto (tgt := 5) hx hb dX11_unitsTogether_65 (by decide) ?_
            exact lp1ih x35 y3 I4  _ _ _ (by omega) (by omega) (by omega) (by omega) ⟨(by show 0 ≤ (I4 1 5).toInt ∧ (I4 1 5).toInt ≤ 30; exact lp1H.1), (by show 0 ≤ (I4 1 11).toInt ∧ (I4 1 11).toInt ≤ 200; exact lp1H.2)⟩ (by show 0 ≤ (I4 21 2).toInt ∧ (I4 21 2).toInt ≤ 12; exact lp1O) ⟨(by show 0 ≤ (I4 0 0).toInt ∧ (I4 0 0).toInt ≤ 719; exact lp1B.1), (by show 0 ≤ (I4 0 8).toInt ∧ (I4 0 8).toInt ≤ 10; exact lp1B.2)⟩ ⟨by rw [show x35.toNatClampNeg = y2.toNatClampNeg + 1 from z_cln (by omega) (by omega), zd_S_s, zk_w_0 ⟨by omega, by omega⟩, ← lp1S.1]; omega, by omega, by omega⟩ lp1fr hW hS (lv_sub hl [0, 1, 2, 3, 4] rfl)
          · have g36 := z_f_ne rfl z_l0 c32
            have b37 := Int32.toInt_lt x30
            refine lv_iload_n hx hb dX11_unitsTogether_41 rfl (lv_at hl 1 rfl) ?_
            refine lv_aload_n hx hb dX11_unitsTogether_42 rfl (lv_at hl 2 rfl) ?_
            refine z_get (T := TX11) (N := 13) (ci := 11) (i := 0) (v := .ref (ad 21)) hx hb hts zj_X11_unitsTogether_X11 hown hK hW rfl rfl 4 (by decide) (hts (.fieldLink RX11 30 "PetrolBoard" "orderBook" "LPetrolBoard$OrderBook;") (me_s (me_l (me_l (me_l (me_l (me_l (me_l (List.mem_of_getElem? (i := 3) rfl))))))))) (fun _ h => h) rfl dX11_unitsTogether_43 ?_
            refine lv_aload_n hx hb dX11_unitsTogether_46 rfl (lv_at hl 2 rfl) ?_
            refine z_get (T := TX11) (N := 13) (ci := 11) (i := 0) (v := .ref (ad 1)) hx hb hts zj_X11_unitsTogether_X11 hown hK hW rfl rfl 2 (by decide) (hts (.fieldLink RX11 16 "PetrolBoard" "holders" "LPetrolBoard$Holders;") (me_s (me_l (me_l (me_l (me_l (me_l (me_l (List.mem_of_getElem? (i := 0) rfl))))))))) (fun _ h => h) rfl dX11_unitsTogether_47 ?_
            refine lv_iload hx hb dX11_unitsTogether_50 (lv_at hl 0 rfl) ?_
            refine lv_iload_n hx hb dX11_unitsTogether_52 rfl (lv_at hl 3 rfl) ?_
            refine lv_aload_n hx hb dX11_unitsTogether_53 rfl (lv_at hl 2 rfl) ?_
            refine z_get (T := TX11) (N := 13) (ci := 11) (i := 0) (v := .int (I4 0 0)) hx hb hts zj_X11_unitsTogether_X11 hown hK hW rfl rfl 0 (by decide) (hts (.fieldLink RX11 85 "PetrolBoard" "today" "I") (me_s (me_l (me_l (me_l (me_l (me_l (me_l (List.mem_of_getElem? (i := 2) rfl))))))))) (fun _ h => h) rfl dX11_unitsTogether_54 ?_
            refine z_ci hW hS hA (va_runV (As := [.ref (ad 1), .int y2, .int a1, .int (I4 0 0)]) (rest := [.int y3]) ⟨hx, hb, hml, hown, hts⟩ (sx_X6_unitsOf_x l G ad c I4 (by show 0 ≤ (I4 21 2).toInt ∧ (I4 21 2).toInt ≤ 12; exact lp1O) ⟨(by show 0 ≤ (I4 1 5).toInt ∧ (I4 1 5).toInt ≤ 30; exact lp1H.1), (by show 0 ≤ (I4 1 11).toInt ∧ (I4 1 11).toInt ≤ 200; exact lp1H.2)⟩ SS y2 a1 (I4 0 0) hc hWu (by omega) (by omega) _) (cwV 4 hts gX11_unitsTogether_X6_unitsOf rfl rfl rfl (by decide +kernel) ⟨Nat.le_of_ble_eq_true rfl, Nat.le_of_ble_eq_true rfl⟩) (z_preV (i := 21) hK hW rfl rfl) rfl rfl hl.1 rfl (lv_room (Nat.le_of_ble_eq_true rfl)) dX11_unitsTogether_57 ⟨Nat.le_of_ble_eq_true rfl, Nat.le_of_ble_eq_true rfl⟩) (fun r u1 H locs hp hW hS => ?_)
            obtain ⟨I38, e9, hI38O, hI38H, fI38, hp⟩ := hp
            rw [e9] at hW
            have f39 := z_fr_sub (L := L_X11_unitsTogether_k) lp1fr fI38 (by decide)
            have k40 : (I38 1 5).toInt = (I4 1 5).toInt := by rw [fI38 1 5 (by decide)]
            have k41 : 0 ≤ (I38 0 0).toInt ∧ (I38 0 0).toInt ≤ 719 := by rw [fI38 0 0 (by decide)]; exact (by show 0 ≤ (I4 0 0).toInt ∧ (I4 0 0).toInt ≤ 719; exact lp1B.1)
            have k42 : 0 ≤ (I38 0 8).toInt ∧ (I38 0 8).toInt ≤ 10 := by rw [fI38 0 8 (by decide)]; exact (by show 0 ≤ (I4 0 8).toInt ∧ (I4 0 8).toInt ≤ 10; exact lp1B.2)
            refine lv_topi (fun x43 ex43 => ?_)
            rw [← ex43] at hp
            have hb45 := z_UX_b hp
            have hU44 : x43.toInt = zd_U c I SS a1.toInt y2.toNatClampNeg := zd_U_e (by omega) (zv_UX_c (zv_fr2 lp1fr (by decide)) (fun j => ⟨lp1fr 7 j (z_wr_c (by decide)), lp1fr 8 j (z_wr_c (by decide)), lp1fr 9 j (z_wr_c (by decide)), lp1fr 10 j (z_wr_c (by decide)), lp1fr 11 j (z_wr_c (by decide))⟩) (lp1fr 1 11 (by decide)) (fun j => ⟨lp1fr 2 j (z_wr_c (by decide)), lp1fr 3 j (z_wr_c (by decide))⟩) (by have q9 := hp; rw [show (I4 0 0).toInt = (I 0 0).toInt by rw [lp1fr 0 0 (by decide)]] at q9; exact q9))
            refine lv_iadd hx hb dX11_unitsTogether_60 ?_
            refine lv_topi (fun x46 ex46 => ?_)
            have tx46 : x46.toInt = y3.toInt + x43.toInt := z_tadd ex46 rfl rfl (by omega) (by omega)
            refine lv_istore_n (lv' := [(3, .int x46), (4, .int y2), (0, .ref (ad 0)), (1, .int a1), (2, .int a2)]) hx hb dX11_unitsTogether_61 rfl hl (by decide) rfl (fun ls hl => ?_)
            obtain ⟨x47, ex47⟩ : ∃ y : Int32, y = y2 + 1 := ⟨_, rfl⟩
            have tx47 : x47.toInt = y2.toInt + 1 := z_tadd ex47 rfl z_l1 (by omega) (by omega)
            refine lv_iinc (v := x47) (lv' := [(4, .int x47), (3, .int x46), (0, .ref (ad 0)), (1, .int a1), (2, .int a2)]) hx hb dX11_unitsTogether_62 hl (k := 1) rfl (by rw [ex47]; rfl) (by decide) rfl (fun ls hl => ?_)
            refine lv_goto (tgt := 5) hx hb dX11_unitsTogether_65 (by decide) ?_
            exact lp1ih x47 x46 I38  _ _ _ (by omega) (by omega) (by omega) (by omega) ⟨(by show 0 ≤ (I38 1 5).toInt ∧ (I38 1 5).toInt ≤ 30; exact hI38H.1), (by show 0 ≤ (I38 1 11).toInt ∧ (I38 1 11).toInt ≤ 200; exact hI38H.2)⟩ (by show 0 ≤ (I38 21 2).toInt ∧ (I38 21 2).toInt ≤ 12; exact hI38O) ⟨(by show 0 ≤ (I38 0 0).toInt ∧ (I38 0 0).toInt ≤ 719; exact k41), (by show 0 ≤ (I38 0 8).toInt ∧ (I38 0 8).toInt ≤ 10; exact k42)⟩ ⟨by rw [show x47.toNatClampNeg = y2.toNatClampNeg + 1 from z_cln (by omega) (by omega), zd_S_s, zk_w_1 (fun q => by have q1 := q.1; have q2 := q.2; omega), ← lp1S.1, ← hU44]; omega, by omega, by omega⟩ f39 hW hS (lv_sub hl [0, 1, 2, 3, 4] rfl)
  exact lp1 4294967296 (0) (0) I  _ _ _ (z_m0u _) (by rw [z_l0]; omega) (by rw [z_l0]; omega) (by rw [z_l0]; omega) ⟨(by show 0 ≤ (I 1 5).toInt ∧ (I 1 5).toInt ≤ 30; exact hH.1), (by show 0 ≤ (I 1 11).toInt ∧ (I 1 11).toInt ≤ 200; exact hH.2)⟩ (by show 0 ≤ (I 21 2).toInt ∧ (I 21 2).toInt ≤ 12; exact hO) ⟨(by show 0 ≤ (I 0 0).toInt ∧ (I 0 0).toInt ≤ 719; exact hB.1), (by show 0 ≤ (I 0 8).toInt ∧ (I 0 8).toInt ≤ 10; exact hB.2)⟩ ⟨by rw [show (0 : Int32).toNatClampNeg = 0 by decide]; rfl, by have q0 := z_l0; omega, by have q0 := z_l0; have q9 := hH.1; omega⟩ z_fr_0 hW hS (lv_sub hl [0, 1, 2, 3, 4] rfl)
noncomputable def L_X11_foretold_k : z_L := [(24, 999), (25, 999)]
set_option maxHeartbeats 8000000 in
set_option maxRecDepth 100000 in
theorem sx_X11_foretold_k (l : Launch) (G : z_G) (ad : Nat → Nat) (c : z_C) (I : z_I) (hH : z_iH I) (hO : z_iO I) (hB : z_iB I) (hL : z_iL I) (SS : Nat → List zp_T) (a1 : Int32) (a2 : Int32) (hc : z_okc c) (h10 : c.1 ≤ 10) (hWu : zv_W c I SS) (hab : ∀ q, q < c.2.1 → 0 ≤ zi_ax c I 0 q ∧ zi_ax c I 0 q ≤ 999999) (hPo : ∀ j : Nat, (j : Int) < (I 41 10).toInt → 0 ≤ (I 42 j).toInt ∧ (I 42 j).toInt ≤ 50) : z_MS l yX11_foretold wsX11_foretold { frames := 7, cells := 0, slots := 0, locals := 184 } [.ref (ad 0), .int a1, .int a2] G (shC c, ad, I, JX, PC c ad) (fun r u1 => ∃ I1 : z_I, u1 = (shC c, ad, I1, JX, PC c ad) ∧ z_iH I1 ∧ z_iO I1 ∧ z_iB I1 ∧ z_iL I1 ∧ z_fr L_X11_foretold_k I1 I ∧ ((((1 ≤ a1.toInt ∧ a1.toInt ≤ 12) ∧ (I 0 0).toInt / 30 + a1.toInt ≤ 24) ∧ r.toInt = zk_r (zd_S (zk_p I) (I 41 10).toNatClampNeg) (zd_S (zk_P c I SS a2.toInt ((I 0 0).toInt / 30)) a1.toInt.toNat)) ∨ (¬ ((1 ≤ a1.toInt ∧ a1.toInt ≤ 12) ∧ (I 0 0).toInt / 30 + a1.toInt ≤ 24) ∧ r.toInt = -2000000000))) 0 0 := by
  intro sz
  refine z_headS (cc := cX11_foretold) (maxL := 8) (ret := (some .int)) (by decide) rfl (Nat.le_of_ble_eq_true rfl) ?_
  intro p e s m below meth c0 ls hIn hK hsz hW hl hSt
  obtain ⟨hx, hb, hr, hml, hown, hts, hlocks, hname⟩ := hIn
  subst hsz
  have hown : s.vm.findClass RX11 = some m.cls := hown
  have hA : ∀ q : Nat, s.heap.size ≤ q → z_A (shC c, ad, I, JX, PC c ad) s.heap.size q := fun q h => Or.inr h
  generalize hAe : z_A (shC c, ad, I, JX, PC c ad) s.heap.size = A at *
  have hS : va_S A s.heap s.heap [] := va_S.rf
  have hl : lv_has ls 8 [(0, .ref (ad 0)), (1, .int a1), (2, .int a2)] := hl
  refine lv_aload_n hx hb dX11_foretold_0 rfl (lv_at hl 0 rfl) ?_
  have r1 : 0 ≤ (I 0 0).toInt ∧ (I 0 0).toInt ≤ 719 := hB.1
  refine z_get (T := TX11) (N := 13) (ci := 11) (i := 0) (v := .int (I 0 0)) hx hb hts zj_X11_foretold_X11 hown hK hW rfl rfl 0 (by decide) (hts (.fieldLink RX11 85 "PetrolBoard" "today" "I") (me_s (me_l (me_l (me_l (me_l (me_l (me_l (me_l (List.mem_of_getElem? (i := 0) rfl)))))))))) (fun _ h => h) rfl dX11_foretold_1 ?_
  refine lv_bipush (v := 30) hx hb dX11_foretold_4 (by decide) ?_
  refine lv_idiv hx hb dX11_foretold_6 (by decide) ?_
  refine lv_topi (fun x2 ex2 => ?_)
  have tx2 := z_tdiv ex2 rfl z_l30 (by decide)
  refine lv_istore_n (lv' := [(3, .int x2), (0, .ref (ad 0)), (1, .int a1), (2, .int a2)]) hx hb dX11_foretold_7 rfl hl (by decide) rfl (fun ls hl => ?_)
  refine lv_iload_n hx hb dX11_foretold_8 rfl (lv_at hl 2 rfl) ?_
  refine lv_iconst (v := 1) hx hb dX11_foretold_9 (by decide) ?_
  refine lv_bipush (v := 12) hx hb dX11_foretold_10 (by decide) ?_
  refine z_ci hW hS hA (va_runS (As := [.int a1, .int 1, .int 12]) (rest := []) ⟨hx, hb, hml, hown, hts⟩ (sx_X11_within_e l G ad c I  a1 1 12 _) (va_cwS 3 hts gX11_foretold_X11_within rfl rfl rfl (by decide +kernel) ⟨Nat.le_of_ble_eq_true rfl, Nat.le_of_ble_eq_true rfl⟩) (z_preS hK hW) rfl rfl hl.1 rfl (lv_room (Nat.le_of_ble_eq_true rfl)) dX11_foretold_12 ⟨Nat.le_of_ble_eq_true rfl, Nat.le_of_ble_eq_true rfl⟩) (fun r u1 H locs hp hW hS => ?_)
  obtain ⟨e9, hp⟩ := hp
  rw [e9] at hW
  rcases hp with ⟨rfl, h3⟩ | ⟨rfl, h3⟩
  · have h4 := h3
    have z5 := z_l1
    have z6 := z_l12
    refine lv_if_eq (tgt := 26) hx hb dX11_foretold_15 (by decide) (fun c7 => absurd c7 (by decide)) (fun c7 => ?_)
    refine lv_iload_n hx hb dX11_foretold_18 rfl (lv_at hl 0 rfl) ?_
    refine lv_iload_n hx hb dX11_foretold_19 rfl (lv_at hl 2 rfl) ?_
    refine lv_iadd hx hb dX11_foretold_20 ?_
    refine lv_topi (fun x8 ex8 => ?_)
    have tx8 : x8.toInt = x2.toInt + a1.toInt := z_tadd ex8 rfl rfl (by omega) (by omega)
    refine lv_bipush (v := 24) hx hb dX11_foretold_21 (by decide) ?_
    refine lv_icmp_le (tgt := 29) hx hb dX11_foretold_23 (by decide) (fun c9 => ?_) (fun c9 => ?_)
    · have g10 := z_f_le rfl z_l24 c9
      refine lv_lconst (v := 0) hx hb dX11_foretold_29 (by decide) ?_
      refine lv_lstore (lv' := [(4, .long 0), (3, .int x2), (0, .ref (ad 0)), (1, .int a1), (2, .int a2)]) hx hb dX11_foretold_30 hl (by decide) rfl (fun ls hl => ?_)
      refine lv_iload_n hx hb dX11_foretold_32 rfl (lv_at hl 1 rfl) ?_
      refine lv_istore (lv' := [(6, .int x2), (4, .long 0), (3, .int x2), (0, .ref (ad 0)), (1, .int a1), (2, .int a2)]) hx hb dX11_foretold_33 hl (by decide) rfl (fun ls hl => ?_)
      have lp11 : ∀ (f : Nat) (y12 : Int32) (w13 : Int64) (I14 : z_I) (H : Heap) (locs : List Loc) (ls : Array Slot), (2147483647 < y12.toInt + (f : Int)) → (0 ≤ y12.toInt) → (y12.toInt ≤ 24) → (z_iH I14) → (z_iO I14) → (z_iB I14) → (z_iL I14) → (x2.toInt ≤ y12.toInt) → (w13.toInt = zd_S (zk_P c I SS a2.toInt x2.toInt) (y12.toInt - x2.toInt).toNat ∧ 0 ≤ w13.toInt ∧ w13.toInt ≤ 3000000000 * (y12.toInt - x2.toInt) ∧ x2.toInt ≤ y12.toInt ∧ y12.toInt ≤ x2.toInt + a1.toInt) → (z_fr L_X11_foretold_k I14 I) → z_W G A (shC c, ad, I14, JX, PC c ad) H → va_S A s.heap H locs → lv_has ls 8 [(6, .int y12), (4, .long w13), (3, .int x2), (0, .ref (ad 0)), (1, .int a1), (2, .int a2)] → W p l e (headSpec wsX11_foretold { frames := 7, cells := 0, slots := 0, locals := 184 }).room s m ([.ref (ad 0), .int a1, .int a2] : List Value).toArray below meth c0 H locs 0 0 (MQ below (va_Qi (fun (r : Int32) (u1 : z_U) => ∃ I1 : z_I, u1 = (shC c, ad, I1, JX, PC c ad) ∧ z_iH I1 ∧ z_iO I1 ∧ z_iB I1 ∧ z_iL I1 ∧ z_fr L_X11_foretold_k I1 I ∧ ((((1 ≤ a1.toInt ∧ a1.toInt ≤ 12) ∧ (I 0 0).toInt / 30 + a1.toInt ≤ 24) ∧ r.toInt = zk_r (zd_S (zk_p I) (I 41 10).toNatClampNeg) (zd_S (zk_P c I SS a2.toInt ((I 0 0).toInt / 30)) a1.toInt.toNat)) ∨ (¬ ((1 ≤ a1.toInt ∧ a1.toInt ≤ 12) ∧ (I 0 0).toInt / 30 + a1.toInt ≤ 24) ∧ r.toInt = -2000000000))) (z_B G A) A) ([.ref (ad 0), .int a1, .int a2] : List Value).toArray s 0 0 A) (F0 m 35 ls []) := by
        intro f
        induction f with
        | zero => intro y12 w13 I14  H locs ls lp11m lp11l6 lp11u6 lp11H lp11O lp11B lp11L lp11z lp11T lp11fr hW hS hl; exact absurd lp11m (by have := Int32.toInt_lt y12; have := Int32.le_toInt y12; omega)
        | succ f lp11ih =>
          intro y12 w13 I14  H locs ls lp11m lp11l6 lp11u6 lp11H lp11O lp11B lp11L lp11z lp11T lp11fr hW hS hl
          refine lv_iload hx hb dX11_foretold_35 (lv_at hl 0 rfl) ?_
          refine lv_iload_n hx hb dX11_foretold_37 rfl (lv_at hl 2 rfl) ?_
          refine lv_iload_n hx hb dX11_foretold_38 rfl (lv_at hl 4 rfl) ?_
          refine lv_iadd hx hb dX11_foretold_39 ?_
          refine lv_topi (fun x15 ex15 => ?_)
          have tx15 : x15.toInt = x2.toInt + a1.toInt := z_tadd ex15 rfl rfl (by omega) (by omega)
          refine lv_icmp_ge (tgt := 78) hx hb dX11_foretold_40 (by decide) (fun c16 => ?_) (fun c16 => ?_)
          · have g17 := z_f_ge rfl rfl c16
            refine lv_ldc2 (v := 100) hx hb hown (hts (.constantLong RX11 392 (100)) (me_s (me_l (me_l (me_l (me_l (me_l (me_l (me_l (List.mem_of_getElem? (i := 3) rfl)))))))))) dX11_foretold_78 ?_
            refine lv_aload_n hx hb dX11_foretold_81 rfl (lv_at hl 3 rfl) ?_
            refine z_get (T := TX11) (N := 13) (ci := 11) (i := 0) (v := .ref (ad 41)) hx hb hts zj_X11_foretold_X11 hown hK hW rfl rfl 10 (by decide) (hts (.fieldLink RX11 61 "PetrolBoard" "loads" "LPetrolBoard$Loads;") (me_s (me_l (me_l (me_l (me_l (me_l (me_l (me_l (List.mem_of_getElem? (i := 4) rfl)))))))))) (fun _ h => h) rfl dX11_foretold_82 ?_
            refine z_ci hW hS hA (va_runV (As := []) (rest := [.long 100]) ⟨hx, hb, hml, hown, hts⟩ (sx_X4_inPorts_k l G ad c I14 (by show 0 ≤ (I14 41 10).toInt ∧ (I14 41 10).toInt ≤ 4; exact lp11L) (fun j hj => by rw [lp11fr 42 j (z_wr_c (by decide))]; exact hPo j (by rw [lp11fr 41 10 (by decide)] at hj; exact hj)) _) (cwV 0 hts gX11_foretold_X4_inPorts rfl rfl rfl (by decide +kernel) ⟨Nat.le_of_ble_eq_true rfl, Nat.le_of_ble_eq_true rfl⟩) (z_preV (i := 41) hK hW rfl rfl) rfl rfl hl.1 rfl (lv_room (Nat.le_of_ble_eq_true rfl)) dX11_foretold_85 ⟨Nat.le_of_ble_eq_true rfl, Nat.le_of_ble_eq_true rfl⟩) (fun r u1 H locs hp hW hS => ?_)
            obtain ⟨e9, hp⟩ := hp
            rw [e9] at hW
            refine lv_topi (fun x18 ex18 => ?_)
            rw [← ex18] at hp
            have hP19 : x18.toInt = zd_S (zk_p I) (I 41 10).toNatClampNeg := hp.1.trans (zk_p_c (fun j => lp11fr 42 j (z_wr_c (by decide))) (lp11fr 41 10 (by decide)))
            have hb20 := hp.2
            refine lv_i2l (v := x18.toInt64) hx hb dX11_foretold_88 rfl ?_
            refine lv_topl (fun w21 ew21 => ?_)
            have tw21 : w21.toInt = x18.toInt := z_ti2l ew21 rfl
            refine lv_lmul hx hb dX11_foretold_89 ?_
            refine lv_topl (fun w22 ew22 => ?_)
            have tw22 : w22.toInt = 100 * x18.toInt := z_tlmul ew22 (show (100 : Int64).toInt = 100 by decide) tw21 (by omega) (by omega)
            have b23 := z_mulb (n := 100) (m := x18.toInt) (by omega) (by omega)
            refine lv_lload hx hb dX11_foretold_90 (lv_at hl 1 rfl) ?_
            refine lv_ldc2 (v := 9) hx hb hown (hts (.constantLong RX11 398 (9)) (me_s (me_l (me_l (me_l (me_l (me_l (me_l (me_l (List.mem_of_getElem? (i := 5) rfl)))))))))) dX11_foretold_92 ?_
            refine lv_ladd hx hb dX11_foretold_95 ?_
            refine lv_topl (fun w24 ew24 => ?_)
            have tw24 : w24.toInt = w13.toInt + 9 := z_tladd ew24 rfl (show (9 : Int64).toInt = 9 by decide) (by omega) (by omega)
            refine lv_ldc2 (v := 10) hx hb hown (hts (.constantLong RX11 400 (10)) (me_s (me_l (me_l (me_l (me_l (me_l (me_l (me_l (List.mem_of_getElem? (i := 6) rfl)))))))))) dX11_foretold_96 ?_
            refine lv_ldiv hx hb dX11_foretold_99 (by decide) ?_
            refine lv_topl (fun w25 ew25 => ?_)
            have tw25 : w25.toInt = (w13.toInt + 9) / 10 := z_tldivp ew25 tw24 (show (10 : Int64).toInt = 10 by decide) (by omega)
            refine lv_lsub hx hb dX11_foretold_100 ?_
            refine lv_topl (fun w26 ew26 => ?_)
            have tw26 : w26.toInt = (100 * x18.toInt) - ((w13.toInt + 9) / 10) := z_tlsub ew26 tw22 tw25 (by omega) (by omega)
            refine lv_lstore (lv' := [(6, .long w26), (4, .long w13), (3, .int x2), (0, .ref (ad 0)), (1, .int a1), (2, .int a2)]) hx hb dX11_foretold_101 hl (by decide) rfl (fun ls hl => ?_)
            refine lv_ldc2 (v := (-1999999999)) hx hb hown (hts (.constantLong RX11 402 (-1999999999)) (me_s (me_l (me_l (me_l (me_l (me_l (me_l (me_l (List.mem_of_getElem? (i := 7) rfl)))))))))) dX11_foretold_103 ?_
            refine lv_lload hx hb dX11_foretold_106 (lv_at hl 0 rfl) ?_
            refine va_mmax_long (x := (-1999999999)) (y := w26) hx hb (hml.trans hl.1.symm) hown (hts (.methodLink RX11 404 Lib.MathLoose.max_long.x) (me_s (me_l (me_l (me_l (me_l (me_l (me_l (me_l (List.mem_of_getElem? (i := 8) rfl)))))))))) (hts (.static Lib.MathLoose.max_long.x) (me_s (me_l (me_l (me_l (me_l (me_l (me_l (me_l (List.mem_of_getElem? (i := 9) rfl)))))))))) (hts (.initialized "java/lang/Math") (me_s (me_l (me_l (me_l (me_l (me_l (me_l (me_l (List.mem_of_getElem? (i := 10) rfl)))))))))) (hts (.code Lib.MathLoose.max_long.x Lib.MathLoose.max_long.code 4 (some .long)) (me_s (me_l (me_l (me_l (me_l (me_l (me_l (me_l (List.mem_of_getElem? (i := 11) rfl)))))))))) (Nat.le_of_ble_eq_true rfl) (Nat.le_of_ble_eq_true rfl) (Nat.le_of_ble_eq_true rfl) (Nat.le_of_ble_eq_true rfl) dX11_foretold_108 ?_
            refine lv_topl (fun w27 ew27 => ?_)
            have tw27 := z_tlmax ew27 (show ((-1999999999) : Int64).toInt = (-1999999999) by decide) tw26
            refine lv_l2i (v := w27.toInt32) hx hb dX11_foretold_111 rfl ?_
            refine lv_topi (fun x28 ex28 => ?_)
            have tx28 : x28.toInt = w27.toInt := z_tl2i ex28 rfl (by omega)
            exact z_iret hx hb hr hK hS (Nat.le_of_ble_eq_true rfl) (Nat.le_of_ble_eq_true rfl) hlocks dX11_foretold_112 (shC c, ad, I14, JX, PC c ad) hW ⟨I14, rfl, ⟨(by show 0 ≤ (I14 1 5).toInt ∧ (I14 1 5).toInt ≤ 30; exact lp11H.1), (by show 0 ≤ (I14 1 11).toInt ∧ (I14 1 11).toInt ≤ 200; exact lp11H.2)⟩, (by show 0 ≤ (I14 21 2).toInt ∧ (I14 21 2).toInt ≤ 12; exact lp11O), ⟨(by show 0 ≤ (I14 0 0).toInt ∧ (I14 0 0).toInt ≤ 719; exact lp11B.1), (by show 0 ≤ (I14 0 8).toInt ∧ (I14 0 8).toInt ≤ 10; exact lp11B.2)⟩, (by show 0 ≤ (I14 41 10).toInt ∧ (I14 41 10).toInt ≤ 4; exact lp11L), lp11fr, (by have e9 := lp11T.1; rw [show (y12.toInt - x2.toInt).toNat = a1.toInt.toNat by omega, show x2.toInt = (I 0 0).toInt / 30 by omega] at e9; have p9 := hP19; exact Or.inl ⟨by omega, by unfold zk_r; split <;> omega⟩)⟩
          · have g29 := z_f_nge rfl rfl c16
            refine lv_lload hx hb dX11_foretold_43 (lv_at hl 1 rfl) ?_
            refine lv_aload_n hx hb dX11_foretold_45 rfl (lv_at hl 3 rfl) ?_
            refine z_get (T := TX11) (N := 13) (ci := 11) (i := 0) (v := .ref (ad 21)) hx hb hts zj_X11_foretold_X11 hown hK hW rfl rfl 4 (by decide) (hts (.fieldLink RX11 30 "PetrolBoard" "orderBook" "LPetrolBoard$OrderBook;") (me_s (me_l (me_l (me_l (me_l (me_l (me_l (me_l (List.mem_of_getElem? (i := 2) rfl)))))))))) (fun _ h => h) rfl dX11_foretold_46 ?_
            refine lv_iconst (v := 0) hx hb dX11_foretold_49 (by decide) ?_
            refine lv_iload hx hb dX11_foretold_50 (lv_at hl 0 rfl) ?_
            refine lv_aload_n hx hb dX11_foretold_52 rfl (lv_at hl 3 rfl) ?_
            have r30 : 0 ≤ (I14 0 0).toInt ∧ (I14 0 0).toInt ≤ 719 := lp11B.1
            refine z_get (T := TX11) (N := 13) (ci := 11) (i := 0) (v := .int (I14 0 0)) hx hb hts zj_X11_foretold_X11 hown hK hW rfl rfl 0 (by decide) (hts (.fieldLink RX11 85 "PetrolBoard" "today" "I") (me_s (me_l (me_l (me_l (me_l (me_l (me_l (me_l (List.mem_of_getElem? (i := 0) rfl)))))))))) (fun _ h => h) rfl dX11_foretold_53 ?_
            refine z_ci hW hS hA (va_runV (As := [.int 0, .int y12, .int (I14 0 0)]) (rest := [.long w13]) ⟨hx, hb, hml, hown, hts⟩ (sx_X6_amount_x l G ad c I14 (by show 0 ≤ (I14 21 2).toInt ∧ (I14 21 2).toInt ≤ 12; exact lp11O) 0 y12 (I14 0 0) hc (by rw [lp11fr 21 2 (by decide)]; exact hWu.1) (fun j hj => by rw [(zv_fr2 lp11fr (by decide)) (200 + 5 * j) 0 (by omega)]; exact hWu.2.1 j hj) (by decide) _) (cwV 3 hts gX11_foretold_X6_amount rfl rfl rfl (by decide +kernel) ⟨Nat.le_of_ble_eq_true rfl, Nat.le_of_ble_eq_true rfl⟩) (z_preVS (i := 21) hK hW hS hA hSt rfl rfl) rfl rfl hl.1 rfl (lv_room (Nat.le_of_ble_eq_true rfl)) dX11_foretold_56 ⟨Nat.le_of_ble_eq_true rfl, Nat.le_of_ble_eq_true rfl⟩) (fun r u1 H locs hp hW hS => ?_)
            obtain ⟨e9, hp⟩ := hp
            rw [e9] at hW
            refine lv_topi (fun x31 ex31 => ?_)
            rw [← ex31, show (0 : Int32).toInt = 0 by decide, show (I14 0 0).toInt = (I 0 0).toInt by rw [lp11fr 0 0 (by decide)]] at hp
            have hb33 := zk_A_b hab (zv_fr2 lp11fr (by decide)) hp
            have hM32 := zk_A_e (zv_fr2 lp11fr (by decide)) hp
            refine lv_i2l (v := x31.toInt64) hx hb dX11_foretold_59 rfl ?_
            refine lv_topl (fun w34 ew34 => ?_)
            have tw34 : w34.toInt = x31.toInt := z_ti2l ew34 rfl
            refine lv_aload_n hx hb dX11_foretold_60 rfl (lv_at hl 3 rfl) ?_
            refine lv_iload hx hb dX11_foretold_61 (lv_at hl 0 rfl) ?_
            refine lv_iload_n hx hb dX11_foretold_63 rfl (lv_at hl 5 rfl) ?_
            refine z_ci hW hS hA (va_runV (As := [.int y12, .int a2]) (rest := [.long w34, .long w13]) ⟨hx, hb, hml, hown, hts⟩ (sx_X11_unitsTogether_k l G ad c I14 ⟨(by show 0 ≤ (I14 1 5).toInt ∧ (I14 1 5).toInt ≤ 30; exact lp11H.1), (by show 0 ≤ (I14 1 11).toInt ∧ (I14 1 11).toInt ≤ 200; exact lp11H.2)⟩ (by show 0 ≤ (I14 21 2).toInt ∧ (I14 21 2).toInt ≤ 12; exact lp11O) ⟨(by show 0 ≤ (I14 0 0).toInt ∧ (I14 0 0).toInt ≤ 719; exact lp11B.1), (by show 0 ≤ (I14 0 8).toInt ∧ (I14 0 8).toInt ≤ 10; exact lp11B.2)⟩ SS y12 a2 hc h10 (zd_X_c hWu (lp11fr 21 2 (by decide)) (zv_fr2 lp11fr (by decide)) (fun j => ⟨lp11fr 7 j (z_wr_c (by decide)), lp11fr 8 j (z_wr_c (by decide)), lp11fr 9 j (z_wr_c (by decide)), lp11fr 10 j (z_wr_c (by decide)), lp11fr 11 j (z_wr_c (by decide))⟩) (lp11fr 1 11 (by decide)) (lp11fr 1 5 (by decide)) (fun j => ⟨lp11fr 2 j (z_wr_c (by decide)), lp11fr 3 j (z_wr_c (by decide))⟩)) (by omega) _) (cwV 2 hts gX11_foretold_X11_unitsTogether rfl rfl rfl (by decide +kernel) ⟨Nat.le_of_ble_eq_true rfl, Nat.le_of_ble_eq_true rfl⟩) (z_preV (i := 0) hK hW rfl rfl) rfl rfl hl.1 rfl (lv_room (Nat.le_of_ble_eq_true rfl)) dX11_foretold_64 ⟨Nat.le_of_ble_eq_true rfl, Nat.le_of_ble_eq_true rfl⟩) (fun r u1 H locs hp hW hS => ?_)
            obtain ⟨I35, e9, hI35H, hI35O, hI35B, fI35, hp⟩ := hp
            rw [e9] at hW
            have f36 := z_fr_sub (L := L_X11_foretold_k) lp11fr fI35 (by decide)
            have k37 : 0 ≤ (I35 41 10).toInt ∧ (I35 41 10).toInt ≤ 4 := by rw [fI35 41 10 (by decide)]; exact (by show 0 ≤ (I14 41 10).toInt ∧ (I14 41 10).toInt ≤ 4; exact lp11L)
            refine lv_topi (fun x38 ex38 => ?_)
            rw [← ex38] at hp
            have hS39 : x38.toInt = zk_S c I SS a2.toInt y12.toInt := hp.1.trans (zk_S_c (zv_fr2 lp11fr (by decide)) (fun j => ⟨lp11fr 7 j (z_wr_c (by decide)), lp11fr 8 j (z_wr_c (by decide)), lp11fr 9 j (z_wr_c (by decide)), lp11fr 10 j (z_wr_c (by decide)), lp11fr 11 j (z_wr_c (by decide))⟩) (lp11fr 1 11 (by decide)) (fun j => ⟨lp11fr 2 j (z_wr_c (by decide)), lp11fr 3 j (z_wr_c (by decide))⟩) (lp11fr 0 0 (by decide)) (lp11fr 1 5 (by decide)))
            have hb40 := hp.2
            refine lv_i2l (v := x38.toInt64) hx hb dX11_foretold_67 rfl ?_
            refine lv_topl (fun w41 ew41 => ?_)
            have tw41 : w41.toInt = x38.toInt := z_ti2l ew41 rfl
            refine lv_lmul hx hb dX11_foretold_68 ?_
            refine lv_topl (fun w42 ew42 => ?_)
            have tw42 : w42.toInt = x31.toInt * x38.toInt := z_tlmul ew42 tw34 tw41 (by omega) (by omega)
            have b43 := z_mulb (n := x31.toInt) (m := x38.toInt) (by omega) (by omega)
            refine lv_ladd hx hb dX11_foretold_69 ?_
            refine lv_topl (fun w44 ew44 => ?_)
            have tw44 : w44.toInt = w13.toInt + (x31.toInt * x38.toInt) := z_tladd ew44 rfl tw42 (by omega) (by omega)
            refine lv_lstore (lv' := [(4, .long w44), (6, .int y12), (3, .int x2), (0, .ref (ad 0)), (1, .int a1), (2, .int a2)]) hx hb dX11_foretold_70 hl (by decide) rfl (fun ls hl => ?_)
            obtain ⟨x45, ex45⟩ : ∃ y : Int32, y = y12 + 1 := ⟨_, rfl⟩
            have tx45 : x45.toInt = y12.toInt + 1 := z_tadd ex45 rfl z_l1 (by omega) (by omega)
            refine lv_iinc (v := x45) (lv' := [(6, .int x45), (4, .long w44), (3, .int x2), (0, .ref (ad 0)), (1, .int a1), (2, .int a2)]) hx hb dX11_foretold_72 hl (k := 1) rfl (by rw [ex45]; rfl) (by decide) rfl (fun ls hl => ?_)
            refine lv_goto (tgt := 35) hx hb dX11_foretold_75 (by decide) ?_
            exact lp11ih x45 w44 I35  _ _ _ (by omega) (by omega) (by omega) ⟨(by show 0 ≤ (I35 1 5).toInt ∧ (I35 1 5).toInt ≤ 30; exact hI35H.1), (by show 0 ≤ (I35 1 11).toInt ∧ (I35 1 11).toInt ≤ 200; exact hI35H.2)⟩ (by show 0 ≤ (I35 21 2).toInt ∧ (I35 21 2).toInt ≤ 12; exact hI35O) ⟨(by show 0 ≤ (I35 0 0).toInt ∧ (I35 0 0).toInt ≤ 719; exact hI35B.1), (by show 0 ≤ (I35 0 8).toInt ∧ (I35 0 8).toInt ≤ 10; exact hI35B.2)⟩ (by show 0 ≤ (I35 41 10).toInt ∧ (I35 41 10).toInt ≤ 4; exact k37) (by omega) (by have m9 := zk_mb hb33 hb40; have m8 : (999999 : Int) * 2970 ≤ 3000000000 := (by decide); exact ⟨by rw [show (x45.toInt - x2.toInt).toNat = (y12.toInt - x2.toInt).toNat + 1 by omega, zd_S_s, ← lp11T.1, zk_P_e (m := y12.toInt) (by omega) hM32 hS39]; omega, by omega, by omega, by omega, by omega⟩) f36 hW hS (lv_sub hl [0, 1, 2, 3, 4, 5] rfl)
      exact lp11 4294967296 x2 0 I  _ _ _ (z_m0u _) (by omega) (by omega) ⟨(by show 0 ≤ (I 1 5).toInt ∧ (I 1 5).toInt ≤ 30; exact hH.1), (by show 0 ≤ (I 1 11).toInt ∧ (I 1 11).toInt ≤ 200; exact hH.2)⟩ (by show 0 ≤ (I 21 2).toInt ∧ (I 21 2).toInt ≤ 12; exact hO) ⟨(by show 0 ≤ (I 0 0).toInt ∧ (I 0 0).toInt ≤ 719; exact hB.1), (by show 0 ≤ (I 0 8).toInt ∧ (I 0 8).toInt ≤ 10; exact hB.2)⟩ (by show 0 ≤ (I 41 10).toInt ∧ (I 41 10).toInt ≤ 4; exact hL) (by omega) (by have q0 : (0 : Int64).toInt = 0 := (by decide); exact ⟨by rw [show (x2.toInt - x2.toInt).toNat = 0 by omega]; exact q0, by omega, by omega, by omega, by omega⟩) z_fr_0 hW hS (lv_sub hl [0, 1, 2, 3, 4, 5] rfl)
    · have g46 := z_f_nle rfl z_l24 c9
      refine lv_ldc (v := (-2000000000)) hx hb hown (hts (.constant RX11 241 (-2000000000)) (me_s (me_l (me_l (me_l (me_l (me_l (me_l (me_l (List.mem_of_getElem? (i := 1) rfl)))))))))) dX11_foretold_26 ?_
      exact z_iret hx hb hr hK hS (Nat.le_of_ble_eq_true rfl) (Nat.le_of_ble_eq_true rfl) hlocks dX11_foretold_28 (shC c, ad, I, JX, PC c ad) hW ⟨I, rfl, ⟨(by show 0 ≤ (I 1 5).toInt ∧ (I 1 5).toInt ≤ 30; exact hH.1), (by show 0 ≤ (I 1 11).toInt ∧ (I 1 11).toInt ≤ 200; exact hH.2)⟩, (by show 0 ≤ (I 21 2).toInt ∧ (I 21 2).toInt ≤ 12; exact hO), ⟨(by show 0 ≤ (I 0 0).toInt ∧ (I 0 0).toInt ≤ 719; exact hB.1), (by show 0 ≤ (I 0 8).toInt ∧ (I 0 8).toInt ≤ 10; exact hB.2)⟩, (by show 0 ≤ (I 41 10).toInt ∧ (I 41 10).toInt ≤ 4; exact hL), z_fr_0, (Or.inr ⟨by omega, by decide⟩)⟩
  · have h47 := h3
    have z48 := z_l1
    have z49 := z_l12
    refine lv_if_eq (tgt := 26) hx hb dX11_foretold_15 (by decide) (fun c50 => ?_) (fun c50 => absurd (by decide) c50)
    refine lv_ldc (v := (-2000000000)) hx hb hown (hts (.constant RX11 241 (-2000000000)) (me_s (me_l (me_l (me_l (me_l (me_l (me_l (me_l (List.mem_of_getElem? (i := 1) rfl)))))))))) dX11_foretold_26 ?_
    exact z_iret hx hb hr hK hS (Nat.le_of_ble_eq_true rfl) (Nat.le_of_ble_eq_true rfl) hlocks dX11_foretold_28 (shC c, ad, I, JX, PC c ad) hW ⟨I, rfl, ⟨(by show 0 ≤ (I 1 5).toInt ∧ (I 1 5).toInt ≤ 30; exact hH.1), (by show 0 ≤ (I 1 11).toInt ∧ (I 1 11).toInt ≤ 200; exact hH.2)⟩, (by show 0 ≤ (I 21 2).toInt ∧ (I 21 2).toInt ≤ 12; exact hO), ⟨(by show 0 ≤ (I 0 0).toInt ∧ (I 0 0).toInt ≤ 719; exact hB.1), (by show 0 ≤ (I 0 8).toInt ∧ (I 0 8).toInt ≤ 10; exact hB.2)⟩, (by show 0 ≤ (I 41 10).toInt ∧ (I 41 10).toInt ≤ 4; exact hL), z_fr_0, (Or.inr ⟨by omega, by decide⟩)⟩
noncomputable def L_X12_foretold_k : z_L := [(24, 999), (30, 999)]
set_option maxHeartbeats 8000000 in
set_option maxRecDepth 100000 in
theorem sx_X12_foretold_k (l : Launch) (G : z_G) (ad : Nat → Nat) (I : z_I) (J : z_J) (hma : z_ima I) (hmb : z_imb I) (hmr : z_imr I) (hAtf : z_rg 11 0 288 I) (hAtm : z_rg 12 0 24 I) (hNd : z_Nd I) (hAsf : z_rg 19 0 6200 I) (hAst : z_rg 20 0 6200 I) (hAsc : z_rg 18 (-1) 6199 I) (hEx : z_Ex I) (FF : Nat → Nat) (RS : Nat → List zm_row) (a1 : Int32) (a2 : Int32) (hWm : zw_W I FF RS) (hab : ∀ q, q < (I 0 13).toNatClampNeg → 0 ≤ zi_am I 0 q ∧ zi_am I 0 q ≤ 999999) (hPo : ∀ j : Nat, (j : Int) < (I 0 75).toInt → 0 ≤ (I 52 j).toInt ∧ (I 52 j).toInt ≤ 50) : z_M l yX12_foretold wsX12_foretold { frames := 6, cells := 0, slots := 0, locals := 133 } [.ref (ad 0), .int a1, .int a2] G (shM, ad, I, J, PM ad) (fun r u1 => ∃ (I1 : z_I) (J1 : z_J), u1 = (shM, ad, I1, J1, PM ad) ∧ z_ima I1 ∧ z_imb I1 ∧ z_imr I1 ∧ z_rg 11 0 288 I1 ∧ z_rg 12 0 24 I1 ∧ z_Nd I1 ∧ z_rg 19 0 6200 I1 ∧ z_rg 20 0 6200 I1 ∧ z_rg 18 (-1) 6199 I1 ∧ z_Ex I1 ∧ z_fr L_X12_foretold_k I1 I ∧ ((((1 ≤ a1.toInt ∧ a1.toInt ≤ 12) ∧ (I 0 0).toInt / 30 + a1.toInt ≤ 24) ∧ r.toInt = zk_r (zd_S (zk_q I) (I 0 75).toNatClampNeg) (zd_S (zk_Q I RS a2.toInt ((I 0 0).toInt / 30)) a1.toInt.toNat)) ∨ (¬ ((1 ≤ a1.toInt ∧ a1.toInt ≤ 12) ∧ (I 0 0).toInt / 30 + a1.toInt ≤ 24) ∧ r.toInt = -2000000000))) 0 0 := by
  intro sz
  refine z_headQ (cc := cX12_foretold) (maxL := 9) (ret := (some .int)) (by decide) rfl (Nat.le_of_ble_eq_true rfl) ?_
  intro p e s m below meth c0 ls hIn hK hsz hW hl
  obtain ⟨hx, hb, hr, hml, hown, hts, hlocks, hname⟩ := hIn
  subst hsz
  have hown : s.vm.findClass RX12 = some m.cls := hown
  have hA : ∀ q : Nat, s.heap.size ≤ q → z_A (shM, ad, I, J, PM ad) s.heap.size q := fun q h => Or.inr h
  generalize hAe : z_A (shM, ad, I, J, PM ad) s.heap.size = A at *
  have hS : va_S A s.heap s.heap [] := va_S.rf
  have hl : lv_has ls 9 [(0, .ref (ad 0)), (1, .int a1), (2, .int a2)] := hl
  have nH9 := hma.2.1
  refine lv_aload_n hx hb dX12_foretold_0 rfl (lv_at hl 0 rfl) ?_
  have r1 : 0 ≤ (I 0 0).toInt ∧ (I 0 0).toInt ≤ 719 := hma.1
  refine z_get (T := TX12) (N := 96) (ci := 12) (i := 0) (v := .int (I 0 0)) hx hb hts zj_X12_foretold_X12 hown hK hW rfl rfl 0 (by decide) (hts (.fieldLink RX12 232 "PetrolBoardModel" "today" "I") (me_s (me_l (me_l (List.mem_of_getElem? (i := 0) rfl))))) (fun _ h => h) rfl dX12_foretold_1 ?_
  refine lv_bipush (v := 30) hx hb dX12_foretold_4 (by decide) ?_
  refine lv_idiv hx hb dX12_foretold_6 (by decide) ?_
  refine lv_topi (fun x2 ex2 => ?_)
  have tx2 := z_tdiv ex2 rfl z_l30 (by decide)
  refine lv_istore_n (lv' := [(3, .int x2), (0, .ref (ad 0)), (1, .int a1), (2, .int a2)]) hx hb dX12_foretold_7 rfl hl (by decide) rfl (fun ls hl => ?_)
  refine lv_iload_n hx hb dX12_foretold_8 rfl (lv_at hl 2 rfl) ?_
  refine lv_iconst (v := 1) hx hb dX12_foretold_9 (by decide) ?_
  refine lv_bipush (v := 12) hx hb dX12_foretold_10 (by decide) ?_
  refine z_ci hW hS hA (va_runS (As := [.int a1, .int 1, .int 12]) (rest := []) ⟨hx, hb, hml, hown, hts⟩ (sx_X12_within_e l G ad I J  a1 1 12 _) (va_cwS 3 hts gX12_foretold_X12_within rfl rfl rfl (by decide +kernel) ⟨Nat.le_of_ble_eq_true rfl, Nat.le_of_ble_eq_true rfl⟩) (z_preS hK hW) rfl rfl hl.1 rfl (lv_room (Nat.le_of_ble_eq_true rfl)) dX12_foretold_12 ⟨Nat.le_of_ble_eq_true rfl, Nat.le_of_ble_eq_true rfl⟩) (fun r u1 H locs hp hW hS => ?_)
  obtain ⟨e9, hp⟩ := hp
  rw [e9] at hW
  rcases hp with ⟨rfl, h3⟩ | ⟨rfl, h3⟩
  · have h4 := h3
    have z5 := z_l1
    have z6 := z_l12
    refine lv_if_eq (tgt := 28) hx hb dX12_foretold_15 (by decide) (fun c7 => absurd c7 (by decide)) (fun c7 => ?_)
    refine lv_iload_n hx hb dX12_foretold_18 rfl (lv_at hl 0 rfl) ?_
    refine lv_iload_n hx hb dX12_foretold_19 rfl (lv_at hl 2 rfl) ?_
    refine lv_iadd hx hb dX12_foretold_20 ?_
    refine lv_topi (fun x8 ex8 => ?_)
    have tx8 : x8.toInt = x2.toInt + a1.toInt := z_tadd ex8 rfl rfl (by omega) (by omega)
    refine lv_iconst (v := 1) hx hb dX12_foretold_21 (by decide) ?_
    refine lv_isub hx hb dX12_foretold_22 ?_
    refine lv_topi (fun x9 ex9 => ?_)
    have tx9 : x9.toInt = x8.toInt - 1 := z_tsub ex9 rfl z_l1 (by omega) (by omega)
    refine lv_bipush (v := 23) hx hb dX12_foretold_23 (by decide) ?_
    refine lv_icmp_le (tgt := 32) hx hb dX12_foretold_25 (by decide) (fun c10 => ?_) (fun c10 => ?_)
    · have g11 := z_f_le rfl z_l23 c10
      refine lv_lconst (v := 0) hx hb dX12_foretold_32 (by decide) ?_
      refine lv_lstore (lv' := [(4, .long 0), (3, .int x2), (0, .ref (ad 0)), (1, .int a1), (2, .int a2)]) hx hb dX12_foretold_33 hl (by decide) rfl (fun ls hl => ?_)
      refine lv_iload_n hx hb dX12_foretold_35 rfl (lv_at hl 1 rfl) ?_
      refine lv_istore (lv' := [(6, .int x2), (4, .long 0), (3, .int x2), (0, .ref (ad 0)), (1, .int a1), (2, .int a2)]) hx hb dX12_foretold_36 hl (by decide) rfl (fun ls hl => ?_)
      have lp12 : ∀ (f : Nat) (y13 : Int32) (w14 : Int64) (I15 : z_I) (J16 : z_J) (H : Heap) (locs : List Loc) (ls : Array Slot), (2147483647 < y13.toInt + (f : Int)) → (0 ≤ y13.toInt) → (y13.toInt ≤ 24) → (z_ima I15) → (z_imb I15) → (z_imr I15) → (z_rg 11 0 288 I15) → (z_rg 12 0 24 I15) → (z_Nd I15) → (z_rg 19 0 6200 I15) → (z_rg 20 0 6200 I15) → (z_rg 18 (-1) 6199 I15) → (z_Ex I15) → (x2.toInt ≤ y13.toInt) → (w14.toInt = zd_S (zk_Q I RS a2.toInt x2.toInt) (y13.toInt - x2.toInt).toNat ∧ 0 ≤ w14.toInt ∧ w14.toInt ≤ 3000000000 * (y13.toInt - x2.toInt) ∧ x2.toInt ≤ y13.toInt ∧ y13.toInt ≤ x2.toInt + a1.toInt) → (z_fr L_X12_foretold_k I15 I) → z_W G A (shM, ad, I15, J16, PM ad) H → va_S A s.heap H locs → lv_has ls 9 [(6, .int y13), (4, .long w14), (3, .int x2), (0, .ref (ad 0)), (1, .int a1), (2, .int a2)] → W p l e (headSpec wsX12_foretold { frames := 6, cells := 0, slots := 0, locals := 133 }).room s m ([.ref (ad 0), .int a1, .int a2] : List Value).toArray below meth c0 H locs 0 0 (MQ below (va_Qi (fun (r : Int32) (u1 : z_U) => ∃ (I1 : z_I) (J1 : z_J), u1 = (shM, ad, I1, J1, PM ad) ∧ z_ima I1 ∧ z_imb I1 ∧ z_imr I1 ∧ z_rg 11 0 288 I1 ∧ z_rg 12 0 24 I1 ∧ z_Nd I1 ∧ z_rg 19 0 6200 I1 ∧ z_rg 20 0 6200 I1 ∧ z_rg 18 (-1) 6199 I1 ∧ z_Ex I1 ∧ z_fr L_X12_foretold_k I1 I ∧ ((((1 ≤ a1.toInt ∧ a1.toInt ≤ 12) ∧ (I 0 0).toInt / 30 + a1.toInt ≤ 24) ∧ r.toInt = zk_r (zd_S (zk_q I) (I 0 75).toNatClampNeg) (zd_S (zk_Q I RS a2.toInt ((I 0 0).toInt / 30)) a1.toInt.toNat)) ∨ (¬ ((1 ≤ a1.toInt ∧ a1.toInt ≤ 12) ∧ (I 0 0).toInt / 30 + a1.toInt ≤ 24) ∧ r.toInt = -2000000000))) (z_B G A) A) ([.ref (ad 0), .int a1, .int a2] : List Value).toArray s 0 0 A) (F0 m 38 ls []) := by
        intro f
        induction f with
        | zero => intro y13 w14 I15 J16 H locs ls lp12m lp12l6 lp12u6 lp12ma lp12mb lp12mr lp12Atf lp12Atm lp12Nd lp12Asf lp12Ast lp12Asc lp12Ex lp12z lp12T lp12fr hW hS hl; exact absurd lp12m (by have := Int32.toInt_lt y13; have := Int32.le_toInt y13; omega)
        | succ f lp12ih =>
          intro y13 w14 I15 J16 H locs ls lp12m lp12l6 lp12u6 lp12ma lp12mb lp12mr lp12Atf lp12Atm lp12Nd lp12Asf lp12Ast lp12Asc lp12Ex lp12z lp12T lp12fr hW hS hl
          refine lv_iload hx hb dX12_foretold_38 (lv_at hl 0 rfl) ?_
          refine lv_iload_n hx hb dX12_foretold_40 rfl (lv_at hl 2 rfl) ?_
          refine lv_iload_n hx hb dX12_foretold_41 rfl (lv_at hl 4 rfl) ?_
          refine lv_iadd hx hb dX12_foretold_42 ?_
          refine lv_topi (fun x17 ex17 => ?_)
          have tx17 : x17.toInt = x2.toInt + a1.toInt := z_tadd ex17 rfl rfl (by omega) (by omega)
          refine lv_icmp_ge (tgt := 126) hx hb dX12_foretold_43 (by decide) (fun c18 => ?_) (fun c18 => ?_)
          · have g19 := z_f_ge rfl rfl c18
            refine lv_iconst (v := 0) hx hb dX12_foretold_126 (by decide) ?_
            refine lv_istore (lv' := [(6, .int 0), (4, .long w14), (3, .int x2), (0, .ref (ad 0)), (1, .int a1), (2, .int a2)]) hx hb dX12_foretold_127 hl (by decide) rfl (fun ls hl => ?_)
            refine lv_iconst (v := 0) hx hb dX12_foretold_129 (by decide) ?_
            refine lv_istore (lv' := [(7, .int 0), (6, .int 0), (4, .long w14), (3, .int x2), (0, .ref (ad 0)), (1, .int a1), (2, .int a2)]) hx hb dX12_foretold_130 hl (by decide) rfl (fun ls hl => ?_)
            have lp20 : ∀ (f : Nat) (y21 : Int32) (y22 : Int32) (H : Heap) (locs : List Loc) (ls : Array Slot), (2147483647 < y21.toInt + (f : Int)) → (0 ≤ y21.toInt) → (y21.toInt ≤ 4) → (0 ≤ y22.toInt) → (y22.toInt ≤ 200) → (y22.toInt = zd_S (zk_q I) y21.toNatClampNeg ∧ y22.toInt ≤ 50 * y21.toInt ∧ y21.toInt ≤ (I 0 75).toInt) → z_W G A (shM, ad, I15, J16, PM ad) H → va_S A s.heap H locs → lv_has ls 9 [(7, .int y21), (6, .int y22), (4, .long w14), (3, .int x2), (0, .ref (ad 0)), (1, .int a1), (2, .int a2)] → W p l e (headSpec wsX12_foretold { frames := 6, cells := 0, slots := 0, locals := 133 }).room s m ([.ref (ad 0), .int a1, .int a2] : List Value).toArray below meth c0 H locs 0 0 (MQ below (va_Qi (fun (r : Int32) (u1 : z_U) => ∃ (I1 : z_I) (J1 : z_J), u1 = (shM, ad, I1, J1, PM ad) ∧ z_ima I1 ∧ z_imb I1 ∧ z_imr I1 ∧ z_rg 11 0 288 I1 ∧ z_rg 12 0 24 I1 ∧ z_Nd I1 ∧ z_rg 19 0 6200 I1 ∧ z_rg 20 0 6200 I1 ∧ z_rg 18 (-1) 6199 I1 ∧ z_Ex I1 ∧ z_fr L_X12_foretold_k I1 I ∧ ((((1 ≤ a1.toInt ∧ a1.toInt ≤ 12) ∧ (I 0 0).toInt / 30 + a1.toInt ≤ 24) ∧ r.toInt = zk_r (zd_S (zk_q I) (I 0 75).toNatClampNeg) (zd_S (zk_Q I RS a2.toInt ((I 0 0).toInt / 30)) a1.toInt.toNat)) ∨ (¬ ((1 ≤ a1.toInt ∧ a1.toInt ≤ 12) ∧ (I 0 0).toInt / 30 + a1.toInt ≤ 24) ∧ r.toInt = -2000000000))) (z_B G A) A) ([.ref (ad 0), .int a1, .int a2] : List Value).toArray s 0 0 A) (F0 m 132 ls []) := by
              intro f
              induction f with
              | zero => intro y21 y22 H locs ls lp20m lp20l7 lp20u7 lp20l6 lp20u6 lp20P hW hS hl; exact absurd lp20m (by have := Int32.toInt_lt y21; have := Int32.le_toInt y21; omega)
              | succ f lp20ih =>
                intro y21 y22 H locs ls lp20m lp20l7 lp20u7 lp20l6 lp20u6 lp20P hW hS hl
                refine lv_iload hx hb dX12_foretold_132 (lv_at hl 0 rfl) ?_
                have hn23 : (I15 0 75).toInt = (I 0 75).toInt := by rw [lp12fr 0 75 (by decide)]
                refine lv_aload_n hx hb dX12_foretold_134 rfl (lv_at hl 4 rfl) ?_
                have r24 : 0 ≤ (I15 0 75).toInt ∧ (I15 0 75).toInt ≤ 4 := lp12mr
                refine z_get (T := TX12) (N := 96) (ci := 12) (i := 0) (v := .int (I15 0 75)) hx hb hts zj_X12_foretold_X12 hown hK hW rfl rfl 75 (by decide) (hts (.fieldLink RX12 493 "PetrolBoardModel" "ports" "I") (me_s (me_l (me_l (List.mem_of_getElem? (i := 3) rfl))))) (fun _ h => h) rfl dX12_foretold_135 ?_
                refine lv_icmp_ge (tgt := 159) hx hb dX12_foretold_138 (by decide) (fun c25 => ?_) (fun c25 => ?_)
                · have g26 := z_f_ge rfl rfl c25
                  refine lv_ldc2 (v := 100) hx hb hown (hts (.constantLong RX12 525 (100)) (me_s (me_l (me_l (List.mem_of_getElem? (i := 5) rfl))))) dX12_foretold_159 ?_
                  refine lv_iload hx hb dX12_foretold_162 (lv_at hl 1 rfl) ?_
                  refine lv_i2l (v := y22.toInt64) hx hb dX12_foretold_164 rfl ?_
                  refine lv_topl (fun w27 ew27 => ?_)
                  have tw27 : w27.toInt = y22.toInt := z_ti2l ew27 rfl
                  refine lv_lmul hx hb dX12_foretold_165 ?_
                  refine lv_topl (fun w28 ew28 => ?_)
                  have tw28 : w28.toInt = 100 * y22.toInt := z_tlmul ew28 (show (100 : Int64).toInt = 100 by decide) tw27 (by omega) (by omega)
                  have b29 := z_mulb (n := 100) (m := y22.toInt) (by omega) (by omega)
                  refine lv_lload hx hb dX12_foretold_166 (lv_at hl 2 rfl) ?_
                  refine lv_ldc2 (v := 9) hx hb hown (hts (.constantLong RX12 527 (9)) (me_s (me_l (me_l (List.mem_of_getElem? (i := 6) rfl))))) dX12_foretold_168 ?_
                  refine lv_ladd hx hb dX12_foretold_171 ?_
                  refine lv_topl (fun w30 ew30 => ?_)
                  have tw30 : w30.toInt = w14.toInt + 9 := z_tladd ew30 rfl (show (9 : Int64).toInt = 9 by decide) (by omega) (by omega)
                  refine lv_ldc2 (v := 10) hx hb hown (hts (.constantLong RX12 529 (10)) (me_s (me_l (me_l (List.mem_of_getElem? (i := 7) rfl))))) dX12_foretold_172 ?_
                  refine lv_ldiv hx hb dX12_foretold_175 (by decide) ?_
                  refine lv_topl (fun w31 ew31 => ?_)
                  have tw31 : w31.toInt = (w14.toInt + 9) / 10 := z_tldivp ew31 tw30 (show (10 : Int64).toInt = 10 by decide) (by omega)
                  refine lv_lsub hx hb dX12_foretold_176 ?_
                  refine lv_topl (fun w32 ew32 => ?_)
                  have tw32 : w32.toInt = (100 * y22.toInt) - ((w14.toInt + 9) / 10) := z_tlsub ew32 tw28 tw31 (by omega) (by omega)
                  refine lv_lstore (lv' := [(7, .long w32), (6, .int y22), (4, .long w14), (3, .int x2), (0, .ref (ad 0)), (1, .int a1), (2, .int a2)]) hx hb dX12_foretold_177 hl (by decide) rfl (fun ls hl => ?_)
                  refine lv_lload hx hb dX12_foretold_179 (lv_at hl 0 rfl) ?_
                  refine lv_ldc2 (v := (-1999999999)) hx hb hown (hts (.constantLong RX12 531 (-1999999999)) (me_s (me_l (me_l (List.mem_of_getElem? (i := 8) rfl))))) dX12_foretold_181 ?_
                  refine W.lcmp hx hb dX12_foretold_184 ?_
                  refine lv_topi (fun x33 ex33 => ?_)
                  have tx33 := z_tcmp ex33
                  have h34 := z_tlcmp ex33 tw32 (show ((-1999999999) : Int64).toInt = (-1999999999) by decide)
                  refine lv_if_ge (tgt := 194) hx hb dX12_foretold_185 (by decide) (fun c35 => ?_) (fun c35 => ?_)
                  · have g36 := z_f_ge rfl z_l0 c35
                    refine lv_lload hx hb dX12_foretold_194 (lv_at hl 0 rfl) ?_
                    refine lv_l2i (v := w32.toInt32) hx hb dX12_foretold_196 rfl ?_
                    refine lv_topi (fun x37 ex37 => ?_)
                    have tx37 : x37.toInt = ((100 * y22.toInt) - ((w14.toInt + 9) / 10)) := z_tl2i ex37 tw32 (by omega)
                    exact z_iret hx hb hr hK hS (Nat.le_of_ble_eq_true rfl) (Nat.le_of_ble_eq_true rfl) hlocks dX12_foretold_197 (shM, ad, I15, J16, PM ad) hW ⟨I15, J16, rfl, ⟨(by show 0 ≤ (I15 0 0).toInt ∧ (I15 0 0).toInt ≤ 719; exact lp12ma.1), (by show 0 ≤ (I15 0 1).toInt ∧ (I15 0 1).toInt ≤ 30; exact lp12ma.2.1), (by show 0 ≤ (I15 0 2).toInt ∧ (I15 0 2).toInt ≤ 200; exact lp12ma.2.2)⟩, ⟨(by show 0 ≤ (I15 0 13).toInt ∧ (I15 0 13).toInt ≤ 12; exact lp12mb.1), (by show 0 ≤ (I15 0 14).toInt ∧ (I15 0 14).toInt ≤ 288; exact lp12mb.2)⟩, (by show 0 ≤ (I15 0 75).toInt ∧ (I15 0 75).toInt ≤ 4; exact lp12mr), lp12Atf, lp12Atm, lp12Nd, lp12Asf, lp12Ast, lp12Asc, lp12Ex, lp12fr, (by have e9 := lp12T.1; rw [show (y13.toInt - x2.toInt).toNat = a1.toInt.toNat by omega, show x2.toInt = (I 0 0).toInt / 30 by omega] at e9; have c9 := z_clt (x := y21) rfl (by omega); have c8 := z_clt (x := I 0 75) rfl (by have q9 := hmr; omega); have p9 := lp20P.1; rw [show y21.toNatClampNeg = (I 0 75).toNatClampNeg by omega] at p9; exact Or.inl ⟨by omega, by unfold zk_r; rw [if_neg (by omega)]; omega⟩)⟩
                  · have g38 := z_f_nge rfl z_l0 c35
                    refine lv_ldcw (v := (-1999999999)) hx hb hown (hts (.constant RX12 533 (-1999999999)) (me_s (me_l (me_l (List.mem_of_getElem? (i := 9) rfl))))) dX12_foretold_188 ?_
                    refine lv_goto (tgt := 197) hx hb dX12_foretold_191 (by decide) ?_
                    exact z_iret hx hb hr hK hS (Nat.le_of_ble_eq_true rfl) (Nat.le_of_ble_eq_true rfl) hlocks dX12_foretold_197 (shM, ad, I15, J16, PM ad) hW ⟨I15, J16, rfl, ⟨(by show 0 ≤ (I15 0 0).toInt ∧ (I15 0 0).toInt ≤ 719; exact lp12ma.1), (by show 0 ≤ (I15 0 1).toInt ∧ (I15 0 1).toInt ≤ 30; exact lp12ma.2.1), (by show 0 ≤ (I15 0 2).toInt ∧ (I15 0 2).toInt ≤ 200; exact lp12ma.2.2)⟩, ⟨(by show 0 ≤ (I15 0 13).toInt ∧ (I15 0 13).toInt ≤ 12; exact lp12mb.1), (by show 0 ≤ (I15 0 14).toInt ∧ (I15 0 14).toInt ≤ 288; exact lp12mb.2)⟩, (by show 0 ≤ (I15 0 75).toInt ∧ (I15 0 75).toInt ≤ 4; exact lp12mr), lp12Atf, lp12Atm, lp12Nd, lp12Asf, lp12Ast, lp12Asc, lp12Ex, lp12fr, (by have e9 := lp12T.1; rw [show (y13.toInt - x2.toInt).toNat = a1.toInt.toNat by omega, show x2.toInt = (I 0 0).toInt / 30 by omega] at e9; have c9 := z_clt (x := y21) rfl (by omega); have c8 := z_clt (x := I 0 75) rfl (by have q9 := hmr; omega); have p9 := lp20P.1; rw [show y21.toNatClampNeg = (I 0 75).toNatClampNeg by omega] at p9; exact Or.inl ⟨by omega, z_lm1999999999.trans (by unfold zk_r; rw [if_pos (by omega)])⟩)⟩
                · have g39 := z_f_nge rfl rfl c25
                  refine lv_iload hx hb dX12_foretold_141 (lv_at hl 1 rfl) ?_
                  refine lv_aload_n hx hb dX12_foretold_143 rfl (lv_at hl 4 rfl) ?_
                  refine z_get (T := TX12) (N := 96) (ci := 12) (i := 0) (v := .ref (ad 52)) hx hb hts zj_X12_foretold_X12 hown hK hW rfl rfl 76 (by decide) (hts (.fieldLink RX12 172 "PetrolBoardModel" "loadsOf" "[I") (me_s (me_l (me_l (List.mem_of_getElem? (i := 4) rfl))))) (fun _ h => h) rfl dX12_foretold_144 ?_
                  refine lv_iload hx hb dX12_foretold_147 (lv_at hl 0 rfl) ?_
                  refine z_iald (i := 52) hx hb hK hW rfl (z_ix rfl (by omega) (by omega)) dX12_foretold_149 ?_
                  refine lv_topi (fun x40 ex40 => ?_)
                  have hv41 : (I15 52 y21.toNatClampNeg).toInt = x40.toInt := by rw [ex40]
                  have hz42 := z_clt (x := y21) rfl (by omega)
                  have hl43 : (I 52 y21.toNatClampNeg).toInt = x40.toInt := by rw [← lp12fr 52 y21.toNatClampNeg (z_wr_c (by decide))]; exact hv41
                  have hu44 := hPo y21.toNatClampNeg (by omega)
                  refine lv_iadd hx hb dX12_foretold_150 ?_
                  refine lv_topi (fun x45 ex45 => ?_)
                  have tx45 : x45.toInt = y22.toInt + x40.toInt := z_tadd ex45 rfl rfl (by omega) (by omega)
                  refine lv_istore (lv' := [(6, .int x45), (7, .int y21), (4, .long w14), (3, .int x2), (0, .ref (ad 0)), (1, .int a1), (2, .int a2)]) hx hb dX12_foretold_151 hl (by decide) rfl (fun ls hl => ?_)
                  obtain ⟨x46, ex46⟩ : ∃ y : Int32, y = y21 + 1 := ⟨_, rfl⟩
                  have tx46 : x46.toInt = y21.toInt + 1 := z_tadd ex46 rfl z_l1 (by omega) (by omega)
                  refine lv_iinc (v := x46) (lv' := [(7, .int x46), (6, .int x45), (4, .long w14), (3, .int x2), (0, .ref (ad 0)), (1, .int a1), (2, .int a2)]) hx hb dX12_foretold_153 hl (k := 1) rfl (by rw [ex46]; rfl) (by decide) rfl (fun ls hl => ?_)
                  refine lv_goto (tgt := 132) hx hb dX12_foretold_156 (by decide) ?_
                  exact lp20ih x46 x45 _ _ _ (by omega) (by omega) (by omega) (by omega) (by omega) ⟨by rw [show x46.toNatClampNeg = y21.toNatClampNeg + 1 from z_cln (by omega) (by omega), zd_S_s, ← lp20P.1]; unfold zk_q; omega, by omega, by omega⟩ hW hS (lv_sub hl [0, 1, 2, 3, 4, 5, 6] rfl)
            exact lp20 4294967296 (0) (0) _ _ _ (z_m0u _) (by rw [z_l0]; omega) (by rw [z_l0]; omega) (by rw [z_l0]; omega) (by rw [z_l0]; omega) ⟨by rw [show (0 : Int32).toNatClampNeg = 0 by decide]; rfl, by have q0 := z_l0; omega, by have q0 := z_l0; have q9 := hmr; omega⟩ hW hS (lv_sub hl [0, 1, 2, 3, 4, 5, 6] rfl)
          · have g47 := z_f_nge rfl rfl c18
            refine lv_iconst (v := 0) hx hb dX12_foretold_46 (by decide) ?_
            refine lv_istore (lv' := [(7, .int 0), (6, .int y13), (4, .long w14), (3, .int x2), (0, .ref (ad 0)), (1, .int a1), (2, .int a2)]) hx hb dX12_foretold_47 hl (by decide) rfl (fun ls hl => ?_)
            have lp48 : ∀ (f : Nat) (y49 : Int32) (w50 : Int64) (I51 : z_I) (J52 : z_J) (H : Heap) (locs : List Loc) (ls : Array Slot), (2147483647 < y49.toInt + (f : Int)) → (0 ≤ y49.toInt) → (y49.toInt ≤ 30) → (z_ima I51) → (z_imb I51) → (z_imr I51) → (z_rg 11 0 288 I51) → (z_rg 12 0 24 I51) → (z_Nd I51) → (z_rg 19 0 6200 I51) → (z_rg 20 0 6200 I51) → (z_rg 18 (-1) 6199 I51) → (z_Ex I51) → (w50.toInt = zd_S (zk_Q I RS a2.toInt x2.toInt) (y13.toInt - x2.toInt).toNat + zd_S (zk_V I RS a2.toInt y13.toInt) y49.toNatClampNeg ∧ 0 ≤ w50.toInt ∧ w50.toInt ≤ 3000000000 * (y13.toInt - x2.toInt) + 99000000 * y49.toInt ∧ y49.toInt ≤ (I 0 1).toInt) → (z_fr L_X12_foretold_k I51 I) → z_W G A (shM, ad, I51, J52, PM ad) H → va_S A s.heap H locs → lv_has ls 9 [(7, .int y49), (6, .int y13), (4, .long w50), (3, .int x2), (0, .ref (ad 0)), (1, .int a1), (2, .int a2)] → W p l e (headSpec wsX12_foretold { frames := 6, cells := 0, slots := 0, locals := 133 }).room s m ([.ref (ad 0), .int a1, .int a2] : List Value).toArray below meth c0 H locs 0 0 (MQ below (va_Qi (fun (r : Int32) (u1 : z_U) => ∃ (I1 : z_I) (J1 : z_J), u1 = (shM, ad, I1, J1, PM ad) ∧ z_ima I1 ∧ z_imb I1 ∧ z_imr I1 ∧ z_rg 11 0 288 I1 ∧ z_rg 12 0 24 I1 ∧ z_Nd I1 ∧ z_rg 19 0 6200 I1 ∧ z_rg 20 0 6200 I1 ∧ z_rg 18 (-1) 6199 I1 ∧ z_Ex I1 ∧ z_fr L_X12_foretold_k I1 I ∧ ((((1 ≤ a1.toInt ∧ a1.toInt ≤ 12) ∧ (I 0 0).toInt / 30 + a1.toInt ≤ 24) ∧ r.toInt = zk_r (zd_S (zk_q I) (I 0 75).toNatClampNeg) (zd_S (zk_Q I RS a2.toInt ((I 0 0).toInt / 30)) a1.toInt.toNat)) ∨ (¬ ((1 ≤ a1.toInt ∧ a1.toInt ≤ 12) ∧ (I 0 0).toInt / 30 + a1.toInt ≤ 24) ∧ r.toInt = -2000000000))) (z_B G A) A) ([.ref (ad 0), .int a1, .int a2] : List Value).toArray s 0 0 A) (F0 m 49 ls []) := by
              intro f
              induction f with
              | zero => intro y49 w50 I51 J52 H locs ls lp48m lp48l7 lp48u7 lp48ma lp48mb lp48mr lp48Atf lp48Atm lp48Nd lp48Asf lp48Ast lp48Asc lp48Ex lp48H lp48fr hW hS hl; exact absurd lp48m (by have := Int32.toInt_lt y49; have := Int32.le_toInt y49; omega)
              | succ f lp48ih =>
                intro y49 w50 I51 J52 H locs ls lp48m lp48l7 lp48u7 lp48ma lp48mb lp48mr lp48Atf lp48Atm lp48Nd lp48Asf lp48Ast lp48Asc lp48Ex lp48H lp48fr hW hS hl
                refine lv_iload hx hb dX12_foretold_49 (lv_at hl 0 rfl) ?_
                have hn53 : (I51 0 1).toInt = (I 0 1).toInt := by rw [lp48fr 0 1 (by decide)]
                refine lv_aload_n hx hb dX12_foretold_51 rfl (lv_at hl 4 rfl) ?_
                have r54 : 0 ≤ (I51 0 1).toInt ∧ (I51 0 1).toInt ≤ 30 := lp48ma.2.1
                refine z_get (T := TX12) (N := 96) (ci := 12) (i := 0) (v := .int (I51 0 1)) hx hb hts zj_X12_foretold_X12 hown hK hW rfl rfl 1 (by decide) (hts (.fieldLink RX12 229 "PetrolBoardModel" "holders" "I") (me_s (me_l (me_l (List.mem_of_getElem? (i := 2) rfl))))) (fun _ h => h) rfl dX12_foretold_52 ?_
                refine lv_icmp_ge (tgt := 120) hx hb dX12_foretold_55 (by decide) (fun c55 => ?_) (fun c55 => ?_)
                · have g56 := z_f_ge rfl rfl c55
                  obtain ⟨x57, ex57⟩ : ∃ y : Int32, y = y13 + 1 := ⟨_, rfl⟩
                  have tx57 : x57.toInt = y13.toInt + 1 := z_tadd ex57 rfl z_l1 (by omega) (by omega)
                  refine lv_iinc (v := x57) (lv' := [(6, .int x57), (7, .int y49), (4, .long w50), (3, .int x2), (0, .ref (ad 0)), (1, .int a1), (2, .int a2)]) hx hb dX12_foretold_120 hl (k := 1) rfl (by rw [ex57]; rfl) (by decide) rfl (fun ls hl => ?_)
                  refine lv_goto (tgt := 38) hx hb dX12_foretold_123 (by decide) ?_
                  exact lp12ih x57 w50 I51 J52 _ _ _ (by omega) (by omega) (by omega) ⟨(by show 0 ≤ (I51 0 0).toInt ∧ (I51 0 0).toInt ≤ 719; exact lp48ma.1), (by show 0 ≤ (I51 0 1).toInt ∧ (I51 0 1).toInt ≤ 30; exact lp48ma.2.1), (by show 0 ≤ (I51 0 2).toInt ∧ (I51 0 2).toInt ≤ 200; exact lp48ma.2.2)⟩ ⟨(by show 0 ≤ (I51 0 13).toInt ∧ (I51 0 13).toInt ≤ 12; exact lp48mb.1), (by show 0 ≤ (I51 0 14).toInt ∧ (I51 0 14).toInt ≤ 288; exact lp48mb.2)⟩ (by show 0 ≤ (I51 0 75).toInt ∧ (I51 0 75).toInt ≤ 4; exact lp48mr) lp48Atf lp48Atm lp48Nd lp48Asf lp48Ast lp48Asc lp48Ex (by omega) (by have c9 := z_clt (x := y49) rfl (by omega); have c8 := z_clt (x := I 0 1) rfl (by have q9 := hma.2.1; omega); have e9 := lp48H.1; rw [show y49.toNatClampNeg = (I 0 1).toNatClampNeg by omega] at e9; exact ⟨by rw [show (x57.toInt - x2.toInt).toNat = (y13.toInt - x2.toInt).toNat + 1 by omega, zd_S_s, zk_Q_e (m := y13.toInt) (by omega)]; exact e9, by omega, by omega, by omega, by omega⟩) lp48fr hW hS (lv_sub hl [0, 2, 3, 4, 5, 6] rfl)
                · have g58 := z_f_nge rfl rfl c55
                  refine lv_iload_n hx hb dX12_foretold_58 rfl (lv_at hl 6 rfl) ?_
                  refine lv_if_ne (tgt := 83) hx hb dX12_foretold_59 (by decide) (fun c59 => ?_) (fun c59 => ?_)
                  · have g60 := z_f_ne rfl z_l0 c59
                    have b61 := Int32.toInt_lt a2
                    refine lv_lload hx hb dX12_foretold_83 (lv_at hl 2 rfl) ?_
                    refine lv_aload_n hx hb dX12_foretold_85 rfl (lv_at hl 4 rfl) ?_
                    refine lv_iload hx hb dX12_foretold_86 (lv_at hl 0 rfl) ?_
                    refine lv_iload hx hb dX12_foretold_88 (lv_at hl 1 rfl) ?_
                    refine lv_aload_n hx hb dX12_foretold_90 rfl (lv_at hl 4 rfl) ?_
                    have r62 : 0 ≤ (I51 0 0).toInt ∧ (I51 0 0).toInt ≤ 719 := lp48ma.1
                    refine z_get (T := TX12) (N := 96) (ci := 12) (i := 0) (v := .int (I51 0 0)) hx hb hts zj_X12_foretold_X12 hown hK hW rfl rfl 0 (by decide) (hts (.fieldLink RX12 232 "PetrolBoardModel" "today" "I") (me_s (me_l (me_l (List.mem_of_getElem? (i := 0) rfl))))) (fun _ h => h) rfl dX12_foretold_91 ?_
                    refine z_ci hW hS hA (va_runV (As := [.int y49, .int y13, .int (I51 0 0)]) (rest := [.long w50]) ⟨hx, hb, hml, hown, hts⟩ (sx_X12_unitsOf_x l G ad I51 J52 ⟨(by show 0 ≤ (I51 0 0).toInt ∧ (I51 0 0).toInt ≤ 719; exact lp48ma.1), (by show 0 ≤ (I51 0 1).toInt ∧ (I51 0 1).toInt ≤ 30; exact lp48ma.2.1), (by show 0 ≤ (I51 0 2).toInt ∧ (I51 0 2).toInt ≤ 200; exact lp48ma.2.2)⟩ ⟨(by show 0 ≤ (I51 0 13).toInt ∧ (I51 0 13).toInt ≤ 12; exact lp48mb.1), (by show 0 ≤ (I51 0 14).toInt ∧ (I51 0 14).toInt ≤ 288; exact lp48mb.2)⟩ lp48Atf lp48Atm lp48Nd lp48Asf lp48Ast lp48Asc lp48Ex FF RS y49 y13 (I51 0 0) (by omega) (by omega) (zd_W_c hWm (lp48fr 0 13 (by decide)) (fun t F R h => zw_T_c h (fun j => ⟨lp48fr 11 j (z_wr_c (by decide)), lp48fr 12 j (z_wr_c (by decide))⟩) (fun j => ⟨lp48fr 15 j (z_wr_c (by decide)), lp48fr 16 j (z_wr_c (by decide)), lp48fr 17 j (z_wr_c (by decide)), lp48fr 18 j (z_wr_c (by decide)), lp48fr 19 j (z_wr_c (by decide)), lp48fr 20 j (z_wr_c (by decide))⟩) (fun j => ⟨lp48fr 21 j (z_wr_c (by decide)), lp48fr 22 j (z_wr_c (by decide)), lp48fr 23 j (z_wr_c (by decide))⟩)) (fun j => ⟨lp48fr 6 j (z_wr_c (by decide)), lp48fr 7 j (z_wr_c (by decide)), lp48fr 8 j (z_wr_c (by decide)), lp48fr 9 j (z_wr_c (by decide)), lp48fr 10 j (z_wr_c (by decide))⟩) (lp48fr 0 2 (by decide)) (lp48fr 0 1 (by decide)) (fun j => ⟨lp48fr 1 j (z_wr_c (by decide)), lp48fr 2 j (z_wr_c (by decide))⟩)) _) (cwV 3 hts gX12_foretold_X12_unitsOf rfl rfl rfl (by decide +kernel) ⟨Nat.le_of_ble_eq_true rfl, Nat.le_of_ble_eq_true rfl⟩) (z_preV (i := 0) hK hW rfl rfl) rfl rfl hl.1 rfl (lv_room (Nat.le_of_ble_eq_true rfl)) dX12_foretold_94 ⟨Nat.le_of_ble_eq_true rfl, Nat.le_of_ble_eq_true rfl⟩) (fun r u1 H locs hp hW hS => ?_)
                    obtain ⟨I63, J65, e9, hI63ma, hI63mb, hI63Atf, hI63Atm, hI63Nd, hI63Asf, hI63Ast, hI63Asc, hI63Ex, fI63, hp⟩ := hp
                    rw [e9] at hW
                    have f64 := z_fr_sub (L := L_X12_foretold_k) lp48fr fI63 (by decide)
                    have k66 : (I63 0 1).toInt = (I51 0 1).toInt := by rw [fI63 0 1 (by decide)]
                    have k67 : 0 ≤ (I63 0 75).toInt ∧ (I63 0 75).toInt ≤ 4 := by rw [fI63 0 75 (by decide)]; exact (by show 0 ≤ (I51 0 75).toInt ∧ (I51 0 75).toInt ≤ 4; exact lp48mr)
                    refine lv_topi (fun x68 ex68 => ?_)
                    rw [← ex68] at hp
                    have hb70 := zw_UX_b hp
                    have hU69 : x68.toInt = zd_V I RS y13.toInt y49.toNatClampNeg := zd_V_e (by omega) (zw_UX_c (lp48fr 0 13 (by decide)) (fun j => ⟨lp48fr 13 j (z_wr_c (by decide)), lp48fr 14 j (z_wr_c (by decide))⟩) (fun j => ⟨lp48fr 6 j (z_wr_c (by decide)), lp48fr 7 j (z_wr_c (by decide)), lp48fr 8 j (z_wr_c (by decide)), lp48fr 9 j (z_wr_c (by decide)), lp48fr 10 j (z_wr_c (by decide))⟩) (lp48fr 0 2 (by decide)) (fun j => ⟨lp48fr 1 j (z_wr_c (by decide)), lp48fr 2 j (z_wr_c (by decide))⟩) (by have q9 := hp; rw [show (I51 0 0).toInt = (I 0 0).toInt by rw [lp48fr 0 0 (by decide)]] at q9; exact q9))
                    refine lv_i2l (v := x68.toInt64) hx hb dX12_foretold_97 rfl ?_
                    refine lv_topl (fun w71 ew71 => ?_)
                    have tw71 : w71.toInt = x68.toInt := z_ti2l ew71 rfl
                    refine lv_aload_n hx hb dX12_foretold_98 rfl (lv_at hl 4 rfl) ?_
                    refine lv_iload hx hb dX12_foretold_99 (lv_at hl 1 rfl) ?_
                    refine lv_aload_n hx hb dX12_foretold_101 rfl (lv_at hl 4 rfl) ?_
                    have r72 : 0 ≤ (I63 0 0).toInt ∧ (I63 0 0).toInt ≤ 719 := hI63ma.1
                    refine z_get (T := TX12) (N := 96) (ci := 12) (i := 0) (v := .int (I63 0 0)) hx hb hts zj_X12_foretold_X12 hown hK hW rfl rfl 0 (by decide) (hts (.fieldLink RX12 232 "PetrolBoardModel" "today" "I") (me_s (me_l (me_l (List.mem_of_getElem? (i := 0) rfl))))) (fun _ h => h) rfl dX12_foretold_102 ?_
                    refine lv_iconst (v := 3) hx hb dX12_foretold_105 (by decide) ?_
                    refine z_ci hW hS hA (va_runV (As := [.int y13, .int (I63 0 0), .int 3]) (rest := [.long w71, .long w50]) ⟨hx, hb, hml, hown, hts⟩ (sx_X12_number_x l G ad I63 J65 ⟨(by show 0 ≤ (I63 0 13).toInt ∧ (I63 0 13).toInt ≤ 12; exact hI63mb.1), (by show 0 ≤ (I63 0 14).toInt ∧ (I63 0 14).toInt ≤ 288; exact hI63mb.2)⟩ hI63Atf hI63Atm y13 (I63 0 0) 3 (by decide) _) (cwV 3 hts gX12_foretold_X12_number rfl rfl rfl (by decide +kernel) ⟨Nat.le_of_ble_eq_true rfl, Nat.le_of_ble_eq_true rfl⟩) (z_preV (i := 0) hK hW rfl rfl) rfl rfl hl.1 rfl (lv_room (Nat.le_of_ble_eq_true rfl)) dX12_foretold_106 ⟨Nat.le_of_ble_eq_true rfl, Nat.le_of_ble_eq_true rfl⟩) (fun r u1 H locs hp hW hS => ?_)
                    obtain ⟨e9, hp⟩ := hp
                    rw [e9] at hW
                    refine lv_topi (fun x73 ex73 => ?_)
                    rw [← ex73, show (3 : Int32).toInt - 3 = 0 by decide] at hp
                    have hb75 := zk_M_b hab (fun j => ⟨f64 11 j (z_wr_c (by decide)), f64 12 j (z_wr_c (by decide)), f64 13 j (z_wr_c (by decide)), f64 14 j (z_wr_c (by decide)), f64 15 j (z_wr_c (by decide)), f64 16 j (z_wr_c (by decide))⟩) (f64 0 13 (by decide)) hp
                    have hM74 : x73.toInt = zk_am I 0 y13.toInt (I 0 0).toInt := zk_M_e (fun j => ⟨f64 11 j (z_wr_c (by decide)), f64 12 j (z_wr_c (by decide)), f64 13 j (z_wr_c (by decide)), f64 14 j (z_wr_c (by decide)), f64 15 j (z_wr_c (by decide)), f64 16 j (z_wr_c (by decide))⟩) (f64 0 13 (by decide)) (show (I63 0 0).toInt = (I 0 0).toInt by rw [f64 0 0 (by decide)]) hp
                    refine lv_i2l (v := x73.toInt64) hx hb dX12_foretold_109 rfl ?_
                    refine lv_topl (fun w76 ew76 => ?_)
                    have tw76 : w76.toInt = x73.toInt := z_ti2l ew76 rfl
                    refine lv_lmul hx hb dX12_foretold_110 ?_
                    refine lv_topl (fun w77 ew77 => ?_)
                    have tw77 : w77.toInt = x68.toInt * x73.toInt := z_tlmul ew77 tw71 tw76 (by omega) (by omega)
                    have b78 := z_mulb (n := x68.toInt) (m := x73.toInt) (by omega) (by omega)
                    refine lv_ladd hx hb dX12_foretold_111 ?_
                    refine lv_topl (fun w79 ew79 => ?_)
                    have tw79 : w79.toInt = w50.toInt + (x68.toInt * x73.toInt) := z_tladd ew79 rfl tw77 (by omega) (by omega)
                    refine lv_lstore (lv' := [(4, .long w79), (7, .int y49), (6, .int y13), (3, .int x2), (0, .ref (ad 0)), (1, .int a1), (2, .int a2)]) hx hb dX12_foretold_112 hl (by decide) rfl (fun ls hl => ?_)
                    obtain ⟨x80, ex80⟩ : ∃ y : Int32, y = y49 + 1 := ⟨_, rfl⟩
                    have tx80 : x80.toInt = y49.toInt + 1 := z_tadd ex80 rfl z_l1 (by omega) (by omega)
                    refine lv_iinc (v := x80) (lv' := [(7, .int x80), (4, .long w79), (6, .int y13), (3, .int x2), (0, .ref (ad 0)), (1, .int a1), (2, .int a2)]) hx hb dX12_foretold_114 hl (k := 1) rfl (by rw [ex80]; rfl) (by decide) rfl (fun ls hl => ?_)
                    refine lv_goto (tgt := 49) hx hb dX12_foretold_117 (by decide) ?_
                    exact lp48ih x80 w79 I63 J65 _ _ _ (by omega) (by omega) (by omega) ⟨(by show 0 ≤ (I63 0 0).toInt ∧ (I63 0 0).toInt ≤ 719; exact hI63ma.1), (by show 0 ≤ (I63 0 1).toInt ∧ (I63 0 1).toInt ≤ 30; exact hI63ma.2.1), (by show 0 ≤ (I63 0 2).toInt ∧ (I63 0 2).toInt ≤ 200; exact hI63ma.2.2)⟩ ⟨(by show 0 ≤ (I63 0 13).toInt ∧ (I63 0 13).toInt ≤ 12; exact hI63mb.1), (by show 0 ≤ (I63 0 14).toInt ∧ (I63 0 14).toInt ≤ 288; exact hI63mb.2)⟩ (by show 0 ≤ (I63 0 75).toInt ∧ (I63 0 75).toInt ≤ 4; exact k67) hI63Atf hI63Atm hI63Nd hI63Asf hI63Ast hI63Asc hI63Ex (by have m9 := zk_mb hb70 hb75; have m8 : (99 : Int) * 999999 ≤ 99000000 := (by decide); exact ⟨by rw [show x80.toNatClampNeg = y49.toNatClampNeg + 1 from z_cln (by omega) (by omega), zd_S_s, zk_V_1 (fun q => by have q1 := q.1; have q2 := q.2; omega) hU69 hM74]; have q9 := lp48H.1; omega, by omega, by omega, by omega⟩) f64 hW hS (lv_sub hl [0, 2, 1, 3, 4, 5, 6] rfl)
                  · have g81 := z_f_eq rfl z_l0 c59
                    have b82 := Int32.toInt_lt a2
                    refine lv_aload_n hx hb dX12_foretold_62 rfl (lv_at hl 4 rfl) ?_
                    refine lv_iload hx hb dX12_foretold_63 (lv_at hl 0 rfl) ?_
                    refine lv_bipush (v := 30) hx hb dX12_foretold_65 (by decide) ?_
                    refine lv_iload hx hb dX12_foretold_67 (lv_at hl 1 rfl) ?_
                    refine lv_imul hx hb dX12_foretold_69 ?_
                    refine lv_topi (fun x83 ex83 => ?_)
                    have tx83 : x83.toInt = 30 * y13.toInt := z_tmul ex83 z_l30 rfl (by omega) (by omega)
                    refine lv_aload_n hx hb dX12_foretold_70 rfl (lv_at hl 4 rfl) ?_
                    have r84 : 0 ≤ (I51 0 0).toInt ∧ (I51 0 0).toInt ≤ 719 := lp48ma.1
                    refine z_get (T := TX12) (N := 96) (ci := 12) (i := 0) (v := .int (I51 0 0)) hx hb hts zj_X12_foretold_X12 hown hK hW rfl rfl 0 (by decide) (hts (.fieldLink RX12 232 "PetrolBoardModel" "today" "I") (me_s (me_l (me_l (List.mem_of_getElem? (i := 0) rfl))))) (fun _ h => h) rfl dX12_foretold_71 ?_
                    refine z_ci hW hS hA (va_runV (As := [.int y49, .int x83, .int (I51 0 0)]) (rest := []) ⟨hx, hb, hml, hown, hts⟩ (sx_X12_kindOn_r l G ad I51 J52 ⟨(by show 0 ≤ (I51 0 0).toInt ∧ (I51 0 0).toInt ≤ 719; exact lp48ma.1), (by show 0 ≤ (I51 0 1).toInt ∧ (I51 0 1).toInt ≤ 30; exact lp48ma.2.1), (by show 0 ≤ (I51 0 2).toInt ∧ (I51 0 2).toInt ≤ 200; exact lp48ma.2.2)⟩ y49 x83 (I51 0 0) _) (cwV 3 hts gX12_foretold_X12_kindOn rfl rfl rfl (by decide +kernel) ⟨Nat.le_of_ble_eq_true rfl, Nat.le_of_ble_eq_true rfl⟩) (z_preV (i := 0) hK hW rfl rfl) rfl rfl hl.1 rfl (lv_room (Nat.le_of_ble_eq_true rfl)) dX12_foretold_74 ⟨Nat.le_of_ble_eq_true rfl, Nat.le_of_ble_eq_true rfl⟩) (fun r u1 H locs hp hW hS => ?_)
                    obtain ⟨e9, hp⟩ := hp
                    rw [e9] at hW
                    refine lv_topi (fun x85 ex85 => ?_)
                    rw [← ex85] at hp
                    have hk86 : x85.toInt = zk_KM I y13.toInt y49.toNatClampNeg := zk_KM_e (fun j => ⟨lp48fr 6 j (z_wr_c (by decide)), lp48fr 7 j (z_wr_c (by decide)), lp48fr 8 j (z_wr_c (by decide)), lp48fr 9 j (z_wr_c (by decide)), lp48fr 10 j (z_wr_c (by decide))⟩) (lp48fr 0 2 (by decide)) (lp48fr 0 0 (by decide)) (by omega) (by omega) hp
                    refine lv_if_ne (tgt := 83) hx hb dX12_foretold_77 (by decide) (fun c87 => ?_) (fun c87 => ?_)
                    · have g88 := z_f_ne rfl z_l0 c87
                      have b89 := Int32.toInt_lt x85
                      refine lv_lload hx hb dX12_foretold_83 (lv_at hl 2 rfl) ?_
                      refine lv_aload_n hx hb dX12_foretold_85 rfl (lv_at hl 4 rfl) ?_
                      refine lv_iload hx hb dX12_foretold_86 (lv_at hl 0 rfl) ?_
                      refine lv_iload hx hb dX12_foretold_88 (lv_at hl 1 rfl) ?_
                      refine lv_aload_n hx hb dX12_foretold_90 rfl (lv_at hl 4 rfl) ?_
                      refine z_get (T := TX12) (N := 96) (ci := 12) (i := 0) (v := .int (I51 0 0)) hx hb hts zj_X12_foretold_X12 hown hK hW rfl rfl 0 (by decide) (hts (.fieldLink RX12 232 "PetrolBoardModel" "today" "I") (me_s (me_l (me_l (List.mem_of_getElem? (i := 0) rfl))))) (fun _ h => h) rfl dX12_foretold_91 ?_
                      refine z_ci hW hS hA (va_runV (As := [.int y49, .int y13, .int (I51 0 0)]) (rest := [.long w50]) ⟨hx, hb, hml, hown, hts⟩ (sx_X12_unitsOf_x l G ad I51 J52 ⟨(by show 0 ≤ (I51 0 0).toInt ∧ (I51 0 0).toInt ≤ 719; exact lp48ma.1), (by show 0 ≤ (I51 0 1).toInt ∧ (I51 0 1).toInt ≤ 30; exact lp48ma.2.1), (by show 0 ≤ (I51 0 2).toInt ∧ (I51 0 2).toInt ≤ 200; exact lp48ma.2.2)⟩ ⟨(by show 0 ≤ (I51 0 13).toInt ∧ (I51 0 13).toInt ≤ 12; exact lp48mb.1), (by show 0 ≤ (I51 0 14).toInt ∧ (I51 0 14).toInt ≤ 288; exact lp48mb.2)⟩ lp48Atf lp48Atm lp48Nd lp48Asf lp48Ast lp48Asc lp48Ex FF RS y49 y13 (I51 0 0) (by omega) (by omega) (zd_W_c hWm (lp48fr 0 13 (by decide)) (fun t F R h => zw_T_c h (fun j => ⟨lp48fr 11 j (z_wr_c (by decide)), lp48fr 12 j (z_wr_c (by decide))⟩) (fun j => ⟨lp48fr 15 j (z_wr_c (by decide)), lp48fr 16 j (z_wr_c (by decide)), lp48fr 17 j (z_wr_c (by decide)), lp48fr 18 j (z_wr_c (by decide)), lp48fr 19 j (z_wr_c (by decide)), lp48fr 20 j (z_wr_c (by decide))⟩) (fun j => ⟨lp48fr 21 j (z_wr_c (by decide)), lp48fr 22 j (z_wr_c (by decide)), lp48fr 23 j (z_wr_c (by decide))⟩)) (fun j => ⟨lp48fr 6 j (z_wr_c (by decide)), lp48fr 7 j (z_wr_c (by decide)), lp48fr 8 j (z_wr_c (by decide)), lp48fr 9 j (z_wr_c (by decide)), lp48fr 10 j (z_wr_c (by decide))⟩) (lp48fr 0 2 (by decide)) (lp48fr 0 1 (by decide)) (fun j => ⟨lp48fr 1 j (z_wr_c (by decide)), lp48fr 2 j (z_wr_c (by decide))⟩)) _) (cwV 3 hts gX12_foretold_X12_unitsOf rfl rfl rfl (by decide +kernel) ⟨Nat.le_of_ble_eq_true rfl, Nat.le_of_ble_eq_true rfl⟩) (z_preV (i := 0) hK hW rfl rfl) rfl rfl hl.1 rfl (lv_room (Nat.le_of_ble_eq_true rfl)) dX12_foretold_94 ⟨Nat.le_of_ble_eq_true rfl, Nat.le_of_ble_eq_true rfl⟩) (fun r u1 H locs hp hW hS => ?_)
                      obtain ⟨I90, J92, e9, hI90ma, hI90mb, hI90Atf, hI90Atm, hI90Nd, hI90Asf, hI90Ast, hI90Asc, hI90Ex, fI90, hp⟩ := hp
                      rw [e9] at hW
                      have f91 := z_fr_sub (L := L_X12_foretold_k) lp48fr fI90 (by decide)
                      have k93 : (I90 0 1).toInt = (I51 0 1).toInt := by rw [fI90 0 1 (by decide)]
                      have k94 : 0 ≤ (I90 0 75).toInt ∧ (I90 0 75).toInt ≤ 4 := by rw [fI90 0 75 (by decide)]; exact (by show 0 ≤ (I51 0 75).toInt ∧ (I51 0 75).toInt ≤ 4; exact lp48mr)
                      refine lv_topi (fun x95 ex95 => ?_)
                      rw [← ex95] at hp
                      have hb97 := zw_UX_b hp
                      have hU96 : x95.toInt = zd_V I RS y13.toInt y49.toNatClampNeg := zd_V_e (by omega) (zw_UX_c (lp48fr 0 13 (by decide)) (fun j => ⟨lp48fr 13 j (z_wr_c (by decide)), lp48fr 14 j (z_wr_c (by decide))⟩) (fun j => ⟨lp48fr 6 j (z_wr_c (by decide)), lp48fr 7 j (z_wr_c (by decide)), lp48fr 8 j (z_wr_c (by decide)), lp48fr 9 j (z_wr_c (by decide)), lp48fr 10 j (z_wr_c (by decide))⟩) (lp48fr 0 2 (by decide)) (fun j => ⟨lp48fr 1 j (z_wr_c (by decide)), lp48fr 2 j (z_wr_c (by decide))⟩) (by have q9 := hp; rw [show (I51 0 0).toInt = (I 0 0).toInt by rw [lp48fr 0 0 (by decide)]] at q9; exact q9))
                      refine lv_i2l (v := x95.toInt64) hx hb dX12_foretold_97 rfl ?_
                      refine lv_topl (fun w98 ew98 => ?_)
                      have tw98 : w98.toInt = x95.toInt := z_ti2l ew98 rfl
                      refine lv_aload_n hx hb dX12_foretold_98 rfl (lv_at hl 4 rfl) ?_
                      refine lv_iload hx hb dX12_foretold_99 (lv_at hl 1 rfl) ?_
                      refine lv_aload_n hx hb dX12_foretold_101 rfl (lv_at hl 4 rfl) ?_
                      have r99 : 0 ≤ (I90 0 0).toInt ∧ (I90 0 0).toInt ≤ 719 := hI90ma.1
                      refine z_get (T := TX12) (N := 96) (ci := 12) (i := 0) (v := .int (I90 0 0)) hx hb hts zj_X12_foretold_X12 hown hK hW rfl rfl 0 (by decide) (hts (.fieldLink RX12 232 "PetrolBoardModel" "today" "I") (me_s (me_l (me_l (List.mem_of_getElem? (i := 0) rfl))))) (fun _ h => h) rfl dX12_foretold_102 ?_
                      refine lv_iconst (v := 3) hx hb dX12_foretold_105 (by decide) ?_
                      refine z_ci hW hS hA (va_runV (As := [.int y13, .int (I90 0 0), .int 3]) (rest := [.long w98, .long w50]) ⟨hx, hb, hml, hown, hts⟩ (sx_X12_number_x l G ad I90 J92 ⟨(by show 0 ≤ (I90 0 13).toInt ∧ (I90 0 13).toInt ≤ 12; exact hI90mb.1), (by show 0 ≤ (I90 0 14).toInt ∧ (I90 0 14).toInt ≤ 288; exact hI90mb.2)⟩ hI90Atf hI90Atm y13 (I90 0 0) 3 (by decide) _) (cwV 3 hts gX12_foretold_X12_number rfl rfl rfl (by decide +kernel) ⟨Nat.le_of_ble_eq_true rfl, Nat.le_of_ble_eq_true rfl⟩) (z_preV (i := 0) hK hW rfl rfl) rfl rfl hl.1 rfl (lv_room (Nat.le_of_ble_eq_true rfl)) dX12_foretold_106 ⟨Nat.le_of_ble_eq_true rfl, Nat.le_of_ble_eq_true rfl⟩) (fun r u1 H locs hp hW hS => ?_)
                      obtain ⟨e9, hp⟩ := hp
                      rw [e9] at hW
                      refine lv_topi (fun x100 ex100 => ?_)
                      rw [← ex100, show (3 : Int32).toInt - 3 = 0 by decide] at hp
                      have hb102 := zk_M_b hab (fun j => ⟨f91 11 j (z_wr_c (by decide)), f91 12 j (z_wr_c (by decide)), f91 13 j (z_wr_c (by decide)), f91 14 j (z_wr_c (by decide)), f91 15 j (z_wr_c (by decide)), f91 16 j (z_wr_c (by decide))⟩) (f91 0 13 (by decide)) hp
                      have hM101 : x100.toInt = zk_am I 0 y13.toInt (I 0 0).toInt := zk_M_e (fun j => ⟨f91 11 j (z_wr_c (by decide)), f91 12 j (z_wr_c (by decide)), f91 13 j (z_wr_c (by decide)), f91 14 j (z_wr_c (by decide)), f91 15 j (z_wr_c (by decide)), f91 16 j (z_wr_c (by decide))⟩) (f91 0 13 (by decide)) (show (I90 0 0).toInt = (I 0 0).toInt by rw [f91 0 0 (by decide)]) hp
                      refine lv_i2l (v := x100.toInt64) hx hb dX12_foretold_109 rfl ?_
                      refine lv_topl (fun w103 ew103 => ?_)
                      have tw103 : w103.toInt = x100.toInt := z_ti2l ew103 rfl
                      refine lv_lmul hx hb dX12_foretold_110 ?_
                      refine lv_topl (fun w104 ew104 => ?_)
                      have tw104 : w104.toInt = x95.toInt * x100.toInt := z_tlmul ew104 tw98 tw103 (by omega) (by omega)
                      have b105 := z_mulb (n := x95.toInt) (m := x100.toInt) (by omega) (by omega)
                      refine lv_ladd hx hb dX12_foretold_111 ?_
                      refine lv_topl (fun w106 ew106 => ?_)
                      have tw106 : w106.toInt = w50.toInt + (x95.toInt * x100.toInt) := z_tladd ew106 rfl tw104 (by omega) (by omega)
                      refine lv_lstore (lv' := [(4, .long w106), (7, .int y49), (6, .int y13), (3, .int x2), (0, .ref (ad 0)), (1, .int a1), (2, .int a2)]) hx hb dX12_foretold_112 hl (by decide) rfl (fun ls hl => ?_)
                      obtain ⟨x107, ex107⟩ : ∃ y : Int32, y = y49 + 1 := ⟨_, rfl⟩
                      have tx107 : x107.toInt = y49.toInt + 1 := z_tadd ex107 rfl z_l1 (by omega) (by omega)
                      refine lv_iinc (v := x107) (lv' := [(7, .int x107), (4, .long w106), (6, .int y13), (3, .int x2), (0, .ref (ad 0)), (1, .int a1), (2, .int a2)]) hx hb dX12_foretold_114 hl (k := 1) rfl (by rw [ex107]; rfl) (by decide) rfl (fun ls hl => ?_)
                      refine lv_goto (tgt := 49) hx hb dX12_foretold_117 (by decide) ?_
                      exact lp48ih x107 w106 I90 J92 _ _ _ (by omega) (by omega) (by omega) ⟨(by show 0 ≤ (I90 0 0).toInt ∧ (I90 0 0).toInt ≤ 719; exact hI90ma.1), (by show 0 ≤ (I90 0 1).toInt ∧ (I90 0 1).toInt ≤ 30; exact hI90ma.2.1), (by show 0 ≤ (I90 0 2).toInt ∧ (I90 0 2).toInt ≤ 200; exact hI90ma.2.2)⟩ ⟨(by show 0 ≤ (I90 0 13).toInt ∧ (I90 0 13).toInt ≤ 12; exact hI90mb.1), (by show 0 ≤ (I90 0 14).toInt ∧ (I90 0 14).toInt ≤ 288; exact hI90mb.2)⟩ (by show 0 ≤ (I90 0 75).toInt ∧ (I90 0 75).toInt ≤ 4; exact k94) hI90Atf hI90Atm hI90Nd hI90Asf hI90Ast hI90Asc hI90Ex (by have m9 := zk_mb hb97 hb102; have m8 : (99 : Int) * 999999 ≤ 99000000 := (by decide); exact ⟨by rw [show x107.toNatClampNeg = y49.toNatClampNeg + 1 from z_cln (by omega) (by omega), zd_S_s, zk_V_1 (fun q => by have q1 := q.1; have q2 := q.2; omega) hU96 hM101]; have q9 := lp48H.1; omega, by omega, by omega, by omega⟩) f91 hW hS (lv_sub hl [0, 2, 1, 3, 4, 5, 6] rfl)
                    · have g108 := z_f_eq rfl z_l0 c87
                      have b109 := Int32.toInt_lt x85
                      refine lv_goto (tgt := 114) hx hb dX12_foretold_80 (by decide) ?_
                      obtain ⟨x110, ex110⟩ : ∃ y : Int32, y = y49 + 1 := ⟨_, rfl⟩
                      have tx110 : x110.toInt = y49.toInt + 1 := z_tadd ex110 rfl z_l1 (by omega) (by omega)
                      refine lv_iinc (v := x110) (lv' := [(7, .int x110), (6, .int y13), (4, .long w50), (3, .int x2), (0, .ref (ad 0)), (1, .int a1), (2, .int a2)]) hx hb dX12_foretold_114 hl (k := 0) rfl (by rw [ex110]; rfl) (by decide) rfl (fun ls hl => ?_)
                      refine lv_goto (tgt := 49) hx hb dX12_foretold_117 (by decide) ?_
                      exact lp48ih x110 w50 I51 J52 _ _ _ (by omega) (by omega) (by omega) ⟨(by show 0 ≤ (I51 0 0).toInt ∧ (I51 0 0).toInt ≤ 719; exact lp48ma.1), (by show 0 ≤ (I51 0 1).toInt ∧ (I51 0 1).toInt ≤ 30; exact lp48ma.2.1), (by show 0 ≤ (I51 0 2).toInt ∧ (I51 0 2).toInt ≤ 200; exact lp48ma.2.2)⟩ ⟨(by show 0 ≤ (I51 0 13).toInt ∧ (I51 0 13).toInt ≤ 12; exact lp48mb.1), (by show 0 ≤ (I51 0 14).toInt ∧ (I51 0 14).toInt ≤ 288; exact lp48mb.2)⟩ (by show 0 ≤ (I51 0 75).toInt ∧ (I51 0 75).toInt ≤ 4; exact lp48mr) lp48Atf lp48Atm lp48Nd lp48Asf lp48Ast lp48Asc lp48Ex ⟨by rw [show x110.toNatClampNeg = y49.toNatClampNeg + 1 from z_cln (by omega) (by omega), zd_S_s, zk_V_0 ⟨by omega, by omega⟩]; have q9 := lp48H.1; omega, by omega, by omega, by omega⟩ lp48fr hW hS (lv_sub hl [0, 1, 2, 3, 4, 5, 6] rfl)
            exact lp48 4294967296 (0) w14 I15 J16 _ _ _ (z_m0u _) (by rw [z_l0]; omega) (by rw [z_l0]; omega) ⟨(by show 0 ≤ (I15 0 0).toInt ∧ (I15 0 0).toInt ≤ 719; exact lp12ma.1), (by show 0 ≤ (I15 0 1).toInt ∧ (I15 0 1).toInt ≤ 30; exact lp12ma.2.1), (by show 0 ≤ (I15 0 2).toInt ∧ (I15 0 2).toInt ≤ 200; exact lp12ma.2.2)⟩ ⟨(by show 0 ≤ (I15 0 13).toInt ∧ (I15 0 13).toInt ≤ 12; exact lp12mb.1), (by show 0 ≤ (I15 0 14).toInt ∧ (I15 0 14).toInt ≤ 288; exact lp12mb.2)⟩ (by show 0 ≤ (I15 0 75).toInt ∧ (I15 0 75).toInt ≤ 4; exact lp12mr) lp12Atf lp12Atm lp12Nd lp12Asf lp12Ast lp12Asc lp12Ex ⟨by rw [show (0 : Int32).toNatClampNeg = 0 by decide]; have q9 := lp12T.1; show _ = _ + (0 : Int); omega, by omega, by have q0 := z_l0; omega, by have q0 := z_l0; have q9 := hma.2.1; omega⟩ lp12fr hW hS (lv_sub hl [0, 1, 2, 3, 4, 5, 6] rfl)
      exact lp12 4294967296 x2 0 I J _ _ _ (z_m0u _) (by omega) (by omega) ⟨(by show 0 ≤ (I 0 0).toInt ∧ (I 0 0).toInt ≤ 719; exact hma.1), (by show 0 ≤ (I 0 1).toInt ∧ (I 0 1).toInt ≤ 30; exact hma.2.1), (by show 0 ≤ (I 0 2).toInt ∧ (I 0 2).toInt ≤ 200; exact hma.2.2)⟩ ⟨(by show 0 ≤ (I 0 13).toInt ∧ (I 0 13).toInt ≤ 12; exact hmb.1), (by show 0 ≤ (I 0 14).toInt ∧ (I 0 14).toInt ≤ 288; exact hmb.2)⟩ (by show 0 ≤ (I 0 75).toInt ∧ (I 0 75).toInt ≤ 4; exact hmr) hAtf hAtm hNd hAsf hAst hAsc hEx (by omega) (by have q0 : (0 : Int64).toInt = 0 := (by decide); exact ⟨by rw [show (x2.toInt - x2.toInt).toNat = 0 by omega]; exact q0, by omega, by omega, by omega, by omega⟩) z_fr_0 hW hS (lv_sub hl [0, 1, 2, 3, 4, 5] rfl)
    · have g111 := z_f_nle rfl z_l23 c10
      refine lv_ldcw (v := (-2000000000)) hx hb hown (hts (.constant RX12 482 (-2000000000)) (me_s (me_l (me_l (List.mem_of_getElem? (i := 1) rfl))))) dX12_foretold_28 ?_
      exact z_iret hx hb hr hK hS (Nat.le_of_ble_eq_true rfl) (Nat.le_of_ble_eq_true rfl) hlocks dX12_foretold_31 (shM, ad, I, J, PM ad) hW ⟨I, J, rfl, ⟨(by show 0 ≤ (I 0 0).toInt ∧ (I 0 0).toInt ≤ 719; exact hma.1), (by show 0 ≤ (I 0 1).toInt ∧ (I 0 1).toInt ≤ 30; exact hma.2.1), (by show 0 ≤ (I 0 2).toInt ∧ (I 0 2).toInt ≤ 200; exact hma.2.2)⟩, ⟨(by show 0 ≤ (I 0 13).toInt ∧ (I 0 13).toInt ≤ 12; exact hmb.1), (by show 0 ≤ (I 0 14).toInt ∧ (I 0 14).toInt ≤ 288; exact hmb.2)⟩, (by show 0 ≤ (I 0 75).toInt ∧ (I 0 75).toInt ≤ 4; exact hmr), hAtf, hAtm, hNd, hAsf, hAst, hAsc, hEx, z_fr_0, (Or.inr ⟨by omega, by decide⟩)⟩
  · have h112 := h3
    have z113 := z_l1
    have z114 := z_l12
    refine lv_if_eq (tgt := 28) hx hb dX12_foretold_15 (by decide) (fun c115 => ?_) (fun c115 => absurd (by decide) c115)
    refine lv_ldcw (v := (-2000000000)) hx hb hown (hts (.constant RX12 482 (-2000000000)) (me_s (me_l (me_l (List.mem_of_getElem? (i := 1) rfl))))) dX12_foretold_28 ?_
    exact z_iret hx hb hr hK hS (Nat.le_of_ble_eq_true rfl) (Nat.le_of_ble_eq_true rfl) hlocks dX12_foretold_31 (shM, ad, I, J, PM ad) hW ⟨I, J, rfl, ⟨(by show 0 ≤ (I 0 0).toInt ∧ (I 0 0).toInt ≤ 719; exact hma.1), (by show 0 ≤ (I 0 1).toInt ∧ (I 0 1).toInt ≤ 30; exact hma.2.1), (by show 0 ≤ (I 0 2).toInt ∧ (I 0 2).toInt ≤ 200; exact hma.2.2)⟩, ⟨(by show 0 ≤ (I 0 13).toInt ∧ (I 0 13).toInt ≤ 12; exact hmb.1), (by show 0 ≤ (I 0 14).toInt ∧ (I 0 14).toInt ≤ 288; exact hmb.2)⟩, (by show 0 ≤ (I 0 75).toInt ∧ (I 0 75).toInt ≤ 4; exact hmr), hAtf, hAtm, hNd, hAsf, hAst, hAsc, hEx, z_fr_0, (Or.inr ⟨by omega, by decide⟩)⟩
end SG60zh
