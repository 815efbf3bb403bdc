section SG60zg


/-! PORTS -/
noncomputable def zk_rX (I1 I : z_I) (n : Nat) (v0 : Int32) : Prop := ∀ j, I1 42 j = if j = n then v0 else I 42 j
noncomputable def zk_rM (I1 I : z_I) (n : Nat) (v0 : Int32) : Prop := ∀ j, I1 52 j = if j = n then v0 else I 52 j
noncomputable def zk_sX (I1 I : z_I) : Prop := ∀ j, I1 42 j = I 42 j
noncomputable def zk_sM (I1 I : z_I) : Prop := ∀ j, I1 52 j = I 52 j
/-- the same loads in the PORTS on both sides -/
noncomputable def zk_RP (Ix Im : z_I) : Prop := ∀ j : Nat, (j : Int) < (Ix 41 10).toInt → Ix 42 j = Im 52 j ∧ 0 ≤ (Ix 42 j).toInt ∧ (Ix 42 j).toInt ≤ 50
theorem zk_RP_same {Ix Im Ix1 Im1 : z_I} (h : zk_RP Ix Im) (eN : (Ix1 41 10).toInt = (Ix 41 10).toInt) (hx : zk_sX Ix1 Ix) (hm : zk_sM Im1 Im) : zk_RP Ix1 Im1 := fun j hj => by
  rw [hx j, hm j]
  exact h j (by omega)
theorem zk_RP_port {Ix Im Ix1 Im1 : z_I} {n n1 : Nat} {a b : Int32} (h : zk_RP Ix Im) (eN : (Ix1 41 10).toInt = (Ix 41 10).toInt + 1) (en : (n : Int) = (Ix 41 10).toInt) (en1 : n1 = n) (hx : zk_rX Ix1 Ix n a) (hm : zk_rM Im1 Im n1 b) (ea : b = a) (hb : 0 ≤ a.toInt ∧ a.toInt ≤ 50) : zk_RP Ix1 Im1 := fun j hj => by
  subst en1 ea
  rw [hx j, hm j]
  by_cases q : j = n1
  · rw [if_pos q, if_pos q]
    exact ⟨rfl, hb⟩
  · rw [if_neg q, if_neg q]
    exact h j (by omega)
theorem zk_RP_m {Ix Im : z_I} (h : zk_RP Ix Im) (hn : (Ix 41 10).toInt = (Im 0 75).toInt) : ∀ j : Nat, (j : Int) < (Im 0 75).toInt → 0 ≤ (Im 52 j).toInt ∧ (Im 52 j).toInt ≤ 50 := fun j hj => by
  obtain ⟨e, q⟩ := h j (by omega)
  rw [← e]
  exact q
noncomputable def L_X4_addPort_k : z_L := [(42, 999), (41, 10)]
set_option maxHeartbeats 8000000 in
set_option maxRecDepth 100000 in
theorem sx_X4_addPort_k (l : Launch) (G : z_G) (ad : Nat → Nat) (c : z_C) (I : z_I) (hL : z_iL I) (a1 : Int32) : z_M l yX4_addPort wsX4_addPort { frames := 1, cells := 0, slots := 0, locals := 12 } [.ref (ad 41), .int a1] G (shC c, ad, I, JX, PC c ad) (fun r u1 => ∃ I1 : z_I, u1 = (shC c, ad, I1, JX, PC c ad) ∧ z_iL I1 ∧ z_fr L_X4_addPort_k I1 I ∧ ((((I 41 10).toInt < 4) ∧ r.toInt = (I 41 10).toInt ∧ (I1 41 10).toInt = (I 41 10).toInt + 1 ∧ zk_rX I1 I (I 41 10).toNatClampNeg a1) ∨ (¬ ((I 41 10).toInt < 4) ∧ r.toInt = -1 ∧ (I1 41 10).toInt = (I 41 10).toInt ∧ zk_sX I1 I))) 0 0 := by
  intro sz
  refine z_headQ (cc := cX4_addPort) (maxL := 2) (ret := (some .int)) (by decide) rfl (Nat.le_of_ble_eq_true rfl) ?_
  intro p e s m below meth c0 ls hIn hK hsz hW hl
  obtain ⟨hx, hb, hr, hml, hown, hts, hlocks, hname⟩ := hIn
  subst hsz
  have hown : s.vm.findClass RX4 = some m.cls := hown
  have hA : ∀ q : Nat, s.heap.size ≤ q → z_A (shC c, ad, I, JX, PC c ad) s.heap.size q := fun q h => Or.inr h
  generalize hAe : z_A (shC c, ad, I, JX, PC c ad) s.heap.size = A at *
  have hS : va_S A s.heap s.heap [] := va_S.rf
  have hl : lv_has ls 2 [(0, .ref (ad 41)), (1, .int a1)] := hl
  refine lv_aload_n hx hb dX4_addPort_0 rfl (lv_at hl 0 rfl) ?_
  have r1 : 0 ≤ (I 41 10).toInt ∧ (I 41 10).toInt ≤ 4 := hL
  refine z_get (T := TX4) (N := 13) (ci := 4) (i := 41) (v := .int (I 41 10)) hx hb hts zj_X4_addPort_X4 hown hK hW rfl rfl 10 (by decide) (hts (.fieldLink RX4 44 "PetrolBoard$Loads" "ports" "I") (me_s (me_l (List.mem_of_getElem? (i := 0) rfl)))) (fun _ h => h) rfl dX4_addPort_1 ?_
  refine lv_iconst (v := 4) hx hb dX4_addPort_4 (by decide) ?_
  refine lv_icmp_lt (tgt := 10) hx hb dX4_addPort_5 (by decide) (fun c2 => ?_) (fun c2 => ?_)
  · have g3 := z_f_lt rfl z_l4 c2
    refine lv_aload_n hx hb dX4_addPort_10 rfl (lv_at hl 0 rfl) ?_
    refine z_get (T := TX4) (N := 13) (ci := 4) (i := 41) (v := .ref (ad 42)) hx hb hts zj_X4_addPort_X4 hown hK hW rfl rfl 0 (by decide) (hts (.fieldLink RX4 9 "PetrolBoard$Loads" "inPort" "[I") (me_s (me_l (List.mem_of_getElem? (i := 1) rfl)))) (fun _ h => h) rfl dX4_addPort_11 ?_
    refine lv_aload_n hx hb dX4_addPort_14 rfl (lv_at hl 0 rfl) ?_
    refine z_get (T := TX4) (N := 13) (ci := 4) (i := 41) (v := .int (I 41 10)) hx hb hts zj_X4_addPort_X4 hown hK hW rfl rfl 10 (by decide) (hts (.fieldLink RX4 44 "PetrolBoard$Loads" "ports" "I") (me_s (me_l (List.mem_of_getElem? (i := 0) rfl)))) (fun _ h => h) rfl dX4_addPort_15 ?_
    refine lv_iload_n hx hb dX4_addPort_18 rfl (lv_at hl 1 rfl) ?_
    refine z_iast (i := 42) hx hb hK hW hS rfl (z_ix rfl (by omega) (by omega)) dX4_addPort_19 (fun H locs hz1 hW hS => ?_)
    obtain ⟨I4, eI4⟩ : ∃ K : z_I, K = z_up I 42 (I 41 10).toNatClampNeg a1 := ⟨_, rfl⟩
    rw [← eI4] at hW
    have f5 := z_fr_a z_fr_0 (show z_wa L_X4_addPort_k 42 = true by decide) eI4
    refine lv_aload_n hx hb dX4_addPort_20 rfl (lv_at hl 0 rfl) ?_
    refine lv_dup hx hb dX4_addPort_21 rfl ?_
    refine z_get (T := TX4) (N := 13) (ci := 4) (i := 41) (v := .int (I 41 10)) hx hb hts zj_X4_addPort_X4 hown hK hW rfl rfl 10 (by decide) (hts (.fieldLink RX4 44 "PetrolBoard$Loads" "ports" "I") (me_s (me_l (List.mem_of_getElem? (i := 0) rfl)))) (fun _ h => h) (congrArg Value.int (by rw [eI4, z_up_n (by decide)])) dX4_addPort_22 ?_
    refine lv_iconst (v := 1) hx hb dX4_addPort_25 (by decide) ?_
    refine lv_iadd hx hb dX4_addPort_26 ?_
    refine lv_topi (fun x6 ex6 => ?_)
    have tx6 : x6.toInt = (I 41 10).toInt + 1 := z_tadd ex6 rfl z_l1 (by omega) (by omega)
    refine z_put (T := TX4) (N := 13) (ci := 4) (i := 41) (v := .int x6) (I1 := z_up I4 41 10 x6) (J1 := JX) (P1 := PC c ad) hx hb hts zj_X4_addPort_X4 tyX4 tyX4_ok nmX4 hown hK hW hS rfl rfl 10 (by decide) (hts (.fieldLink RX4 44 "PetrolBoard$Loads" "ports" "I") (me_s (me_l (List.mem_of_getElem? (i := 0) rfl)))) (fun _ h => h) rfl rfl rfl (by first | rfl | exact congrArg _ z_up_s) (fun a b h ty => z_vI h ty) dX4_addPort_27 (fun H locs hz1 hW hS => ?_)
    obtain ⟨I7, eI7⟩ : ∃ K : z_I, K = z_up I4 41 10 x6 := ⟨_, rfl⟩
    rw [← eI7] at hW
    have f8 := z_fr_k f5 (show z_wr L_X4_addPort_k 41 10 = true by decide) eI7
    refine lv_aload_n hx hb dX4_addPort_30 rfl (lv_at hl 0 rfl) ?_
    refine z_get (T := TX4) (N := 13) (ci := 4) (i := 41) (v := .int x6) hx hb hts zj_X4_addPort_X4 hown hK hW rfl rfl 10 (by decide) (hts (.fieldLink RX4 44 "PetrolBoard$Loads" "ports" "I") (me_s (me_l (List.mem_of_getElem? (i := 0) rfl)))) (fun _ h => h) (congrArg Value.int (by rw [eI7, z_up_s])) dX4_addPort_31 ?_
    refine lv_iconst (v := 1) hx hb dX4_addPort_34 (by decide) ?_
    refine lv_isub hx hb dX4_addPort_35 ?_
    refine lv_topi (fun x9 ex9 => ?_)
    have tx9 : x9.toInt = x6.toInt - 1 := z_tsub ex9 rfl z_l1 (by omega) (by omega)
    exact z_iret hx hb hr hK hS (Nat.le_of_ble_eq_true rfl) (Nat.le_of_ble_eq_true rfl) hlocks dX4_addPort_36 (shC c, ad, I7, JX, PC c ad) hW ⟨I7, rfl, (by show 0 ≤ (I7 41 10).toInt ∧ (I7 41 10).toInt ≤ 4; rw [eI7, z_up_s]; omega), f8, (Or.inl ⟨by omega, by omega, (by have q9 : (I7 41 10) = x6 := (by rw [eI7, z_up_s]); show (I7 41 10).toInt = (I 41 10).toInt + 1; rw [q9]; first | done | omega), (fun j => by rw [eI7, z_up_n (by decide), eI4, z_up_j])⟩)⟩
  · have g10 := z_f_nlt rfl z_l4 c2
    refine lv_iconst (v := (-1)) hx hb dX4_addPort_8 (by decide) ?_
    exact z_iret hx hb hr hK hS (Nat.le_of_ble_eq_true rfl) (Nat.le_of_ble_eq_true rfl) hlocks dX4_addPort_9 (shC c, ad, I, JX, PC c ad) hW ⟨I, rfl, (by show 0 ≤ (I 41 10).toInt ∧ (I 41 10).toInt ≤ 4; exact hL), z_fr_0, (Or.inr ⟨by omega, by decide, (by show (I 41 10).toInt = (I 41 10).toInt; omega), (fun j => rfl)⟩)⟩
noncomputable def L_X11_port_k : z_L := [(42, 999), (41, 10)]
set_option maxHeartbeats 8000000 in
set_option maxRecDepth 100000 in
theorem sx_X11_port_k (l : Launch) (G : z_G) (ad : Nat → Nat) (c : z_C) (I : z_I) (hL : z_iL I) (a1 : Int32) (hc : z_okc c) (h10 : c.1 ≤ 10) : z_M l yX11_port wsX11_port { frames := 2, cells := 0, slots := 0, locals := 34 } [.ref (ad 0), .int a1] G (shC c, ad, I, JX, PC c ad) (fun r u1 => ∃ I1 : z_I, u1 = (shC c, ad, I1, JX, PC c ad) ∧ z_iL I1 ∧ z_fr L_X11_port_k I1 I ∧ (((0 ≤ a1.toInt ∧ a1.toInt ≤ 50 ∧ (I 41 10).toInt < 4) ∧ r.toInt = (I 41 10).toInt ∧ (I1 41 10).toInt = (I 41 10).toInt + 1 ∧ zk_rX I1 I (I 41 10).toNatClampNeg a1) ∨ (¬ (0 ≤ a1.toInt ∧ a1.toInt ≤ 50 ∧ (I 41 10).toInt < 4) ∧ r.toInt = -1 ∧ (I1 41 10).toInt = (I 41 10).toInt ∧ zk_sX I1 I))) 0 0 := by
  intro sz
  refine z_headQ (cc := cX11_port) (maxL := 2) (ret := (some .int)) (by decide) rfl (Nat.le_of_ble_eq_true rfl) ?_
  intro p e s m below meth c0 ls hIn hK hsz hW hl
  obtain ⟨hx, hb, hr, hml, hown, hts, hlocks, hname⟩ := hIn
  subst hsz
  have hown : s.vm.findClass RX11 = some m.cls := hown
  have hA : ∀ q : Nat, s.heap.size ≤ q → z_A (shC c, ad, I, JX, PC c ad) s.heap.size q := fun q h => Or.inr h
  generalize hAe : z_A (shC c, ad, I, JX, PC c ad) s.heap.size = A at *
  have hS : va_S A s.heap s.heap [] := va_S.rf
  have hl : lv_has ls 2 [(0, .ref (ad 0)), (1, .int a1)] := hl
  refine lv_iload_n hx hb dX11_port_0 rfl (lv_at hl 1 rfl) ?_
  refine lv_iconst (v := 0) hx hb dX11_port_1 (by decide) ?_
  refine lv_bipush (v := 50) hx hb dX11_port_2 (by decide) ?_
  refine z_ci hW hS hA (va_runS (As := [.int a1, .int 0, .int 50]) (rest := []) ⟨hx, hb, hml, hown, hts⟩ (sx_X11_within_e l G ad c I  a1 0 50 _) (va_cwS 3 hts gX11_port_X11_within rfl rfl rfl (by decide +kernel) ⟨Nat.le_of_ble_eq_true rfl, Nat.le_of_ble_eq_true rfl⟩) (z_preS hK hW) rfl rfl hl.1 rfl (lv_room (Nat.le_of_ble_eq_true rfl)) dX11_port_4 ⟨Nat.le_of_ble_eq_true rfl, Nat.le_of_ble_eq_true rfl⟩) (fun r u1 H locs hp hW hS => ?_)
  obtain ⟨e9, hp⟩ := hp
  rw [e9] at hW
  rcases hp with ⟨rfl, h1⟩ | ⟨rfl, h1⟩
  · have h2 := h1
    have z3 := z_l0
    have z4 := z_l50
    refine lv_if_ne (tgt := 12) hx hb dX11_port_7 (by decide) (fun c5 => ?_) (fun c5 => absurd c5 (by decide))
    refine lv_aload_n hx hb dX11_port_12 rfl (lv_at hl 0 rfl) ?_
    refine z_get (T := TX11) (N := 13) (ci := 11) (i := 0) (v := .ref (ad 41)) hx hb hts zj_X11_port_X11 hown hK hW rfl rfl 10 (by decide) (hts (.fieldLink RX11 61 "PetrolBoard" "loads" "LPetrolBoard$Loads;") (me_s (me_l (me_l (List.mem_of_getElem? (i := 0) rfl))))) (fun _ h => h) rfl dX11_port_13 ?_
    refine lv_iload_n hx hb dX11_port_16 rfl (lv_at hl 1 rfl) ?_
    refine z_ci hW hS hA (va_runV (As := [.int a1]) (rest := []) ⟨hx, hb, hml, hown, hts⟩ (sx_X4_addPort_k l G ad c I (by show 0 ≤ (I 41 10).toInt ∧ (I 41 10).toInt ≤ 4; exact hL) a1 _) (cwV 1 hts gX11_port_X4_addPort rfl rfl rfl (by decide +kernel) ⟨Nat.le_of_ble_eq_true rfl, Nat.le_of_ble_eq_true rfl⟩) (z_preV (i := 41) hK hW rfl rfl) rfl rfl hl.1 rfl (lv_room (Nat.le_of_ble_eq_true rfl)) dX11_port_17 ⟨Nat.le_of_ble_eq_true rfl, Nat.le_of_ble_eq_true rfl⟩) (fun r u1 H locs hp hW hS => ?_)
    obtain ⟨I6, e9, hI6L, fI6, hp⟩ := hp
    rw [e9] at hW
    have f7 := z_fr_sub (L := L_X11_port_k) z_fr_0 fI6 (by decide)
    refine lv_topi (fun x8 ex8 => ?_)
    rw [← ex8] at hp
    rcases hp with ⟨h9, h11, h12, h13⟩ | ⟨h9, h11, h12, h13⟩
    · exact z_iret hx hb hr hK hS (Nat.le_of_ble_eq_true rfl) (Nat.le_of_ble_eq_true rfl) hlocks dX11_port_20 (shC c, ad, I6, JX, PC c ad) hW ⟨I6, rfl, (by show 0 ≤ (I6 41 10).toInt ∧ (I6 41 10).toInt ≤ 4; exact hI6L), f7, (Or.inl ⟨by omega, by omega, (by show (I6 41 10).toInt = (I 41 10).toInt + 1; omega), h13⟩)⟩
    · exact z_iret hx hb hr hK hS (Nat.le_of_ble_eq_true rfl) (Nat.le_of_ble_eq_true rfl) hlocks dX11_port_20 (shC c, ad, I6, JX, PC c ad) hW ⟨I6, rfl, (by show 0 ≤ (I6 41 10).toInt ∧ (I6 41 10).toInt ≤ 4; exact hI6L), f7, (Or.inr ⟨by omega, by omega, (by show (I6 41 10).toInt = (I 41 10).toInt; omega), h13⟩)⟩
  · have h14 := h1
    have z15 := z_l0
    have z16 := z_l50
    refine lv_if_ne (tgt := 12) hx hb dX11_port_7 (by decide) (fun c17 => absurd (by decide) c17) (fun c17 => ?_)
    refine lv_iconst (v := (-1)) hx hb dX11_port_10 (by decide) ?_
    exact z_iret hx hb hr hK hS (Nat.le_of_ble_eq_true rfl) (Nat.le_of_ble_eq_true rfl) hlocks dX11_port_11 (shC c, ad, I, JX, PC c ad) hW ⟨I, rfl, (by show 0 ≤ (I 41 10).toInt ∧ (I 41 10).toInt ≤ 4; exact hL), z_fr_0, (Or.inr ⟨by omega, by decide, (by show (I 41 10).toInt = (I 41 10).toInt; omega), (fun j => rfl)⟩)⟩
noncomputable def L_X12_port_k : z_L := [(0, 75), (52, 999)]
set_option maxHeartbeats 8000000 in
set_option maxRecDepth 100000 in
theorem sx_X12_port_k (l : Launch) (G : z_G) (ad : Nat → Nat) (I : z_I) (J : z_J) (hmr : z_imr I) (hAld : z_rg 52 0 50 I) (a1 : Int32) : z_M l yX12_port wsX12_port { frames := 2, cells := 0, slots := 0, locals := 34 } [.ref (ad 0), .int a1] G (shM, ad, I, J, PM ad) (fun r u1 => ∃ (I1 : z_I) (J1 : z_J), u1 = (shM, ad, I1, J1, PM ad) ∧ z_imr I1 ∧ z_rg 52 0 50 I1 ∧ z_fr L_X12_port_k I1 I ∧ (((0 ≤ a1.toInt ∧ a1.toInt ≤ 50 ∧ (I 0 75).toInt < 4) ∧ r.toInt = (I 0 75).toInt ∧ (I1 0 75).toInt = (I 0 75).toInt + 1 ∧ zk_rM I1 I (I 0 75).toNatClampNeg a1) ∨ (¬ (0 ≤ a1.toInt ∧ a1.toInt ≤ 50 ∧ (I 0 75).toInt < 4) ∧ r.toInt = -1 ∧ (I1 0 75).toInt = (I 0 75).toInt ∧ zk_sM I1 I))) 0 0 := by
  intro sz
  refine z_headQ (cc := cX12_port) (maxL := 2) (ret := (some .int)) (by decide) rfl (Nat.le_of_ble_eq_true rfl) ?_
  intro p e s m below meth c0 ls hIn hK hsz hW hl
  obtain ⟨hx, hb, hr, hml, hown, hts, hlocks, hname⟩ := hIn
  subst hsz
  have hown : s.vm.findClass RX12 = some m.cls := hown
  have hA : ∀ q : Nat, s.heap.size ≤ q → z_A (shM, ad, I, J, PM ad) s.heap.size q := fun q h => Or.inr h
  generalize hAe : z_A (shM, ad, I, J, PM ad) s.heap.size = A at *
  have hS : va_S A s.heap s.heap [] := va_S.rf
  have hl : lv_has ls 2 [(0, .ref (ad 0)), (1, .int a1)] := hl
  refine lv_iload_n hx hb dX12_port_0 rfl (lv_at hl 1 rfl) ?_
  refine lv_iconst (v := 0) hx hb dX12_port_1 (by decide) ?_
  refine lv_bipush (v := 50) hx hb dX12_port_2 (by decide) ?_
  refine z_ci hW hS hA (va_runS (As := [.int a1, .int 0, .int 50]) (rest := []) ⟨hx, hb, hml, hown, hts⟩ (sx_X12_within_e l G ad I J  a1 0 50 _) (va_cwS 3 hts gX12_port_X12_within rfl rfl rfl (by decide +kernel) ⟨Nat.le_of_ble_eq_true rfl, Nat.le_of_ble_eq_true rfl⟩) (z_preS hK hW) rfl rfl hl.1 rfl (lv_room (Nat.le_of_ble_eq_true rfl)) dX12_port_4 ⟨Nat.le_of_ble_eq_true rfl, Nat.le_of_ble_eq_true rfl⟩) (fun r u1 H locs hp hW hS => ?_)
  obtain ⟨e9, hp⟩ := hp
  rw [e9] at hW
  rcases hp with ⟨rfl, h1⟩ | ⟨rfl, h1⟩
  · have h2 := h1
    have z3 := z_l0
    have z4 := z_l50
    refine lv_if_eq (tgt := 18) hx hb dX12_port_7 (by decide) (fun c5 => absurd c5 (by decide)) (fun c5 => ?_)
    refine lv_aload_n hx hb dX12_port_10 rfl (lv_at hl 0 rfl) ?_
    have r6 : 0 ≤ (I 0 75).toInt ∧ (I 0 75).toInt ≤ 4 := hmr
    refine z_get (T := TX12) (N := 96) (ci := 12) (i := 0) (v := .int (I 0 75)) hx hb hts zj_X12_port_X12 hown hK hW rfl rfl 75 (by decide) (hts (.fieldLink RX12 493 "PetrolBoardModel" "ports" "I") (me_s (me_l (List.mem_of_getElem? (i := 0) rfl)))) (fun _ h => h) rfl dX12_port_11 ?_
    refine lv_iconst (v := 4) hx hb dX12_port_14 (by decide) ?_
    refine lv_icmp_ne (tgt := 20) hx hb dX12_port_15 (by decide) (fun c7 => ?_) (fun c7 => ?_)
    · have g8 := z_f_ne rfl z_l4 c7
      refine lv_aload_n hx hb dX12_port_20 rfl (lv_at hl 0 rfl) ?_
      refine z_get (T := TX12) (N := 96) (ci := 12) (i := 0) (v := .ref (ad 52)) hx hb hts zj_X12_port_X12 hown hK hW rfl rfl 76 (by decide) (hts (.fieldLink RX12 172 "PetrolBoardModel" "loadsOf" "[I") (me_s (me_l (List.mem_of_getElem? (i := 1) rfl)))) (fun _ h => h) rfl dX12_port_21 ?_
      refine lv_aload_n hx hb dX12_port_24 rfl (lv_at hl 0 rfl) ?_
      refine z_get (T := TX12) (N := 96) (ci := 12) (i := 0) (v := .int (I 0 75)) hx hb hts zj_X12_port_X12 hown hK hW rfl rfl 75 (by decide) (hts (.fieldLink RX12 493 "PetrolBoardModel" "ports" "I") (me_s (me_l (List.mem_of_getElem? (i := 0) rfl)))) (fun _ h => h) rfl dX12_port_25 ?_
      refine lv_iload_n hx hb dX12_port_28 rfl (lv_at hl 1 rfl) ?_
      refine z_iast (i := 52) hx hb hK hW hS rfl (z_ix rfl (by omega) (by omega)) dX12_port_29 (fun H locs hz1 hW hS => ?_)
      obtain ⟨I9, eI9⟩ : ∃ K : z_I, K = z_up I 52 (I 0 75).toNatClampNeg a1 := ⟨_, rfl⟩
      rw [← eI9] at hW
      have f10 := z_fr_a z_fr_0 (show z_wa L_X12_port_k 52 = true by decide) eI9
      have a11 := z_rg_a hAld (by omega) eI9
      refine lv_aload_n hx hb dX12_port_30 rfl (lv_at hl 0 rfl) ?_
      refine lv_dup hx hb dX12_port_31 rfl ?_
      refine z_get (T := TX12) (N := 96) (ci := 12) (i := 0) (v := .int (I 0 75)) hx hb hts zj_X12_port_X12 hown hK hW rfl rfl 75 (by decide) (hts (.fieldLink RX12 493 "PetrolBoardModel" "ports" "I") (me_s (me_l (List.mem_of_getElem? (i := 0) rfl)))) (fun _ h => h) (congrArg Value.int (by rw [eI9, z_up_n (by decide)])) dX12_port_32 ?_
      refine lv_iconst (v := 1) hx hb dX12_port_35 (by decide) ?_
      refine lv_iadd hx hb dX12_port_36 ?_
      refine lv_topi (fun x12 ex12 => ?_)
      have tx12 : x12.toInt = (I 0 75).toInt + 1 := z_tadd ex12 rfl z_l1 (by omega) (by omega)
      refine z_put (T := TX12) (N := 96) (ci := 12) (i := 0) (v := .int x12) (I1 := z_up I9 0 75 x12) (J1 := J) (P1 := PM ad) hx hb hts zj_X12_port_X12 tyX12 tyX12_ok nmX12 hown hK hW hS rfl rfl 75 (by decide) (hts (.fieldLink RX12 493 "PetrolBoardModel" "ports" "I") (me_s (me_l (List.mem_of_getElem? (i := 0) rfl)))) (fun _ h => h) rfl rfl rfl (by first | rfl | exact congrArg _ z_up_s) (fun a b h ty => z_vI h ty) dX12_port_37 (fun H locs hz1 hW hS => ?_)
      obtain ⟨I13, eI13⟩ : ∃ K : z_I, K = z_up I9 0 75 x12 := ⟨_, rfl⟩
      rw [← eI13] at hW
      have f14 := z_fr_k f10 (show z_wr L_X12_port_k 0 75 = true by decide) eI13
      have a15 := z_rg_n a11 (by decide) eI13
      refine lv_aload_n hx hb dX12_port_40 rfl (lv_at hl 0 rfl) ?_
      refine z_get (T := TX12) (N := 96) (ci := 12) (i := 0) (v := .int x12) hx hb hts zj_X12_port_X12 hown hK hW rfl rfl 75 (by decide) (hts (.fieldLink RX12 493 "PetrolBoardModel" "ports" "I") (me_s (me_l (List.mem_of_getElem? (i := 0) rfl)))) (fun _ h => h) (congrArg Value.int (by rw [eI13, z_up_s])) dX12_port_41 ?_
      refine lv_iconst (v := 1) hx hb dX12_port_44 (by decide) ?_
      refine lv_isub hx hb dX12_port_45 ?_
      refine lv_topi (fun x16 ex16 => ?_)
      have tx16 : x16.toInt = x12.toInt - 1 := z_tsub ex16 rfl z_l1 (by omega) (by omega)
      exact z_iret hx hb hr hK hS (Nat.le_of_ble_eq_true rfl) (Nat.le_of_ble_eq_true rfl) hlocks dX12_port_46 (shM, ad, I13, J, PM ad) hW ⟨I13, J, rfl, (by show 0 ≤ (I13 0 75).toInt ∧ (I13 0 75).toInt ≤ 4; rw [eI13, z_up_s]; omega), a15, f14, (Or.inl ⟨by omega, by omega, (by have q9 : (I13 0 75) = x12 := (by rw [eI13, z_up_s]); show (I13 0 75).toInt = (I 0 75).toInt + 1; rw [q9]; first | done | omega), (fun j => by rw [eI13, z_up_n (by decide), eI9, z_up_j])⟩)⟩
    · have g17 := z_f_eq rfl z_l4 c7
      refine lv_iconst (v := (-1)) hx hb dX12_port_18 (by decide) ?_
      exact z_iret hx hb hr hK hS (Nat.le_of_ble_eq_true rfl) (Nat.le_of_ble_eq_true rfl) hlocks dX12_port_19 (shM, ad, I, J, PM ad) hW ⟨I, J, rfl, (by show 0 ≤ (I 0 75).toInt ∧ (I 0 75).toInt ≤ 4; exact hmr), hAld, z_fr_0, (Or.inr ⟨by omega, by decide, (by show (I 0 75).toInt = (I 0 75).toInt; omega), (fun j => rfl)⟩)⟩
  · have h18 := h1
    have z19 := z_l0
    have z20 := z_l50
    refine lv_if_eq (tgt := 18) hx hb dX12_port_7 (by decide) (fun c21 => ?_) (fun c21 => absurd (by decide) c21)
    refine lv_iconst (v := (-1)) hx hb dX12_port_18 (by decide) ?_
    exact z_iret hx hb hr hK hS (Nat.le_of_ble_eq_true rfl) (Nat.le_of_ble_eq_true rfl) hlocks dX12_port_19 (shM, ad, I, J, PM ad) hW ⟨I, J, rfl, (by show 0 ≤ (I 0 75).toInt ∧ (I 0 75).toInt ≤ 4; exact hmr), hAld, z_fr_0, (Or.inr ⟨by omega, by decide, (by show (I 0 75).toInt = (I 0 75).toInt; omega), (fun j => rfl)⟩)⟩
end SG60zg
section SG60zh


/-! stocks foretold -/
theorem zk_R_c {mo td mo1 td1 : Nat → Int} {m k : Int} {n : Nat} {u r : Int} {a a1 : Nat → Int} (hc : ∀ j, j < n → mo1 j = mo j ∧ td1 j = td j) (ha : ∀ j, j < n → a1 j = a j) (h : zi_R mo td m k n u a r) : zi_R mo1 td1 m k n u a1 r := by
  obtain ⟨b, hB, q⟩ := h
  refine ⟨b, zi_B_c hc hB, ?_⟩
  rcases q with q | ⟨j, q1, q2, q3⟩
  · exact Or.inl q
  · exact Or.inr ⟨j, q1, q2, by rw [ha j q2]; exact q3⟩
/-- what is told, as a number -/
noncomputable def zk_f (mo td : Nat → Int) (m k : Int) (n : Nat) (u : Int) (a : Nat → Int) : Int := Classical.epsilon (fun r => zi_R mo td m k n u a r)
theorem zk_f_e {mo td : Nat → Int} {m k : Int} {n : Nat} {u r : Int} {a : Nat → Int} (h : zi_R mo td m k n u a r) : r = zk_f mo td m k n u a :=
  zi_R_u h (Classical.epsilon_spec (p := fun r => zi_R mo td m k n u a r) ⟨r, h⟩) (fun _ _ => ⟨rfl, rfl⟩) (fun _ _ => rfl)
theorem zk_f_c {mo td mo1 td1 : Nat → Int} {m k : Int} {n : Nat} {u : Int} {a a1 : Nat → Int} (hc : ∀ j, j < n → mo1 j = mo j ∧ td1 j = td j) (ha : ∀ j, j < n → a1 j = a j) : zk_f mo1 td1 m k n u a1 = zk_f mo td m k n u a := by
  unfold zk_f
  refine congrArg Classical.epsilon (funext fun r => propext ⟨fun h => ?_, fun h => ?_⟩)
  · exact zk_R_c (fun j hj => ⟨(hc j hj).1.symm, (hc j hj).2.symm⟩) (fun j hj => (ha j hj).symm) h
  · exact zk_R_c hc ha h
noncomputable def zk_ax (c : z_C) (I : z_I) (t m k : Int) : Int := zk_f (zi_mo I) (zi_td I) m k c.2.1 (zi_us t) (zi_ax c I t)
noncomputable def zk_am (K : z_I) (t m k : Int) : Int := zk_f (zi_km K) (zi_kt K) m k (K 0 13).toNatClampNeg (zi_us t) (zi_am K t)
theorem zk_a_e {c : z_C} {I K : z_I} {t m k : Int} (h : z_OW c I K) (hn : (K 0 13).toNatClampNeg = c.2.1) (ht : 0 ≤ t) : zk_ax c I t m k = zk_am K t m k := by
  unfold zk_ax zk_am
  rw [hn]
  refine zk_f_c (fun j hj => ?_) (fun j hj => zi_axm h ht j hj)
  obtain ⟨rs, F0, g1, g2, g3, _⟩ := h j hj
  exact ⟨g1, g3⟩
theorem zk_xc {c : z_C} {I K : z_I} {t : Int} (h : ∀ a q, 200 ≤ a → K a q = I a q) : zi_ax c K t = zi_ax c I t := funext fun j => by
  have e4 : zi_hd K (200 + 5 * j) = zi_hd I (200 + 5 * j) := funext fun q => by unfold zi_hd; rw [h _ _ (by omega)]
  have e5 : zi_nu K (200 + 5 * j) = zi_nu I (200 + 5 * j) := funext fun q => by unfold zi_nu; rw [h _ _ (by omega)]
  unfold zi_ax
  rw [e4, e5]
theorem zk_ax_c {c : z_C} {I K : z_I} {t m k : Int} (h : ∀ a q, 200 ≤ a → K a q = I a q) : zk_ax c K t m k = zk_ax c I t m k := by
  have e1 : zi_mo K = zi_mo I := funext fun j => by unfold zi_mo; rw [h _ _ (by omega)]
  have e2 : zi_td K = zi_td I := funext fun j => by unfold zi_td; rw [h _ _ (by omega)]
  unfold zk_ax
  rw [e1, e2, zk_xc h]
theorem zk_A_e {c : z_C} {I K : z_I} {t m k r : Int} (e : ∀ a q, 200 ≤ a → K a q = I a q) (h : zi_R (zi_mo K) (zi_td K) m k c.2.1 (zi_us t) (zi_ax c K t) r) : r = zk_ax c I t m k := (zk_f_e h).trans (zk_ax_c e)
theorem zk_A_b {c : z_C} {I K : z_I} {t m k r : Int} (hb : ∀ q, q < c.2.1 → 0 ≤ zi_ax c I t q ∧ zi_ax c I t q ≤ 999999) (e : ∀ a q, 200 ≤ a → K a q = I a q) (h : zi_R (zi_mo K) (zi_td K) m k c.2.1 (zi_us t) (zi_ax c K t) r) : 0 ≤ r ∧ r ≤ 999999 := zi_R_b h zi_us_b (fun j hj => by rw [zk_xc e]; exact hb j hj)
theorem zk_am_x {I K : z_I} {t : Int} (h : ∀ j, K 11 j = I 11 j ∧ K 12 j = I 12 j ∧ K 13 j = I 13 j ∧ K 14 j = I 14 j ∧ K 15 j = I 15 j ∧ K 16 j = I 16 j) : zi_am K t = zi_am I t := funext fun j => by
  have e4 : ∀ q, zi_kh K q = zi_kh I q := fun q => funext fun i => by unfold zi_kh; rw [(h _).2.2.2.2.1]
  have e5 : ∀ q, zi_kn K q = zi_kn I q := fun q => funext fun i => by unfold zi_kn; rw [(h _).2.2.2.2.2]
  unfold zi_am
  rw [e4, e5, (h j).1, (h j).2.1]
theorem zk_am_c {I K : z_I} {t m k : Int} (h : ∀ j, K 11 j = I 11 j ∧ K 12 j = I 12 j ∧ K 13 j = I 13 j ∧ K 14 j = I 14 j ∧ K 15 j = I 15 j ∧ K 16 j = I 16 j) (hn : K 0 13 = I 0 13) : zk_am K t m k = zk_am I t m k := by
  have e1 : zi_km K = zi_km I := funext fun j => by unfold zi_km; rw [(h j).2.2.1]
  have e2 : zi_kt K = zi_kt I := funext fun j => by unfold zi_kt; rw [(h j).2.2.2.1]
  unfold zk_am
  rw [e1, e2, zk_am_x h, hn]
theorem zk_M_e {I K : z_I} {t m k k1 r : Int} (h : ∀ j, K 11 j = I 11 j ∧ K 12 j = I 12 j ∧ K 13 j = I 13 j ∧ K 14 j = I 14 j ∧ K 15 j = I 15 j ∧ K 16 j = I 16 j) (hn : K 0 13 = I 0 13) (ek : k = k1) (hp : zi_R (zi_km K) (zi_kt K) m k (K 0 13).toNatClampNeg (zi_us t) (zi_am K t) r) : r = zk_am I t m k1 := by
  rw [← ek]
  exact (zk_f_e hp).trans (zk_am_c h hn)
theorem zk_M_b {I K : z_I} {t m k r : Int} (hb : ∀ q, q < (I 0 13).toNatClampNeg → 0 ≤ zi_am I t q ∧ zi_am I t q ≤ 999999) (h : ∀ j, K 11 j = I 11 j ∧ K 12 j = I 12 j ∧ K 13 j = I 13 j ∧ K 14 j = I 14 j ∧ K 15 j = I 15 j ∧ K 16 j = I 16 j) (hn : K 0 13 = I 0 13) (hp : zi_R (zi_km K) (zi_kt K) m k (K 0 13).toNatClampNeg (zi_us t) (zi_am K t) r) : 0 ≤ r ∧ r ≤ 999999 := zi_R_b hp zi_us_b (fun j hj => by rw [zk_am_x h]; exact hb j (by rw [hn] at hj; exact hj))
theorem zk_OW_m {c : z_C} {I K : z_I} {t : Int} (h : z_OW c I K) (hn : (K 0 13).toNatClampNeg = c.2.1) (ht : 0 ≤ t) : ∀ q, q < (K 0 13).toNatClampNeg → 0 ≤ zi_am K t q ∧ zi_am K t q ≤ 999999 := fun q hq => by
  rw [hn] at hq
  rw [← zi_axm h ht q hq]
  exact z_OW_b h ht q hq
/-- what all HOLDERS have for a MONTH together -/
noncomputable def zk_w (b : Int) (K U : Nat → Int) (h : Nat) : Int := if b = 0 ∧ K h = 0 then 0 else U h
theorem zk_w_0 {b : Int} {K U : Nat → Int} {h : Nat} (q : b = 0 ∧ K h = 0) : zk_w b K U h = 0 := if_pos q
theorem zk_w_1 {b : Int} {K U : Nat → Int} {h : Nat} (q : ¬ (b = 0 ∧ K h = 0)) : zk_w b K U h = U h := if_neg q
noncomputable def zk_K (I : z_I) (m : Int) (h : Nat) : Int := (z_kx I (h : Int) (m * 30) (I 0 0).toInt (I 1 11).toNatClampNeg).2
theorem zk_K_e {I K : z_I} {h d : Int32} {m r : Int} (hc : z_nsX K I) (e4 : K 1 11 = I 1 11) (eT : K 0 0 = I 0 0) (h0 : 0 ≤ h.toInt) (hd : d.toInt = m * 30) (hp : r = (z_kx K h.toInt d.toInt (K 0 0).toInt (K 1 11).toNatClampNeg).2) : r = zk_K I m h.toNatClampNeg := by
  unfold zk_K
  rw [z_clt (x := h) rfl h0, hp, hd, eT, e4, z_kx_c hc]
theorem zk_UXe {c : z_C} {I K : z_I} {SS : Nat → List zp_T} {x : Int32} {m kn r : Int} (e2 : ∀ a q, 200 ≤ a → K a q = I a q) (e3 : z_nsX K I) (e4 : K 1 11 = I 1 11) (e6 : ∀ j, K 2 j = I 2 j ∧ K 3 j = I 3 j) : zv_UX c K SS x m kn r = zv_UX c I SS x m kn r := by
  have a1 : zi_mo K = zi_mo I := funext fun j => by unfold zi_mo; rw [e2 _ _ (by omega)]
  have a2 : zi_td K = zi_td I := funext fun j => by unfold zi_td; rw [e2 _ _ (by omega)]
  have a3 : zv_AU K x m kn = zv_AU I x m kn := by
    unfold zv_AU
    rw [e4, z_kx_c e3, (e6 _).1, (e6 _).2]
  unfold zv_UX
  rw [a1, a2, a3]
theorem zk_U_c {c : z_C} {I K : z_I} {SS : Nat → List zp_T} {m : Int} (e2 : ∀ a q, 200 ≤ a → K a q = I a q) (e3 : z_nsX K I) (e4 : K 1 11 = I 1 11) (e6 : ∀ j, K 2 j = I 2 j ∧ K 3 j = I 3 j) (eT : K 0 0 = I 0 0) : zd_U c K SS m = zd_U c I SS m := funext fun h => by
  unfold zd_U
  rw [eT]
  exact congrArg Classical.epsilon (funext fun r => zk_UXe e2 e3 e4 e6)
noncomputable def zk_S (c : z_C) (I : z_I) (SS : Nat → List zp_T) (b m : Int) : Int := zd_S (zk_w b (zk_K I m) (zd_U c I SS m)) (I 1 5).toNatClampNeg
theorem zk_S_c {c : z_C} {I K : z_I} {SS : Nat → List zp_T} {b m : Int} (e2 : ∀ a q, 200 ≤ a → K a q = I a q) (e3 : z_nsX K I) (e4 : K 1 11 = I 1 11) (e6 : ∀ j, K 2 j = I 2 j ∧ K 3 j = I 3 j) (eT : K 0 0 = I 0 0) (eH : K 1 5 = I 1 5) : zk_S c K SS b m = zk_S c I SS b m := by
  have ek : zk_K K m = zk_K I m := funext fun h => by unfold zk_K; rw [eT, e4, z_kx_c e3]
  unfold zk_S
  rw [ek, zk_U_c e2 e3 e4 e6 eT, eH]
noncomputable def zk_P (c : z_C) (I : z_I) (SS : Nat → List zp_T) (b now : Int) (k : Nat) : Int := zk_ax c I 0 (now + (k : Int)) (I 0 0).toInt * zk_S c I SS b (now + (k : Int))
theorem zk_P_e {c : z_C} {I : z_I} {SS : Nat → List zp_T} {b now m a s : Int} {k : Nat} (hm : now + (k : Int) = m) (hA : a = zk_ax c I 0 m (I 0 0).toInt) (hS : s = zk_S c I SS b m) : zk_P c I SS b now k = a * s := by
  unfold zk_P
  rw [hm, ← hA, ← hS]
theorem zk_mb {a s x y : Int} (ha : 0 ≤ a ∧ a ≤ x) (hs : 0 ≤ s ∧ s ≤ y) : 0 ≤ a * s ∧ a * s ≤ x * y := ⟨Int.mul_nonneg ha.1 hs.1, Int.mul_le_mul ha.2 hs.2 hs.1 (Int.le_trans ha.1 ha.2)⟩
noncomputable def zk_p (I : z_I) (j : Nat) : Int := (I 42 j).toInt
theorem zk_p_c {I K : z_I} (e : ∀ j, K 42 j = I 42 j) (e2 : K 41 10 = I 41 10) : zd_S (zk_p K) (K 41 10).toNatClampNeg = zd_S (zk_p I) (I 41 10).toNatClampNeg := by
  rw [e2]
  exact zd_S_c _ (fun j _ => by unfold zk_p; rw [e])
/-- what is left -/
noncomputable def zk_r (P T : Int) : Int := if 100 * P - (T + 9) / 10 < -1999999999 then -1999999999 else 100 * P - (T + 9) / 10
theorem z_tldivp {z a b : Int64} {n m : Int} (e : z = a / b) (ha : a.toInt = n) (hb : b.toInt = m) (h1 : 0 ≤ n ∧ n ≤ 9000000000000000000) : z.toInt = n / m := by
  rw [z_tldiv e ha hb (by omega)]
  exact Int.tdiv_eq_ediv_of_nonneg h1.1
/-! the reference's -/
noncomputable def zk_KM (I : z_I) (m : Int) (h : Nat) : Int := z_kmr I (h : Int) (30 * m) (I 0 0).toInt (I 0 2).toNatClampNeg
theorem zk_KM_e {I K : z_I} {h d : Int32} {m r : Int} (hc : z_nsM K I) (e4 : K 0 2 = I 0 2) (eT : K 0 0 = I 0 0) (h0 : 0 ≤ h.toInt) (hd : d.toInt = 30 * m) (hp : r = z_kmr K h.toInt d.toInt (K 0 0).toInt (K 0 2).toNatClampNeg) : r = zk_KM I m h.toNatClampNeg := by
  unfold zk_KM
  rw [z_clt (x := h) rfl h0, hp, hd, eT, e4, z_kmr_c hc]
noncomputable def zk_V (I : z_I) (RS : Nat → List zm_row) (b m : Int) (h : Nat) : Int := zk_w b (zk_KM I m) (zd_V I RS m) h * zk_am I 0 m (I 0 0).toInt
theorem zk_V_0 {I : z_I} {RS : Nat → List zm_row} {b m : Int} {h : Nat} (q : b = 0 ∧ zk_KM I m h = 0) : zk_V I RS b m h = 0 := by
  unfold zk_V
  rw [zk_w_0 q, Int.zero_mul]
theorem zk_V_1 {I : z_I} {RS : Nat → List zm_row} {b m u a : Int} {h : Nat} (q : ¬ (b = 0 ∧ zk_KM I m h = 0)) (hU : u = zd_V I RS m h) (hA : a = zk_am I 0 m (I 0 0).toInt) : zk_V I RS b m h = u * a := by
  unfold zk_V
  rw [zk_w_1 q, ← hU, ← hA]
noncomputable def zk_Q (I : z_I) (RS : Nat → List zm_row) (b now : Int) (k : Nat) : Int := zd_S (zk_V I RS b (now + (k : Int))) (I 0 1).toNatClampNeg
theorem zk_Q_e {I : z_I} {RS : Nat → List zm_row} {b now m : Int} {k : Nat} (hm : now + (k : Int) = m) : zk_Q I RS b now k = zd_S (zk_V I RS b m) (I 0 1).toNatClampNeg := by
  unfold zk_Q
  rw [hm]
noncomputable def zk_q (I : z_I) (j : Nat) : Int := (I 52 j).toInt
/-! both sums are equal -/
theorem zk_dist {W : Nat → Int} {A : Int} : ∀ n : Nat, zd_S (fun h => W h * A) n = A * zd_S W n
  | 0 => (Int.mul_zero A).symm
  | n + 1 => by rw [zd_S, zd_S, zk_dist n, Int.mul_add, Int.mul_comm (W n) A]
theorem zk_E {c : z_C} {Ix Im : z_I} {RS : Nat → List zm_row} {FF : Nat → Nat} {b now : Int} (hCH : ∀ k, k < c.2.1 → zw_T Im k (FF k) (RS k) ∧ zv_ss c Ix k ((RS k).map Prod.fst) ∧ zi_mo Ix k = zi_km Im k ∧ zi_td Ix k = zi_kt Im k ∧ 0 ≤ zi_mo Ix k) (hn : (Im 0 13).toNatClampNeg = c.2.1) (hO : z_OW c Ix Im) (hRH : z_RH Ix Im) (hRN : z_RN Ix Im) (hN : (Ix 1 11).toInt = (Im 0 2).toInt) (h0 : 0 ≤ (Ix 1 11).toInt) (hT : (Im 0 0).toInt = (Ix 0 0).toInt) (hk : (Ix 0 0).toInt ≤ 719) (hH : (Im 0 1).toInt = (Ix 1 5).toInt) (hb : 0 ≤ (Ix 1 5).toInt ∧ (Ix 1 5).toInt ≤ 30) (n : Nat) : zd_S (zk_Q Im RS b now) n = zd_S (zk_P c Ix (fun k => (RS k).map Prod.fst) b now) n := by
  refine zd_S_c n (fun k _ => ?_)
  have n1 := z_clt (x := Ix 1 11) rfl h0
  have n2 := z_clt (x := Im 0 2) rfl (by omega)
  have n3 := z_clt (x := Ix 1 5) rfl hb.1
  have eH : (Im 0 1).toNatClampNeg = (Ix 1 5).toNatClampNeg := congrArg Int.toNat hH
  unfold zk_Q zk_P zk_S
  rw [show zk_V Im RS b (now + (k : Int)) = (fun h => zk_w b (zk_KM Im (now + (k : Int))) (zd_V Im RS (now + (k : Int))) h * zk_am Im 0 (now + (k : Int)) (Im 0 0).toInt) from rfl, zk_dist, hT, ← zk_a_e hO hn (by decide), eH]
  refine congrArg (fun s => zk_ax c Ix 0 (now + (k : Int)) (Ix 0 0).toInt * s) (zd_S_c _ (fun h hh => ?_))
  have e1 : zk_KM Im (now + (k : Int)) h = zk_K Ix (now + (k : Int)) h := by
    unfold zk_KM zk_K
    rw [hT, Int.mul_comm (now + (k : Int)) 30, z_RN_r hRN hk (n := (Ix 1 11).toNatClampNeg) (m := (Im 0 2).toNatClampNeg) (by omega) (by omega)]
  have e2 : zd_V Im RS (now + (k : Int)) h = zd_U c Ix (fun k => (RS k).map Prod.fst) (now + (k : Int)) h := zd_VU hCH hn hRH hRN hN h0 hT hk (by omega) hb.2
  unfold zk_w
  rw [e1, e2]
theorem zk_RPs {Ix Im : z_I} (h : ∀ j : Nat, (j : Int) < (Ix 41 10).toInt → Ix 42 j = Im 52 j ∧ 0 ≤ (Ix 42 j).toInt ∧ (Ix 42 j).toInt ≤ 50) (h0 : 0 ≤ (Ix 41 10).toInt) (hn : (Im 0 75).toInt = (Ix 41 10).toInt) : zd_S (zk_q Im) (Im 0 75).toNatClampNeg = zd_S (zk_p Ix) (Ix 41 10).toNatClampNeg := by
  have n1 := z_clt (x := Ix 41 10) rfl h0
  rw [show (Im 0 75).toNatClampNeg = (Ix 41 10).toNatClampNeg from congrArg Int.toNat hn]
  refine zd_S_c _ (fun j hj => ?_)
  unfold zk_q zk_p
  rw [(h j (by omega)).1]
set_option maxHeartbeats 8000000 in
set_option maxRecDepth 100000 in
theorem sx_X4_inPorts_k (l : Launch) (G : z_G) (ad : Nat → Nat) (c : z_C) (I : z_I) (hL : z_iL I) (hPo : ∀ j : Nat, (j : Int) < (I 41 10).toInt → 0 ≤ (I 42 j).toInt ∧ (I 42 j).toInt ≤ 50) : z_M l yX4_inPorts wsX4_inPorts { frames := 1, cells := 0, slots := 0, locals := 12 } [.ref (ad 41)] G (shC c, ad, I, JX, PC c ad) (fun r u1 => u1 = (shC c, ad, I, JX, PC c ad) ∧ (r.toInt = zd_S (zk_p I) (I 41 10).toNatClampNeg ∧ 0 ≤ r.toInt ∧ r.toInt ≤ 200)) 0 0 := sorry
noncomputable def L_X11_unitsTogether_k : z_L := [(24, 999), (25, 999)]
set_option maxHeartbeats 8000000 in
set_option maxRecDepth 100000 in
theorem sx_X11_unitsTogether_k (l : Launch) (G : z_G) (ad : Nat → Nat) (c : z_C) (I : z_I) (hH : z_iH I) (hO : z_iO I) (hB : z_iB I) (SS : Nat → List zp_T) (a1 : Int32) (a2 : Int32) (hc : z_okc c) (h10 : c.1 ≤ 10) (hWu : zv_W c I SS) (q1 : 0 ≤ a1.toInt ∧ a1.toInt ≤ 23) : z_M l yX11_unitsTogether wsX11_unitsTogether { frames := 6, cells := 0, slots := 0, locals := 160 } [.ref (ad 0), .int a1, .int a2] G (shC c, ad, I, JX, PC c ad) (fun r u1 => ∃ I1 : z_I, u1 = (shC c, ad, I1, JX, PC c ad) ∧ z_iH I1 ∧ z_iO I1 ∧ z_iB I1 ∧ z_fr L_X11_unitsTogether_k I1 I ∧ r.toInt = zk_S c I SS a2.toInt a1.toInt ∧ 0 ≤ r.toInt ∧ r.toInt ≤ 2970) 0 0 := sorry
noncomputable def L_X11_foretold_k : z_L := [(24, 999), (25, 999)]
set_option maxHeartbeats 8000000 in
set_option maxRecDepth 100000 in
theorem sx_X11_foretold_k (l : Launch) (G : z_G) (ad : Nat → Nat) (c : z_C) (I : z_I) (hH : z_iH I) (hO : z_iO I) (hB : z_iB I) (hL : z_iL I) (SS : Nat → List zp_T) (a1 : Int32) (a2 : Int32) (hc : z_okc c) (h10 : c.1 ≤ 10) (hWu : zv_W c I SS) (hab : ∀ q, q < c.2.1 → 0 ≤ zi_ax c I 0 q ∧ zi_ax c I 0 q ≤ 999999) (hPo : ∀ j : Nat, (j : Int) < (I 41 10).toInt → 0 ≤ (I 42 j).toInt ∧ (I 42 j).toInt ≤ 50) : z_MS l yX11_foretold wsX11_foretold { frames := 7, cells := 0, slots := 0, locals := 184 } [.ref (ad 0), .int a1, .int a2] G (shC c, ad, I, JX, PC c ad) (fun r u1 => ∃ I1 : z_I, u1 = (shC c, ad, I1, JX, PC c ad) ∧ z_iH I1 ∧ z_iO I1 ∧ z_iB I1 ∧ z_iL I1 ∧ z_fr L_X11_foretold_k I1 I ∧ ((((1 ≤ a1.toInt ∧ a1.toInt ≤ 12) ∧ (I 0 0).toInt / 30 + a1.toInt ≤ 24) ∧ r.toInt = zk_r (zd_S (zk_p I) (I 41 10).toNatClampNeg) (zd_S (zk_P c I SS a2.toInt ((I 0 0).toInt / 30)) a1.toInt.toNat)) ∨ (¬ ((1 ≤ a1.toInt ∧ a1.toInt ≤ 12) ∧ (I 0 0).toInt / 30 + a1.toInt ≤ 24) ∧ r.toInt = -2000000000))) 0 0 := by
  intro sz
  refine z_headS (cc := cX11_foretold) (maxL := 8) (ret := (some .int)) (by decide) rfl (Nat.le_of_ble_eq_true rfl) ?_
  intro p e s m below meth c0 ls hIn hK hsz hW hl hSt
  obtain ⟨hx, hb, hr, hml, hown, hts, hlocks, hname⟩ := hIn
  subst hsz
  have hown : s.vm.findClass RX11 = some m.cls := hown
  have hA : ∀ q : Nat, s.heap.size ≤ q → z_A (shC c, ad, I, JX, PC c ad) s.heap.size q := fun q h => Or.inr h
  generalize hAe : z_A (shC c, ad, I, JX, PC c ad) s.heap.size = A at *
  have hS : va_S A s.heap s.heap [] := va_S.rf
  have hl : lv_has ls 8 [(0, .ref (ad 0)), (1, .int a1), (2, .int a2)] := hl
  refine lv_aload_n hx hb dX11_foretold_0 rfl (lv_at hl 0 rfl) ?_
  have r1 : 0 ≤ (I 0 0).toInt ∧ (I 0 0).toInt ≤ 719 := hB.1
  refine z_get (T := TX11) (N := 13) (ci := 11) (i := 0) (v := .int (I 0 0)) hx hb hts zj_X11_foretold_X11 hown hK hW rfl rfl 0 (by decide) (hts (.fieldLink RX11 85 "PetrolBoard" "today" "I") (me_s (me_l (me_l (me_l (me_l (me_l (me_l (me_l (List.mem_of_getElem? (i := 0) rfl)))))))))) (fun _ h => h) rfl dX11_foretold_1 ?_
  refine lv_bipush (v := 30) hx hb dX11_foretold_4 (by decide) ?_
  refine lv_idiv hx hb dX11_foretold_6 (by decide) ?_
  refine lv_topi (fun x2 ex2 => ?_)
  have tx2 := z_tdiv ex2 rfl z_l30 (by decide)
  refine lv_istore_n (lv' := [(3, .int x2), (0, .ref (ad 0)), (1, .int a1), (2, .int a2)]) hx hb dX11_foretold_7 rfl hl (by decide) rfl (fun ls hl => ?_)
  refine lv_iload_n hx hb dX11_foretold_8 rfl (lv_at hl 2 rfl) ?_
  refine lv_iconst (v := 1) hx hb dX11_foretold_9 (by decide) ?_
  refine lv_bipush (v := 12) hx hb dX11_foretold_10 (by decide) ?_
  refine z_ci hW hS hA (va_runS (As := [.int a1, .int 1, .int 12]) (rest := []) ⟨hx, hb, hml, hown, hts⟩ (sx_X11_within_e l G ad c I  a1 1 12 _) (va_cwS 3 hts gX11_foretold_X11_within rfl rfl rfl (by decide +kernel) ⟨Nat.le_of_ble_eq_true rfl, Nat.le_of_ble_eq_true rfl⟩) (z_preS hK hW) rfl rfl hl.1 rfl (lv_room (Nat.le_of_ble_eq_true rfl)) dX11_foretold_12 ⟨Nat.le_of_ble_eq_true rfl, Nat.le_of_ble_eq_true rfl⟩) (fun r u1 H locs hp hW hS => ?_)
  obtain ⟨e9, hp⟩ := hp
  rw [e9] at hW
  rcases hp with ⟨rfl, h3⟩ | ⟨rfl, h3⟩
  · have h4 := h3
    have z5 := z_l1
    have z6 := z_l12
    refine lv_if_eq (tgt := 26) hx hb dX11_foretold_15 (by decide) (fun c7 => absurd c7 (by decide)) (fun c7 => ?_)
    refine lv_iload_n hx hb dX11_foretold_18 rfl (lv_at hl 0 rfl) ?_
    refine lv_iload_n hx hb dX11_foretold_19 rfl (lv_at hl 2 rfl) ?_
    refine lv_iadd hx hb dX11_foretold_20 ?_
    refine lv_topi (fun x8 ex8 => ?_)
    have tx8 : x8.toInt = x2.toInt + a1.toInt := z_tadd ex8 rfl rfl (by omega) (by omega)
    refine lv_bipush (v := 24) hx hb dX11_foretold_21 (by decide) ?_
    refine lv_icmp_le (tgt := 29) hx hb dX11_foretold_23 (by decide) (fun c9 => ?_) (fun c9 => ?_)
    · have g10 := z_f_le rfl z_l24 c9
      refine lv_lconst (v := 0) hx hb dX11_foretold_29 (by decide) ?_
      refine lv_lstore (lv' := [(4, .long 0), (3, .int x2), (0, .ref (ad 0)), (1, .int a1), (2, .int a2)]) hx hb dX11_foretold_30 hl (by decide) rfl (fun ls hl => ?_)
      refine lv_iload_n hx hb dX11_foretold_32 rfl (lv_at hl 1 rfl) ?_
      refine lv_istore (lv' := [(6, .int x2), (4, .long 0), (3, .int x2), (0, .ref (ad 0)), (1, .int a1), (2, .int a2)]) hx hb dX11_foretold_33 hl (by decide) rfl (fun ls hl => ?_)
      have lp11 : ∀ (f : Nat) (y12 : Int32) (w13 : Int64) (I14 : z_I) (H : Heap) (locs : List Loc) (ls : Array Slot), (2147483647 < y12.toInt + (f : Int)) → (0 ≤ y12.toInt) → (y12.toInt ≤ 24) → (z_iH I14) → (z_iO I14) → (z_iB I14) → (z_iL I14) → (x2.toInt ≤ y12.toInt) → (w13.toInt = zd_S (zk_P c I SS a2.toInt x2.toInt) (y12.toInt - x2.toInt).toNat ∧ 0 ≤ w13.toInt ∧ w13.toInt ≤ 3000000000 * (y12.toInt - x2.toInt) ∧ x2.toInt ≤ y12.toInt ∧ y12.toInt ≤ x2.toInt + a1.toInt) → (z_fr L_X11_foretold_k I14 I) → z_W G A (shC c, ad, I14, JX, PC c ad) H → va_S A s.heap H locs → lv_has ls 8 [(6, .int y12), (4, .long w13), (3, .int x2), (0, .ref (ad 0)), (1, .int a1), (2, .int a2)] → W p l e (headSpec wsX11_foretold { frames := 7, cells := 0, slots := 0, locals := 184 }).room s m ([.ref (ad 0), .int a1, .int a2] : List Value).toArray below meth c0 H locs 0 0 (MQ below (va_Qi (fun (r : Int32) (u1 : z_U) => ∃ I1 : z_I, u1 = (shC c, ad, I1, JX, PC c ad) ∧ z_iH I1 ∧ z_iO I1 ∧ z_iB I1 ∧ z_iL I1 ∧ z_fr L_X11_foretold_k I1 I ∧ ((((1 ≤ a1.toInt ∧ a1.toInt ≤ 12) ∧ (I 0 0).toInt / 30 + a1.toInt ≤ 24) ∧ r.toInt = zk_r (zd_S (zk_p I) (I 41 10).toNatClampNeg) (zd_S (zk_P c I SS a2.toInt ((I 0 0).toInt / 30)) a1.toInt.toNat)) ∨ (¬ ((1 ≤ a1.toInt ∧ a1.toInt ≤ 12) ∧ (I 0 0).toInt / 30 + a1.toInt ≤ 24) ∧ r.toInt = -2000000000))) (z_B G A) A) ([.ref (ad 0), .int a1, .int a2] : List Value).toArray s 0 0 A) (F0 m 35 ls []) := by
        intro f
        induction f with
        | zero => intro y12 w13 I14  H locs ls lp11m lp11l6 lp11u6 lp11H lp11O lp11B lp11L lp11z lp11T lp11fr hW hS hl; exact absurd lp11m (by have := Int32.toInt_lt y12; have := Int32.le_toInt y12; omega)
        | succ f lp11ih =>
          intro y12 w13 I14  H locs ls lp11m lp11l6 lp11u6 lp11H lp11O lp11B lp11L lp11z lp11T lp11fr hW hS hl
          refine lv_iload hx hb dX11_foretold_35 (lv_at hl 0 rfl) ?_
          refine lv_iload_n hx hb dX11_foretold_37 rfl (lv_at hl 2 rfl) ?_
          refine lv_iload_n hx hb dX11_foretold_38 rfl (lv_at hl 4 rfl) ?_
          refine lv_iadd hx hb dX11_foretold_39 ?_
          refine lv_topi (fun x15 ex15 => ?_)
          have tx15 : x15.toInt = x2.toInt + a1.toInt := z_tadd ex15 rfl rfl (by omega) (by omega)
          refine lv_icmp_ge (tgt := 78) hx hb dX11_foretold_40 (by decide) (fun c16 => ?_) (fun c16 => ?_)
          · have g17 := z_f_ge rfl rfl c16
            refine lv_ldc2 (v := 100) hx hb hown (hts (.constantLong RX11 392 (100)) (me_s (me_l (me_l (me_l (me_l (me_l (me_l (me_l (List.mem_of_getElem? (i := 3) rfl)))))))))) dX11_foretold_78 ?_
            refine lv_aload_n hx hb dX11_foretold_81 rfl (lv_at hl 3 rfl) ?_
            refine z_get (T := TX11) (N := 13) (ci := 11) (i := 0) (v := .ref (ad 41)) hx hb hts zj_X11_foretold_X11 hown hK hW rfl rfl 10 (by decide) (hts (.fieldLink RX11 61 "PetrolBoard" "loads" "LPetrolBoard$Loads;") (me_s (me_l (me_l (me_l (me_l (me_l (me_l (me_l (List.mem_of_getElem? (i := 4) rfl)))))))))) (fun _ h => h) rfl dX11_foretold_82 ?_
            refine z_ci hW hS hA (va_runV (As := []) (rest := [.long 100]) ⟨hx, hb, hml, hown, hts⟩ (sx_X4_inPorts_k l G ad c I14 (by show 0 ≤ (I14 41 10).toInt ∧ (I14 41 10).toInt ≤ 4; exact lp11L) (fun j hj => by rw [lp11fr 42 j (z_wr_c (by decide))]; exact hPo j (by rw [lp11fr 41 10 (by decide)] at hj; exact hj)) _) (cwV 0 hts gX11_foretold_X4_inPorts rfl rfl rfl (by decide +kernel) ⟨Nat.le_of_ble_eq_true rfl, Nat.le_of_ble_eq_true rfl⟩) (z_preV (i := 41) hK hW rfl rfl) rfl rfl hl.1 rfl (lv_room (Nat.le_of_ble_eq_true rfl)) dX11_foretold_85 ⟨Nat.le_of_ble_eq_true rfl, Nat.le_of_ble_eq_true rfl⟩) (fun r u1 H locs hp hW hS => ?_)
            obtain ⟨e9, hp⟩ := hp
            rw [e9] at hW
            refine lv_topi (fun x18 ex18 => ?_)
            rw [← ex18] at hp
            have hP19 : x18.toInt = zd_S (zk_p I) (I 41 10).toNatClampNeg := hp.1.trans (zk_p_c (fun j => lp11fr 42 j (z_wr_c (by decide))) (lp11fr 41 10 (by decide)))
            have hb20 := hp.2
            refine lv_i2l (v := x18.toInt64) hx hb dX11_foretold_88 rfl ?_
            refine lv_topl (fun w21 ew21 => ?_)
            have tw21 : w21.toInt = x18.toInt := z_ti2l ew21 rfl
            refine lv_lmul hx hb dX11_foretold_89 ?_
            refine lv_topl (fun w22 ew22 => ?_)
            have tw22 : w22.toInt = 100 * x18.toInt := z_tlmul ew22 (show (100 : Int64).toInt = 100 by decide) tw21 (by omega) (by omega)
            have b23 := z_mulb (n := 100) (m := x18.toInt) (by omega) (by omega)
            refine lv_lload hx hb dX11_foretold_90 (lv_at hl 1 rfl) ?_
            refine lv_ldc2 (v := 9) hx hb hown (hts (.constantLong RX11 398 (9)) (me_s (me_l (me_l (me_l (me_l (me_l (me_l (me_l (List.mem_of_getElem? (i := 5) rfl)))))))))) dX11_foretold_92 ?_
            refine lv_ladd hx hb dX11_foretold_95 ?_
            refine lv_topl (fun w24 ew24 => ?_)
            have tw24 : w24.toInt = w13.toInt + 9 := z_tladd ew24 rfl (show (9 : Int64).toInt = 9 by decide) (by omega) (by omega)
            refine lv_ldc2 (v := 10) hx hb hown (hts (.constantLong RX11 400 (10)) (me_s (me_l (me_l (me_l (me_l (me_l (me_l (me_l (List.mem_of_getElem? (i := 6) rfl)))))))))) dX11_foretold_96 ?_
            refine lv_ldiv hx hb dX11_foretold_99 (by decide) ?_
            refine lv_topl (fun w25 ew25 => ?_)
            have tw25 : w25.toInt = (w13.toInt + 9) / 10 := z_tldivp ew25 tw24 (show (10 : Int64).toInt = 10 by decide) (by omega)
            refine lv_lsub hx hb dX11_foretold_100 ?_
            refine lv_topl (fun w26 ew26 => ?_)
            have tw26 : w26.toInt = (100 * x18.toInt) - ((w13.toInt + 9) / 10) := z_tlsub ew26 tw22 tw25 (by omega) (by omega)
            refine lv_lstore (lv' := [(6, .long w26), (4, .long w13), (3, .int x2), (0, .ref (ad 0)), (1, .int a1), (2, .int a2)]) hx hb dX11_foretold_101 hl (by decide) rfl (fun ls hl => ?_)
            refine lv_ldc2 (v := (-1999999999)) hx hb hown (hts (.constantLong RX11 402 (-1999999999)) (me_s (me_l (me_l (me_l (me_l (me_l (me_l (me_l (List.mem_of_getElem? (i := 7) rfl)))))))))) dX11_foretold_103 ?_
            refine lv_lload hx hb dX11_foretold_106 (lv_at hl 0 rfl) ?_
            refine va_mmax_long (x := (-1999999999)) (y := w26) hx hb (hml.trans hl.1.symm) hown (hts (.methodLink RX11 404 Lib.MathLoose.max_long.x) (me_s (me_l (me_l (me_l (me_l (me_l (me_l (me_l (List.mem_of_getElem? (i := 8) rfl)))))))))) (hts (.static Lib.MathLoose.max_long.x) (me_s (me_l (me_l (me_l (me_l (me_l (me_l (me_l (List.mem_of_getElem? (i := 9) rfl)))))))))) (hts (.initialized "java/lang/Math") (me_s (me_l (me_l (me_l (me_l (me_l (me_l (me_l (List.mem_of_getElem? (i := 10) rfl)))))))))) (hts (.code Lib.MathLoose.max_long.x Lib.MathLoose.max_long.code 4 (some .long)) (me_s (me_l (me_l (me_l (me_l (me_l (me_l (me_l (List.mem_of_getElem? (i := 11) rfl)))))))))) (Nat.le_of_ble_eq_true rfl) (Nat.le_of_ble_eq_true rfl) (Nat.le_of_ble_eq_true rfl) (Nat.le_of_ble_eq_true rfl) dX11_foretold_108 ?_
            refine lv_topl (fun w27 ew27 => ?_)
            have tw27 := z_tlmax ew27 (show ((-1999999999) : Int64).toInt = (-1999999999) by decide) tw26
            refine lv_l2i (v := w27.toInt32) hx hb dX11_foretold_111 rfl ?_
            refine lv_topi (fun x28 ex28 => ?_)
            have tx28 : x28.toInt = w27.toInt := z_tl2i ex28 rfl (by omega)
            exact z_iret hx hb hr hK hS (Nat.le_of_ble_eq_true rfl) (Nat.le_of_ble_eq_true rfl) hlocks dX11_foretold_112 (shC c, ad, I14, JX, PC c ad) hW ⟨I14, rfl, ⟨(by show 0 ≤ (I14 1 5).toInt ∧ (I14 1 5).toInt ≤ 30; exact lp11H.1), (by show 0 ≤ (I14 1 11).toInt ∧ (I14 1 11).toInt ≤ 200; exact lp11H.2)⟩, (by show 0 ≤ (I14 21 2).toInt ∧ (I14 21 2).toInt ≤ 12; exact lp11O), ⟨(by show 0 ≤ (I14 0 0).toInt ∧ (I14 0 0).toInt ≤ 719; exact lp11B.1), (by show 0 ≤ (I14 0 8).toInt ∧ (I14 0 8).toInt ≤ 10; exact lp11B.2)⟩, (by show 0 ≤ (I14 41 10).toInt ∧ (I14 41 10).toInt ≤ 4; exact lp11L), lp11fr, (by have e9 := lp11T.1; rw [show (y12.toInt - x2.toInt).toNat = a1.toInt.toNat by omega, show x2.toInt = (I 0 0).toInt / 30 by omega] at e9; have p9 := hP19; exact Or.inl ⟨by omega, by unfold zk_r; split <;> omega⟩)⟩
          · have g29 := z_f_nge rfl rfl c16
            refine lv_lload hx hb dX11_foretold_43 (lv_at hl 1 rfl) ?_
            refine lv_aload_n hx hb dX11_foretold_45 rfl (lv_at hl 3 rfl) ?_
            refine z_get (T := TX11) (N := 13) (ci := 11) (i := 0) (v := .ref (ad 21)) hx hb hts zj_X11_foretold_X11 hown hK hW rfl rfl 4 (by decide) (hts (.fieldLink RX11 30 "PetrolBoard" "orderBook" "LPetrolBoard$OrderBook;") (me_s (me_l (me_l (me_l (me_l (me_l (me_l (me_l (List.mem_of_getElem? (i := 2) rfl)))))))))) (fun _ h => h) rfl dX11_foretold_46 ?_
            refine lv_iconst (v := 0) hx hb dX11_foretold_49 (by decide) ?_
            refine lv_iload hx hb dX11_foretold_50 (lv_at hl 0 rfl) ?_
            refine lv_aload_n hx hb dX11_foretold_52 rfl (lv_at hl 3 rfl) ?_
            have r30 : 0 ≤ (I14 0 0).toInt ∧ (I14 0 0).toInt ≤ 719 := lp11B.1
            refine z_get (T := TX11) (N := 13) (ci := 11) (i := 0) (v := .int (I14 0 0)) hx hb hts zj_X11_foretold_X11 hown hK hW rfl rfl 0 (by decide) (hts (.fieldLink RX11 85 "PetrolBoard" "today" "I") (me_s (me_l (me_l (me_l (me_l (me_l (me_l (me_l (List.mem_of_getElem? (i := 0) rfl)))))))))) (fun _ h => h) rfl dX11_foretold_53 ?_
            refine z_ci hW hS hA (va_runV (As := [.int 0, .int y12, .int (I14 0 0)]) (rest := [.long w13]) ⟨hx, hb, hml, hown, hts⟩ (sx_X6_amount_x l G ad c I14 (by show 0 ≤ (I14 21 2).toInt ∧ (I14 21 2).toInt ≤ 12; exact lp11O) 0 y12 (I14 0 0) hc (by rw [lp11fr 21 2 (by decide)]; exact hWu.1) (fun j hj => by rw [(zv_fr2 lp11fr (by decide)) (200 + 5 * j) 0 (by omega)]; exact hWu.2.1 j hj) (by decide) _) (cwV 3 hts gX11_foretold_X6_amount rfl rfl rfl (by decide +kernel) ⟨Nat.le_of_ble_eq_true rfl, Nat.le_of_ble_eq_true rfl⟩) (z_preVS (i := 21) hK hW hS hA hSt rfl rfl) rfl rfl hl.1 rfl (lv_room (Nat.le_of_ble_eq_true rfl)) dX11_foretold_56 ⟨Nat.le_of_ble_eq_true rfl, Nat.le_of_ble_eq_true rfl⟩) (fun r u1 H locs hp hW hS => ?_)
            obtain ⟨e9, hp⟩ := hp
            rw [e9] at hW
            refine lv_topi (fun x31 ex31 => ?_)
            rw [← ex31, show (0 : Int32).toInt = 0 by decide, show (I14 0 0).toInt = (I 0 0).toInt by rw [lp11fr 0 0 (by decide)]] at hp
            have hb33 := zk_A_b hab (zv_fr2 lp11fr (by decide)) hp
            have hM32 := zk_A_e (zv_fr2 lp11fr (by decide)) hp
            refine lv_i2l (v := x31.toInt64) hx hb dX11_foretold_59 rfl ?_
            refine lv_topl (fun w34 ew34 => ?_)
            have tw34 : w34.toInt = x31.toInt := z_ti2l ew34 rfl
            refine lv_aload_n hx hb dX11_foretold_60 rfl (lv_at hl 3 rfl) ?_
            refine lv_iload hx hb dX11_foretold_61 (lv_at hl 0 rfl) ?_
            refine lv_iload_n hx hb dX11_foretold_63 rfl (lv_at hl 5 rfl) ?_
            refine z_ci hW hS hA (va_runV (As := [.int y12, .int a2]) (rest := [.long w34, .long w13]) ⟨hx, hb, hml, hown, hts⟩ (sx_X11_unitsTogether_k l G ad c I14 ⟨(by show 0 ≤ (I14 1 5).toInt ∧ (I14 1 5).toInt ≤ 30; exact lp11H.1), (by show 0 ≤ (I14 1 11).toInt ∧ (I14 1 11).toInt ≤ 200; exact lp11H.2)⟩ (by show 0 ≤ (I14 21 2).toInt ∧ (I14 21 2).toInt ≤ 12; exact lp11O) ⟨(by show 0 ≤ (I14 0 0).toInt ∧ (I14 0 0).toInt ≤ 719; exact lp11B.1), (by show 0 ≤ (I14 0 8).toInt ∧ (I14 0 8).toInt ≤ 10; exact lp11B.2)⟩ SS y12 a2 hc h10 (zd_X_c hWu (lp11fr 21 2 (by decide)) (zv_fr2 lp11fr (by decide)) (fun j => ⟨lp11fr 7 j (z_wr_c (by decide)), lp11fr 8 j (z_wr_c (by decide)), lp11fr 9 j (z_wr_c (by decide)), lp11fr 10 j (z_wr_c (by decide)), lp11fr 11 j (z_wr_c (by decide))⟩) (lp11fr 1 11 (by decide)) (lp11fr 1 5 (by decide)) (fun j => ⟨lp11fr 2 j (z_wr_c (by decide)), lp11fr 3 j (z_wr_c (by decide))⟩)) (by omega) _) (cwV 2 hts gX11_foretold_X11_unitsTogether rfl rfl rfl (by decide +kernel) ⟨Nat.le_of_ble_eq_true rfl, Nat.le_of_ble_eq_true rfl⟩) (z_preV (i := 0) hK hW rfl rfl) rfl rfl hl.1 rfl (lv_room (Nat.le_of_ble_eq_true rfl)) dX11_foretold_64 ⟨Nat.le_of_ble_eq_true rfl, Nat.le_of_ble_eq_true rfl⟩) (fun r u1 H locs hp hW hS => ?_)
            obtain ⟨I35, e9, hI35H, hI35O, hI35B, fI35, hp⟩ := hp
            rw [e9] at hW
            have f36 := z_fr_sub (L := L_X11_foretold_k) lp11fr fI35 (by decide)
            have k37 : 0 ≤ (I35 41 10).toInt ∧ (I35 41 10).toInt ≤ 4 := by rw [fI35 41 10 (by decide)]; exact (by show 0 ≤ (I14 41 10).toInt ∧ (I14 41 10).toInt ≤ 4; exact lp11L)
            refine lv_topi (fun x38 ex38 => ?_)
            rw [← ex38] at hp
            have hS39 : x38.toInt = zk_S c I SS a2.toInt y12.toInt := hp.1.trans (zk_S_c (zv_fr2 lp11fr (by decide)) (fun j => ⟨lp11fr 7 j (z_wr_c (by decide)), lp11fr 8 j (z_wr_c (by decide)), lp11fr 9 j (z_wr_c (by decide)), lp11fr 10 j (z_wr_c (by decide)), lp11fr 11 j (z_wr_c (by decide))⟩) (lp11fr 1 11 (by decide)) (fun j => ⟨lp11fr 2 j (z_wr_c (by decide)), lp11fr 3 j (z_wr_c (by decide))⟩) (lp11fr 0 0 (by decide)) (lp11fr 1 5 (by decide)))
            have hb40 := hp.2
            refine lv_i2l (v := x38.toInt64) hx hb dX11_foretold_67 rfl ?_
            refine lv_topl (fun w41 ew41 => ?_)
            have tw41 : w41.toInt = x38.toInt := z_ti2l ew41 rfl
            refine lv_lmul hx hb dX11_foretold_68 ?_
            refine lv_topl (fun w42 ew42 => ?_)
            have tw42 : w42.toInt = x31.toInt * x38.toInt := z_tlmul ew42 tw34 tw41 (by omega) (by omega)
            have b43 := z_mulb (n := x31.toInt) (m := x38.toInt) (by omega) (by omega)
            refine lv_ladd hx hb dX11_foretold_69 ?_
            refine lv_topl (fun w44 ew44 => ?_)
            have tw44 : w44.toInt = w13.toInt + (x31.toInt * x38.toInt) := z_tladd ew44 rfl tw42 (by omega) (by omega)
            refine lv_lstore (lv' := [(4, .long w44), (6, .int y12), (3, .int x2), (0, .ref (ad 0)), (1, .int a1), (2, .int a2)]) hx hb dX11_foretold_70 hl (by decide) rfl (fun ls hl => ?_)
            obtain ⟨x45, ex45⟩ : ∃ y : Int32, y = y12 + 1 := ⟨_, rfl⟩
            have tx45 : x45.toInt = y12.toInt + 1 := z_tadd ex45 rfl z_l1 (by omega) (by omega)
            refine lv_iinc (v := x45) (lv' := [(6, .int x45), (4, .long w44), (3, .int x2), (0, .ref (ad 0)), (1, .int a1), (2, .int a2)]) hx hb dX11_foretold_72 hl (k := 1) rfl (by rw [ex45]; rfl) (by decide) rfl (fun ls hl => ?_)
            refine lv_goto (tgt := 35) hx hb dX11_foretold_75 (by decide) ?_
            exact lp11ih x45 w44 I35  _ _ _ (by omega) (by omega) (by omega) ⟨(by show 0 ≤ (I35 1 5).toInt ∧ (I35 1 5).toInt ≤ 30; exact hI35H.1), (by show 0 ≤ (I35 1 11).toInt ∧ (I35 1 11).toInt ≤ 200; exact hI35H.2)⟩ (by show 0 ≤ (I35 21 2).toInt ∧ (I35 21 2).toInt ≤ 12; exact hI35O) ⟨(by show 0 ≤ (I35 0 0).toInt ∧ (I35 0 0).toInt ≤ 719; exact hI35B.1), (by show 0 ≤ (I35 0 8).toInt ∧ (I35 0 8).toInt ≤ 10; exact hI35B.2)⟩ (by show 0 ≤ (I35 41 10).toInt ∧ (I35 41 10).toInt ≤ 4; exact k37) (by omega) (by have m9 := zk_mb hb33 hb40; have m8 : (999999 : Int) * 2970 ≤ 3000000000 := (by decide); exact ⟨by rw [show (x45.toInt - x2.toInt).toNat = (y12.toInt - x2.toInt).toNat + 1 by omega, zd_S_s, ← lp11T.1, zk_P_e (m := y12.toInt) (by omega) hM32 hS39]; omega, by omega, by omega, by omega, by omega⟩) f36 hW hS (lv_sub hl [0, 1, 2, 3, 4, 5] rfl)
      exact lp11 4294967296 x2 0 I  _ _ _ (z_m0u _) (by omega) (by omega) ⟨(by show 0 ≤ (I 1 5).toInt ∧ (I 1 5).toInt ≤ 30; exact hH.1), (by show 0 ≤ (I 1 11).toInt ∧ (I 1 11).toInt ≤ 200; exact hH.2)⟩ (by show 0 ≤ (I 21 2).toInt ∧ (I 21 2).toInt ≤ 12; exact hO) ⟨(by show 0 ≤ (I 0 0).toInt ∧ (I 0 0).toInt ≤ 719; exact hB.1), (by show 0 ≤ (I 0 8).toInt ∧ (I 0 8).toInt ≤ 10; exact hB.2)⟩ (by show 0 ≤ (I 41 10).toInt ∧ (I 41 10).toInt ≤ 4; exact hL) (by omega) (by have q0 : (0 : Int64).toInt = 0 := (by decide); exact ⟨by rw [show (x2.toInt - x2.toInt).toNat = 0 by omega]; exact q0, by omega, by omega, by omega, by omega⟩) z_fr_0 hW hS (lv_sub hl [0, 1, 2, 3, 4, 5] rfl)
    · have g46 := z_f_nle rfl z_l24 c9
      refine lv_ldc (v := (-2000000000)) hx hb hown (hts (.constant RX11 241 (-2000000000)) (me_s (me_l (me_l (me_l (me_l (me_l (me_l (me_l (List.mem_of_getElem? (i := 1) rfl)))))))))) dX11_foretold_26 ?_
      exact z_iret hx hb hr hK hS (Nat.le_of_ble_eq_true rfl) (Nat.le_of_ble_eq_true rfl) hlocks dX11_foretold_28 (shC c, ad, I, JX, PC c ad) hW ⟨I, rfl, ⟨(by show 0 ≤ (I 1 5).toInt ∧ (I 1 5).toInt ≤ 30; exact hH.1), (by show 0 ≤ (I 1 11).toInt ∧ (I 1 11).toInt ≤ 200; exact hH.2)⟩, (by show 0 ≤ (I 21 2).toInt ∧ (I 21 2).toInt ≤ 12; exact hO), ⟨(by show 0 ≤ (I 0 0).toInt ∧ (I 0 0).toInt ≤ 719; exact hB.1), (by show 0 ≤ (I 0 8).toInt ∧ (I 0 8).toInt ≤ 10; exact hB.2)⟩, (by show 0 ≤ (I 41 10).toInt ∧ (I 41 10).toInt ≤ 4; exact hL), z_fr_0, (Or.inr ⟨by omega, by decide⟩)⟩
  · have h47 := h3
    have z48 := z_l1
    have z49 := z_l12
    refine lv_if_eq (tgt := 26) hx hb dX11_foretold_15 (by decide) (fun c50 => ?_) (fun c50 => absurd (by decide) c50)
    refine lv_ldc (v := (-2000000000)) hx hb hown (hts (.constant RX11 241 (-2000000000)) (me_s (me_l (me_l (me_l (me_l (me_l (me_l (me_l (List.mem_of_getElem? (i := 1) rfl)))))))))) dX11_foretold_26 ?_
    exact z_iret hx hb hr hK hS (Nat.le_of_ble_eq_true rfl) (Nat.le_of_ble_eq_true rfl) hlocks dX11_foretold_28 (shC c, ad, I, JX, PC c ad) hW ⟨I, rfl, ⟨(by show 0 ≤ (I 1 5).toInt ∧ (I 1 5).toInt ≤ 30; exact hH.1), (by show 0 ≤ (I 1 11).toInt ∧ (I 1 11).toInt ≤ 200; exact hH.2)⟩, (by show 0 ≤ (I 21 2).toInt ∧ (I 21 2).toInt ≤ 12; exact hO), ⟨(by show 0 ≤ (I 0 0).toInt ∧ (I 0 0).toInt ≤ 719; exact hB.1), (by show 0 ≤ (I 0 8).toInt ∧ (I 0 8).toInt ≤ 10; exact hB.2)⟩, (by show 0 ≤ (I 41 10).toInt ∧ (I 41 10).toInt ≤ 4; exact hL), z_fr_0, (Or.inr ⟨by omega, by decide⟩)⟩
noncomputable def L_X12_foretold_k : z_L := [(24, 999), (30, 999)]
set_option maxHeartbeats 8000000 in
set_option maxRecDepth 100000 in
theorem sx_X12_foretold_k (l : Launch) (G : z_G) (ad : Nat → Nat) (I : z_I) (J : z_J) (hma : z_ima I) (hmb : z_imb I) (hmr : z_imr I) (hAtf : z_rg 11 0 288 I) (hAtm : z_rg 12 0 24 I) (hNd : z_Nd I) (hAsf : z_rg 19 0 6200 I) (hAst : z_rg 20 0 6200 I) (hAsc : z_rg 18 (-1) 6199 I) (hEx : z_Ex I) (FF : Nat → Nat) (RS : Nat → List zm_row) (a1 : Int32) (a2 : Int32) (hWm : zw_W I FF RS) (hab : ∀ q, q < (I 0 13).toNatClampNeg → 0 ≤ zi_am I 0 q ∧ zi_am I 0 q ≤ 999999) (hPo : ∀ j : Nat, (j : Int) < (I 0 75).toInt → 0 ≤ (I 52 j).toInt ∧ (I 52 j).toInt ≤ 50) : z_M l yX12_foretold wsX12_foretold { frames := 6, cells := 0, slots := 0, locals := 133 } [.ref (ad 0), .int a1, .int a2] G (shM, ad, I, J, PM ad) (fun r u1 => ∃ (I1 : z_I) (J1 : z_J), u1 = (shM, ad, I1, J1, PM ad) ∧ z_ima I1 ∧ z_imb I1 ∧ z_imr I1 ∧ z_rg 11 0 288 I1 ∧ z_rg 12 0 24 I1 ∧ z_Nd I1 ∧ z_rg 19 0 6200 I1 ∧ z_rg 20 0 6200 I1 ∧ z_rg 18 (-1) 6199 I1 ∧ z_Ex I1 ∧ z_fr L_X12_foretold_k I1 I ∧ ((((1 ≤ a1.toInt ∧ a1.toInt ≤ 12) ∧ (I 0 0).toInt / 30 + a1.toInt ≤ 24) ∧ r.toInt = zk_r (zd_S (zk_q I) (I 0 75).toNatClampNeg) (zd_S (zk_Q I RS a2.toInt ((I 0 0).toInt / 30)) a1.toInt.toNat)) ∨ (¬ ((1 ≤ a1.toInt ∧ a1.toInt ≤ 12) ∧ (I 0 0).toInt / 30 + a1.toInt ≤ 24) ∧ r.toInt = -2000000000))) 0 0 := sorry
end SG60zh
section SG60zi


/-! STATIONS' rows: what was DELIVERED and POURED ahead of each DIP -/
noncomputable def zu_r (K I : z_I) : Prop := ∀ q i j : Nat, q < 10 → 1 ≤ i → i ≤ 4 → K (100 + 8 * q + i) j = I (100 + 8 * q + i) j
theorem zu_r_0 {I : z_I} : zu_r I I := fun _ _ _ _ _ _ => rfl
theorem zu_r_fr {K I : z_I} {L : z_L} (hf : z_fr L K I) (hL : L.all (fun e => decide (e.1 < 100)) = true) : zu_r K I := fun q i j hq h1 h4 => by
  have hw : z_wr L (100 + 8 * q + i) j = false := by
    cases hz : z_wr L (100 + 8 * q + i) j with
    | false => rfl
    | true =>
      exfalso
      unfold z_wr at hz
      rw [List.any_eq_true] at hz
      obtain ⟨e, he, h2⟩ := hz
      rw [List.all_eq_true] at hL
      have h3 := hL e he
      simp only [z_ce, Bool.and_eq_true, Bool.or_eq_true, beq_iff_eq, decide_eq_true_eq] at h2 h3
      omega
  exact hf _ _ hw
noncomputable def zu_k (K I : z_I) : Prop := z_sk K I ∧ zu_r K I
theorem zu_k_0 {I : z_I} : zu_k I I := ⟨z_sk_0, zu_r_0⟩
theorem zu_k_t {K I I0 : z_I} (h1 : zu_k K I) (h2 : zu_k I I0) : zu_k K I0 := ⟨z_sk_t h1.1 h2.1, fun q i j a b c => (h1.2 q i j a b c).trans (h2.2 q i j a b c)⟩
theorem zu_k_n {K I I0 : z_I} {a j : Nat} {v : Int32} (h : zu_k I I0) (ha : a < 100) (e : K = z_up I a j v) : zu_k K I0 := ⟨z_sk_n h.1 ha e, fun q i k hq h1 h4 => by
  rw [e, z_up_n (by omega)]
  exact h.2 q i k hq h1 h4⟩
theorem zu_k_a {K I I0 : z_I} {r i j : Nat} {v : Int32} (h : zu_k I I0) (hi : 5 ≤ i ∧ i ≤ 7) (hr : r < 10) (e : K = z_up I (100 + 8 * r + i) j v) : zu_k K I0 := ⟨z_sk_a h.1 ⟨by omega, hi.2⟩ hr e, fun q i2 k hq h1 h4 => by
  rw [e, z_up_n (by omega)]
  exact h.2 q i2 k hq h1 h4⟩
theorem zu_k_fr {K I I0 : z_I} {L : z_L} (h : zu_k I I0) (hf : z_fr L K I) (hL : L.all (fun e => decide (e.1 < 100)) = true) : zu_k K I0 := ⟨z_sk_fr h.1 hf hL, fun q i j hq h1 h4 => (zu_r_fr hf hL q i j hq h1 h4).trans (h.2 q i j hq h1 h4)⟩
/-- a new STATION: the others' rows stay -/
noncomputable def zu_n (I1 I : z_I) (n : Nat) : Prop := ∀ q i j : Nat, q < 10 → q ≠ n → 1 ≤ i → i ≤ 4 → I1 (100 + 8 * q + i) j = I (100 + 8 * q + i) j
theorem zu_n_of {c : z_C} {I I2 : z_I} {y : Int32} (e : I2 = z_up (z_I8 I (z_i0 c)) 0 8 y) : zu_n I2 I c.1 := fun q i j hq hn h1 h4 => by
  rw [e, z_up_n (by omega)]
  exact if_neg (by unfold z_i0; omega)
/-- a DIP's rows -/
noncomputable def zu_d (I1 I : z_I) (k n : Nat) (v1 v2 v3 v4 : Int32) : Prop := ∀ q i j : Nat, q < 10 → 1 ≤ i → i ≤ 4 → I1 (100 + 8 * q + i) j = if q = k ∧ j = n then (if i = 1 then v1 else if i = 2 then v2 else if i = 3 then v3 else v4) else I (100 + 8 * q + i) j
theorem zu_d_of {I I1 I2 I3 I4 I5 : z_I} {k n : Nat} {v1 v2 v3 v4 x : Int32} (e1 : I1 = z_up I (100 + 8 * k + 1) n v1) (e2 : I2 = z_up I1 (100 + 8 * k + 2) n v2) (e3 : I3 = z_up I2 (100 + 8 * k + 3) n v3) (e4 : I4 = z_up I3 (100 + 8 * k + 4) n v4) (e5 : I5 = z_up I4 (100 + 8 * k) 4 x) : zu_d I5 I k n v1 v2 v3 v4 := fun q i j hq h1 h4 => by
  have hi : i = 1 ∨ i = 2 ∨ i = 3 ∨ i = 4 := by omega
  by_cases hqk : q = k
  · by_cases hj : j = n
    · rw [if_pos ⟨hqk, hj⟩, hqk, hj]
      rcases hi with e | e | e | e
      · rw [e, if_pos rfl, e5, z_up_n (by omega), e4, z_up_n (by omega), e3, z_up_n (by omega), e2, z_up_n (by omega), e1, z_up_s]
      · rw [e, if_neg (by decide), if_pos rfl, e5, z_up_n (by omega), e4, z_up_n (by omega), e3, z_up_n (by omega), e2, z_up_s]
      · rw [e, if_neg (by decide), if_neg (by decide), if_pos rfl, e5, z_up_n (by omega), e4, z_up_n (by omega), e3, z_up_s]
      · rw [e, if_neg (by decide), if_neg (by decide), if_neg (by decide), e5, z_up_n (by omega), e4, z_up_s]
    · rw [if_neg (fun h => hj h.2), hqk]
      rcases hi with e | e | e | e
      · rw [e, e5, z_up_n (by omega), e4, z_up_n (by omega), e3, z_up_n (by omega), e2, z_up_n (by omega), e1, z_up_k hj]
      · rw [e, e5, z_up_n (by omega), e4, z_up_n (by omega), e3, z_up_n (by omega), e2, z_up_k hj, e1, z_up_n (by omega)]
      · rw [e, e5, z_up_n (by omega), e4, z_up_n (by omega), e3, z_up_k hj, e2, z_up_n (by omega), e1, z_up_n (by omega)]
      · rw [e, e5, z_up_n (by omega), e4, z_up_k hj, e3, z_up_n (by omega), e2, z_up_n (by omega), e1, z_up_n (by omega)]
  · rw [if_neg (fun h => hqk h.1), e5, z_up_n (by omega), e4, z_up_n (by omega), e3, z_up_n (by omega), e2, z_up_n (by omega), e1, z_up_n (by omega)]
/-! sums -/
noncomputable def zu_s (f : Nat → Int) : Nat → Int
  | 0 => 0
  | n + 1 => zu_s f n + f n
theorem zu_s_s {f : Nat → Int} {n : Nat} : zu_s f (n + 1) = zu_s f n + f n := rfl
theorem zu_s_c {f g : Nat → Int} : ∀ n : Nat, (∀ j, j < n → g j = f j) → zu_s g n = zu_s f n
  | 0, _ => rfl
  | n + 1, h => by rw [zu_s, zu_s, zu_s_c n (fun j hj => h j (by omega)), h n (Nat.lt_succ_self n)]
theorem zu_s_b {f : Nat → Int} {B : Int} (hB : 0 ≤ B) : ∀ n : Nat, (∀ j, j < n → 0 ≤ f j ∧ f j ≤ B) → 0 ≤ zu_s f n ∧ zu_s f n ≤ B * (n : Int)
  | 0, _ => ⟨Int.le_refl _, by
    show (0 : Int) ≤ B * 0
    rw [Int.mul_zero]
    exact Int.le_refl _⟩
  | n + 1, h => by
    have ih := zu_s_b hB n (fun j hj => h j (by omega))
    have hn := h n (Nat.lt_succ_self n)
    have e : B * ((n + 1 : Nat) : Int) = B * (n : Int) + B := by
      have q := Int.mul_add B (n : Int) 1
      rw [Int.mul_one] at q
      exact q
    rw [zu_s, e]
    omega
theorem zu_s_m {f : Nat → Int} (hf : ∀ j, 0 ≤ f j) {a : Nat} : ∀ d : Nat, zu_s f a ≤ zu_s f (a + d)
  | 0 => Int.le_refl _
  | d + 1 => by
    have ih := zu_s_m hf (a := a) d
    have h := hf (a + d)
    show _ ≤ zu_s f (a + d + 1)
    rw [zu_s]
    omega
/-- what lies from a to b -/
theorem zu_s_i {f g : Nat → Int} {a b : Nat} (hab : a ≤ b) : ∀ n : Nat, (∀ j, j < n → ((a ≤ j ∧ j < b) → g j = f j) ∧ (¬ (a ≤ j ∧ j < b) → g j = 0)) → zu_s g n = zu_s f (min n b) - zu_s f (min n a)
  | 0, _ => by rw [Nat.zero_min, Nat.zero_min]; simp [zu_s]
  | n + 1, h => by
    have ih := zu_s_i hab n (fun j hj => h j (by omega))
    obtain ⟨h1, h2⟩ := h n (Nat.lt_succ_self n)
    rw [zu_s, ih]
    by_cases q : a ≤ n ∧ n < b
    · rw [h1 q, show min (n + 1) b = n + 1 by omega, show min n b = n by omega, show min (n + 1) a = a by omega, show min n a = a by omega, zu_s]
      omega
    · rw [h2 q]
      by_cases w : n < a
      · rw [show min (n + 1) b = n + 1 by omega, show min n b = n by omega, show min (n + 1) a = n + 1 by omega, show min n a = n by omega]
        omega
      · rw [show min (n + 1) b = b by omega, show min n b = b by omega, show min (n + 1) a = a by omega, show min n a = a by omega]
        omega
theorem zu_s_ab {f g : Nat → Int} {a b n : Nat} (hab : a ≤ b) (hb : b ≤ n) (h : ∀ j, j < n → ((a ≤ j ∧ j < b) → g j = f j) ∧ (¬ (a ≤ j ∧ j < b) → g j = 0)) : zu_s g n = zu_s f b - zu_s f a := by
  rw [zu_s_i hab n h, show min n b = b by omega, show min n a = a by omega]
noncomputable def zu_gv (I : z_I) (s : Nat) (g : Nat) : Int := (I 45 (30 * s + g)).toInt
noncomputable def zu_G (I : z_I) (s : Nat) (n : Nat) : Int := zu_s (zu_gv I s) n
theorem zu_G_c {I K : z_I} {s : Nat} (n : Nat) (h : ∀ g, g < n → K 45 (30 * s + g) = I 45 (30 * s + g)) : zu_G K s n = zu_G I s n := zu_s_c n (fun g hg => by unfold zu_gv; rw [h g hg])
/-! the relation -/
noncomputable def zu_po (Ix Im : z_I) (P C : Int) : Prop := ∀ p : Nat, (p : Int) < (Ix 30 8).toInt → ((p : Int) < P → (Im 41 p).toInt < C) ∧ (P ≤ (p : Int) → C < (Im 41 p).toInt)
noncomputable def zu_gi (Im : z_I) (s : Nat) (C v : Int) : Prop := ∃ g : Nat, (g : Int) ≤ (Im 43 s).toInt ∧ v = zu_G Im s g ∧ ∀ i : Nat, (i : Int) < (Im 43 s).toInt → (i < g → (Im 46 (30 * s + i)).toInt < C) ∧ (g ≤ i → C < (Im 46 (30 * s + i)).toInt)
noncomputable def zu_d1 (Ix Im : z_I) (s k : Nat) : Prop := (Ix (100 + 8 * s + 2) k = Im 49 (30 * s + k) ∧ Ix (100 + 8 * s + 1) k = Im 48 (30 * s + k)) ∧ (0 ≤ (Im 49 (30 * s + k)).toInt ∧ (Im 49 (30 * s + k)).toInt ≤ 719) ∧ (0 ≤ (Im 48 (30 * s + k)).toInt ∧ (Im 48 (30 * s + k)).toInt ≤ 200000) ∧ (Im 50 (30 * s + k)).toInt < (Im 0 56).toInt ∧ (0 ≤ (Ix (100 + 8 * s + 4) k).toInt ∧ (Ix (100 + 8 * s + 4) k).toInt ≤ (Ix 30 8).toInt) ∧ zu_po Ix Im (Ix (100 + 8 * s + 4) k).toInt (Im 50 (30 * s + k)).toInt ∧ zu_gi Im s (Im 50 (30 * s + k)).toInt (Ix (100 + 8 * s + 3) k).toInt
noncomputable def zu_g (Im : z_I) (s : Nat) : Prop := ∀ g : Nat, (g : Int) < (Im 43 s).toInt → (0 ≤ (Im 45 (30 * s + g)).toInt ∧ (Im 45 (30 * s + g)).toInt ≤ 100000) ∧ (Im 46 (30 * s + g)).toInt < (Im 0 56).toInt
noncomputable def zu_S (Ix Im : z_I) (s : Nat) : Prop := zu_g Im s ∧ (Im 44 s).toInt = zu_G Im s (Im 43 s).toNatClampNeg ∧ (∀ k : Nat, (k : Int) < (Im 47 s).toInt → zu_d1 Ix Im s k) ∧ ∀ k : Nat, (k : Int) + 1 < (Im 47 s).toInt → (Im 50 (30 * s + k)).toInt < (Im 50 (30 * s + k + 1)).toInt
noncomputable def zu_T (Ix Im : z_I) (q : Int) : Prop := (0 ≤ (Im 0 56).toInt ∧ 7 * (Im 0 56).toInt ≤ q) ∧ (∀ p : Nat, (p : Int) < (Ix 30 8).toInt → (Im 41 p).toInt < (Im 0 56).toInt ∧ 0 ≤ (Ix 35 p).toInt ∧ (Ix 35 p).toInt ≤ 999999) ∧ ∀ s : Nat, s < 10 → zu_S Ix Im s
theorem zu_po_c {Ix Im Ix1 Im1 : z_I} {P C : Int} (h : zu_po Ix Im P C) (eN : (Ix1 30 8).toInt = (Ix 30 8).toInt) (e : ∀ j, Im1 41 j = Im 41 j) : zu_po Ix1 Im1 P C := fun p hp => by
  rw [e]
  exact h p (by omega)
theorem zu_po_p {Ix Im Ix1 Im1 : z_I} {P C : Int} {n : Nat} {v : Int32} (h : zu_po Ix Im P C) (eN : (Ix1 30 8).toInt = (Ix 30 8).toInt + 1) (hn : (n : Int) = (Ix 30 8).toInt) (e : ∀ j, Im1 41 j = if j = n then v else Im 41 j) (hv : C < v.toInt) (hP : P ≤ (Ix 30 8).toInt) : zu_po Ix1 Im1 P C := fun p hp => by
  rw [e]
  by_cases q : p = n
  · rw [if_pos q]
    exact ⟨fun hl => absurd hl (by omega), fun _ => hv⟩
  · rw [if_neg q]
    exact h p (by omega)
theorem zu_gi_c {Im Im1 : z_I} {s : Nat} {C v : Int} (h : zu_gi Im s C v) (e43 : Im1 43 s = Im 43 s) (e : ∀ g : Nat, (g : Int) < (Im 43 s).toInt → Im1 45 (30 * s + g) = Im 45 (30 * s + g) ∧ Im1 46 (30 * s + g) = Im 46 (30 * s + g)) : zu_gi Im1 s C v := by
  obtain ⟨g, g1, g2, g3⟩ := h
  refine ⟨g, by rw [e43]; exact g1, by rw [g2]; exact (zu_G_c g (fun i hi => (e i (by omega)).1)).symm, fun i hi => ?_⟩
  rw [e43] at hi
  rw [(e i hi).2]
  exact g3 i hi
theorem zu_gi_g {Im Im1 : z_I} {s n : Nat} {C v : Int} (h : zu_gi Im s C v) (hn : (n : Int) = (Im 43 s).toInt) (e43 : (Im1 43 s).toInt = (Im 43 s).toInt + 1) (e : ∀ g : Nat, g < n → Im1 45 (30 * s + g) = Im 45 (30 * s + g) ∧ Im1 46 (30 * s + g) = Im 46 (30 * s + g)) (hv : C < (Im1 46 (30 * s + n)).toInt) : zu_gi Im1 s C v := by
  obtain ⟨g, g1, g2, g3⟩ := h
  refine ⟨g, by omega, by rw [g2]; exact (zu_G_c g (fun i hi => (e i (by omega)).1)).symm, fun i hi => ?_⟩
  by_cases q : i = n
  · rw [q]
    exact ⟨fun hl => absurd hl (by omega), fun _ => hv⟩
  · rw [(e i (by omega)).2]
    exact g3 i (by omega)
theorem zu_d1_c {Ix Im Ix1 Im1 : z_I} {s k : Nat} (h : zu_d1 Ix Im s k) (hr : ∀ i : Nat, 1 ≤ i → i ≤ 4 → Ix1 (100 + 8 * s + i) k = Ix (100 + 8 * s + i) k) (e48 : Im1 48 (30 * s + k) = Im 48 (30 * s + k)) (e49 : Im1 49 (30 * s + k) = Im 49 (30 * s + k)) (e50 : Im1 50 (30 * s + k) = Im 50 (30 * s + k)) (hC : (Im 0 56).toInt ≤ (Im1 0 56).toInt) (hN : (Ix 30 8).toInt ≤ (Ix1 30 8).toInt) (hpo : ∀ P C : Int, P ≤ (Ix 30 8).toInt → C < (Im 0 56).toInt → zu_po Ix Im P C → zu_po Ix1 Im1 P C) (hgi : ∀ C v : Int, C < (Im 0 56).toInt → zu_gi Im s C v → zu_gi Im1 s C v) : zu_d1 Ix1 Im1 s k := by
  obtain ⟨⟨a1, a2⟩, a3, a4, a5, a6, a7, a8⟩ := h
  unfold zu_d1
  rw [e48, e49, e50, hr 1 (by decide) (by decide), hr 2 (by decide) (by decide), hr 3 (by decide) (by decide), hr 4 (by decide) (by decide)]
  exact ⟨⟨a1, a2⟩, a3, a4, by omega, ⟨a6.1, by omega⟩, hpo _ _ a6.2 a5 a7, hgi _ _ a5 a8⟩
theorem zu_T_same {Ix Im Ix1 Im1 : z_I} {q q1 : Int} (h : zu_T Ix Im q) (hq : q ≤ q1) (eN : (Ix1 30 8).toInt = (Ix 30 8).toInt) (e35 : ∀ j, Ix1 35 j = Ix 35 j) (hr : ∀ s i k : Nat, s < 10 → (k : Int) < (Im 47 s).toInt → 1 ≤ i → i ≤ 4 → Ix1 (100 + 8 * s + i) k = Ix (100 + 8 * s + i) k) (eC : Im1 0 56 = Im 0 56) (hm : ∀ j, Im1 41 j = Im 41 j ∧ Im1 43 j = Im 43 j ∧ Im1 44 j = Im 44 j ∧ Im1 45 j = Im 45 j ∧ Im1 46 j = Im 46 j ∧ Im1 47 j = Im 47 j ∧ Im1 48 j = Im 48 j ∧ Im1 49 j = Im 49 j ∧ Im1 50 j = Im 50 j) : zu_T Ix1 Im1 q1 := by
  obtain ⟨⟨a1, a2⟩, a3, a4⟩ := h
  refine ⟨⟨by rw [eC]; exact a1, by rw [eC]; omega⟩, fun p hp => by rw [(hm p).1, e35, eC]; exact a3 p (by omega), fun s hs => ?_⟩
  obtain ⟨b1, b2, b3, b4⟩ := a4 s hs
  refine ⟨fun g hg => ?_, ?_, fun k hk => ?_, fun k hk => ?_⟩
  · rw [(hm s).2.1] at hg
    rw [(hm _).2.2.2.1, (hm _).2.2.2.2.1, eC]
    exact b1 g hg
  · rw [(hm s).2.2.1, (hm s).2.1, zu_G_c _ (fun g _ => (hm _).2.2.2.1)]
    exact b2
  · rw [(hm s).2.2.2.2.2.1] at hk
    exact zu_d1_c (b3 k hk) (fun i h1 h4 => hr s i k hs hk h1 h4) (hm _).2.2.2.2.2.2.1 (hm _).2.2.2.2.2.2.2.1 (hm _).2.2.2.2.2.2.2.2 (by rw [eC]; exact Int.le_refl _) (by omega) (fun P C _ _ w => zu_po_c w eN (fun j => (hm j).1)) (fun C v _ w => zu_gi_c w (hm s).2.1 (fun g _ => ⟨(hm _).2.2.2.1, (hm _).2.2.2.2.1⟩))
  · rw [(hm s).2.2.2.2.2.1] at hk
    rw [(hm _).2.2.2.2.2.2.2.2, (hm _).2.2.2.2.2.2.2.2]
    exact b4 k hk
theorem zu_a1 {x y : Int32} {a : Int} (e : y = x + 1) (hx : x.toInt = a) (h : -2147483648 ≤ a ∧ a < 2147483647) : y.toInt = a + 1 := z_tadd e hx (show (1 : Int32).toInt = 1 by decide) (by omega) (by omega)
theorem zu_T_pour {Ix Im Ix1 Im1 : z_I} {q q1 : Int} {n n1 : Nat} {te : Int32} (h : zu_T Ix Im q) (hq : q + 7 ≤ q1) (hq9 : q ≤ 3577) (eN : (Ix1 30 8).toInt = (Ix 30 8).toInt + 1) (hn : (n : Int) = (Ix 30 8).toInt) (en1 : n1 = n) (e35 : ∀ j, Ix1 35 j = if j = n then te else Ix 35 j) (ht : 0 ≤ te.toInt ∧ te.toInt ≤ 999999) (hr : zu_r Ix1 Ix) (e41 : ∀ j, Im1 41 j = if j = n1 then Im 0 56 else Im 41 j) (eC : Im1 0 56 = Im 0 56 + 1) (hm : ∀ j, Im1 43 j = Im 43 j ∧ Im1 44 j = Im 44 j ∧ Im1 45 j = Im 45 j ∧ Im1 46 j = Im 46 j ∧ Im1 47 j = Im 47 j ∧ Im1 48 j = Im 48 j ∧ Im1 49 j = Im 49 j ∧ Im1 50 j = Im 50 j) : zu_T Ix1 Im1 q1 := by
  subst en1
  obtain ⟨⟨a1, a2⟩, a3, a4⟩ := h
  have eC2 := zu_a1 eC rfl (by omega)
  refine ⟨⟨by omega, by omega⟩, fun p hp => ?_, fun s hs => ?_⟩
  · rw [e41, e35]
    by_cases w : p = n1
    · rw [if_pos w, if_pos w]
      exact ⟨by omega, ht⟩
    · rw [if_neg w, if_neg w]
      have w1 := a3 p (by omega)
      exact ⟨by omega, w1.2⟩
  · obtain ⟨b1, b2, b3, b4⟩ := a4 s hs
    refine ⟨fun g hg => ?_, ?_, fun k hk => ?_, fun k hk => ?_⟩
    · rw [(hm s).1] at hg
      rw [(hm _).2.2.1, (hm _).2.2.2.1]
      have w1 := b1 g hg
      exact ⟨w1.1, by omega⟩
    · rw [(hm s).2.1, (hm s).1, zu_G_c _ (fun g _ => (hm _).2.2.1)]
      exact b2
    · rw [(hm s).2.2.2.2.1] at hk
      exact zu_d1_c (b3 k hk) (fun i h1 h4 => hr s i k hs h1 h4) (hm _).2.2.2.2.2.1 (hm _).2.2.2.2.2.2.1 (hm _).2.2.2.2.2.2.2 (by omega) (by omega) (fun P C hP hC w => zu_po_p w eN hn e41 hC hP) (fun C v _ w => zu_gi_c w (hm s).1 (fun g _ => ⟨(hm _).2.2.1, (hm _).2.2.2.1⟩))
    · rw [(hm s).2.2.2.2.1] at hk
      rw [(hm _).2.2.2.2.2.2.2, (hm _).2.2.2.2.2.2.2]
      exact b4 k hk
theorem zu_T_deliver {Ix Im Ix1 Im1 : z_I} {q q1 : Int} {s0 x : Nat} {t : Int32} (h : zu_T Ix Im q) (hq : q + 7 ≤ q1) (hq9 : q ≤ 3577) (hs0 : s0 < 10) (eN : (Ix1 30 8).toInt = (Ix 30 8).toInt) (e35 : ∀ j, Ix1 35 j = Ix 35 j) (hr : zu_r Ix1 Ix) (hg : z_rg 43 0 30 Im) (h30 : (Im 43 s0).toInt < 30) (ht : 1 ≤ t.toInt ∧ t.toInt ≤ 100000) (hx : (x : Int) = 30 * (s0 : Int) + (Im 43 s0).toInt) (e43 : ∀ j, Im1 43 j = if j = s0 then Im 43 s0 + 1 else Im 43 j) (e44 : ∀ j, Im1 44 j = if j = s0 then Im 44 s0 + t else Im 44 j) (e45 : ∀ j, Im1 45 j = if j = x then t else Im 45 j) (e46 : ∀ j, Im1 46 j = if j = x then Im 0 56 else Im 46 j) (eC : Im1 0 56 = Im 0 56 + 1) (hm : ∀ j, Im1 41 j = Im 41 j ∧ Im1 47 j = Im 47 j ∧ Im1 48 j = Im 48 j ∧ Im1 49 j = Im 49 j ∧ Im1 50 j = Im 50 j) : zu_T Ix1 Im1 q1 := by
  obtain ⟨⟨a1, a2⟩, a3, a4⟩ := h
  have eC2 := zu_a1 eC rfl (by omega)
  have g0 := hg s0
  have n0 := z_clt (x := Im 43 s0) rfl g0.1
  have e43s : (Im1 43 s0).toInt = (Im 43 s0).toInt + 1 := zu_a1 (by rw [e43, if_pos rfl]) rfl (by omega)
  refine ⟨⟨by omega, by omega⟩, fun p hp => by rw [(hm p).1, e35]; have w1 := a3 p (by omega); exact ⟨by omega, w1.2⟩, fun s hs => ?_⟩
  obtain ⟨b1, b2, b3, b4⟩ := a4 s hs
  have old : ∀ g : Nat, (g : Int) < (Im 43 s).toInt → Im1 45 (30 * s + g) = Im 45 (30 * s + g) ∧ Im1 46 (30 * s + g) = Im 46 (30 * s + g) := fun g hgl => by
    have gs := hg s
    by_cases w : s = s0
    · subst w
      rw [e45, e46, if_neg (by omega), if_neg (by omega)]
      exact ⟨rfl, rfl⟩
    · rw [e45, e46, if_neg (by omega), if_neg (by omega)]
      exact ⟨rfl, rfl⟩
  have new : s = s0 → Im1 45 (30 * s + (Im 43 s0).toNatClampNeg) = t ∧ Im1 46 (30 * s + (Im 43 s0).toNatClampNeg) = Im 0 56 := fun w => by
    rw [e45, e46, if_pos (by omega), if_pos (by omega)]
    exact ⟨rfl, rfl⟩
  refine ⟨fun g hgl => ?_, ?_, fun k hk => ?_, fun k hk => ?_⟩
  · by_cases w : s = s0
    · have w2 := e43s
      rw [← w] at w2
      by_cases w3 : g = (Im 43 s0).toNatClampNeg
      · rw [w3, (new w).1, (new w).2]
        exact ⟨⟨by omega, ht.2⟩, by omega⟩
      · have hgo : (g : Int) < (Im 43 s).toInt := by
          rw [w] at w2 hgl ⊢
          omega
        rw [(old g hgo).1, (old g hgo).2]
        have w1 := b1 g hgo
        exact ⟨w1.1, by omega⟩
    · have hgo : (g : Int) < (Im 43 s).toInt := by
        rw [e43, if_neg w] at hgl
        exact hgl
      rw [(old g hgo).1, (old g hgo).2]
      have w1 := b1 g hgo
      exact ⟨w1.1, by omega⟩
  · by_cases w : s = s0
    · have hb : 0 ≤ (Im 44 s0).toInt ∧ (Im 44 s0).toInt ≤ 3000000 := by
        rw [w] at b2
        rw [b2]
        have w5 := zu_s_b (B := 100000) (f := zu_gv Im s0) (by decide) (Im 43 s0).toNatClampNeg (fun j hj => by rw [w] at b1; exact (b1 j (by omega)).1)
        unfold zu_G
        omega
      have e4 : (Im1 44 s).toInt = (Im 44 s0).toInt + t.toInt := z_tadd (by rw [e44, if_pos w]) rfl rfl (by omega) (by omega)
      have e5 : (Im1 43 s).toNatClampNeg = (Im 43 s0).toNatClampNeg + 1 := by
        rw [w]
        show (Im1 43 s0).toInt.toNat = _
        omega
      rw [e4, e5]
      show _ = zu_s (zu_gv Im1 s) (Im 43 s0).toNatClampNeg + zu_gv Im1 s (Im 43 s0).toNatClampNeg
      have e6 : zu_gv Im1 s (Im 43 s0).toNatClampNeg = t.toInt := congrArg Int32.toInt (new w).1
      have e7 : zu_s (zu_gv Im1 s) (Im 43 s0).toNatClampNeg = (Im 44 s0).toInt := by
        rw [w] at b2 old
        rw [b2, w]
        exact zu_G_c _ (fun g hgl => (old g (by omega)).1)
      rw [e6, e7]
    · rw [e44, if_neg w, e43, if_neg w, zu_G_c _ (fun g hgl => (old g (by have gs := hg s; have ns := z_clt (x := Im 43 s) rfl gs.1; omega)).1)]
      exact b2
  · rw [(hm s).2.1] at hk
    refine zu_d1_c (b3 k hk) (fun i h1 h4 => hr s i k hs h1 h4) (hm _).2.2.1 (hm _).2.2.2.1 (hm _).2.2.2.2 (by omega) (by omega) (fun P C _ _ w => zu_po_c w eN (fun j => (hm j).1)) (fun C v hC w9 => ?_)
    by_cases w : s = s0
    · refine zu_gi_g (n := (Im 43 s0).toNatClampNeg) w9 (by rw [w]; exact n0) (by rw [w]; exact e43s) (fun g hgl => old g (by rw [w]; omega)) ?_
      rw [(new w).2]
      exact hC
    · exact zu_gi_c w9 (by rw [e43, if_neg w]) old
  · rw [(hm s).2.1] at hk
    rw [(hm _).2.2.2.2, (hm _).2.2.2.2]
    exact b4 k hk
theorem zu_T_dip {Ix Im Ix1 Im1 : z_I} {q q1 : Int} {s0 x : Nat} {t d v3 v4 : Int32} (h : zu_T Ix Im q) (hq : q + 7 ≤ q1) (hq9 : q ≤ 3577) (hs0 : s0 < 10) (eN : (Ix1 30 8).toInt = (Ix 30 8).toInt) (h0 : 0 ≤ (Ix 30 8).toInt) (e35 : ∀ j, Ix1 35 j = Ix 35 j) (hd : z_rg 47 0 30 Im) (hg : z_rg 43 0 30 Im) (h30 : (Im 47 s0).toInt < 30) (ht : 0 ≤ t.toInt ∧ t.toInt ≤ 200000) (hdy : 0 ≤ d.toInt ∧ d.toInt ≤ 719) (hr : zu_d Ix1 Ix s0 (Im 47 s0).toNatClampNeg t d v3 v4) (h3 : v3 = Im 44 s0) (h4 : v4 = Ix 30 8) (hx : (x : Int) = 30 * (s0 : Int) + (Im 47 s0).toInt) (e47 : ∀ j, Im1 47 j = if j = s0 then Im 47 s0 + 1 else Im 47 j) (e48 : ∀ j, Im1 48 j = if j = x then t else Im 48 j) (e49 : ∀ j, Im1 49 j = if j = x then d else Im 49 j) (e50 : ∀ j, Im1 50 j = if j = x then Im 0 56 else Im 50 j) (eC : Im1 0 56 = Im 0 56 + 1) (hm : ∀ j, Im1 41 j = Im 41 j ∧ Im1 43 j = Im 43 j ∧ Im1 44 j = Im 44 j ∧ Im1 45 j = Im 45 j ∧ Im1 46 j = Im 46 j) : zu_T Ix1 Im1 q1 := sorry
theorem zu_T_station {Ix Im Ix1 Im1 : z_I} {q q1 : Int} {n : Nat} (h : zu_T Ix Im q) (hq : q ≤ q1) (eN : (Ix1 30 8).toInt = (Ix 30 8).toInt) (e35 : ∀ j, Ix1 35 j = Ix 35 j) (hr : zu_n Ix1 Ix n) (h47 : n < 10 → Im 47 n = 0) (eC : Im1 0 56 = Im 0 56) (hm : ∀ j, Im1 41 j = Im 41 j ∧ Im1 43 j = Im 43 j ∧ Im1 44 j = Im 44 j ∧ Im1 45 j = Im 45 j ∧ Im1 46 j = Im 46 j ∧ Im1 47 j = Im 47 j ∧ Im1 48 j = Im 48 j ∧ Im1 49 j = Im 49 j ∧ Im1 50 j = Im 50 j) : zu_T Ix1 Im1 q1 := zu_T_same h hq eN e35 (fun s i k hs hk h1 h4 => hr s i k hs (fun e => by
  rw [e] at hs hk
  rw [h47 hs] at hk
  have z := z_l0
  omega) h1 h4) eC hm
/-! IN between two DIPS -/
noncomputable def zu_f (I : z_I) (s : Int) (p : Nat) : Int := if (I 31 p).toInt = s ∧ ¬ (I 36 p).toInt = 1 ∧ ¬ (I 36 p).toInt = 2 ∧ ¬ (I 36 p).toInt = 4 then (I 35 p).toInt else 0
theorem zu_f_y {I : z_I} {s : Int} {p : Nat} (h : (I 31 p).toInt = s ∧ ¬ (I 36 p).toInt = 1 ∧ ¬ (I 36 p).toInt = 2 ∧ ¬ (I 36 p).toInt = 4) : zu_f I s p = (I 35 p).toInt := if_pos h
theorem zu_f_n {I : z_I} {s : Int} {p : Nat} (h : ¬ ((I 31 p).toInt = s ∧ ¬ (I 36 p).toInt = 1 ∧ ¬ (I 36 p).toInt = 2 ∧ ¬ (I 36 p).toInt = 4)) : zu_f I s p = 0 := if_neg h
noncomputable def zu_I (c : z_C) (I : z_I) (k : Nat) (s : Int) (j : Nat) : Int := (I (100 + 8 * k + 3) (j + 1)).toInt - (I (100 + 8 * k + 3) j).toInt - (zu_s (zu_f I s) (I (100 + 8 * k + 4) (j + 1)).toNatClampNeg - zu_s (zu_f I s) (I (100 + 8 * k + 4) j).toNatClampNeg) - zb_ax c I 3 ((I (100 + 8 * k + 2) j).toInt / 30) (I 0 0).toInt * ((I (100 + 8 * k + 2) (j + 1)).toInt - (I (100 + 8 * k + 2) j).toInt)
noncomputable def zu_D (I : z_I) (k : Nat) : Prop := ∀ j : Nat, (j : Int) < (I (100 + 8 * k) 4).toInt → (0 ≤ (I (100 + 8 * k + 2) j).toInt ∧ (I (100 + 8 * k + 2) j).toInt ≤ 719) ∧ (0 ≤ (I (100 + 8 * k + 1) j).toInt ∧ (I (100 + 8 * k + 1) j).toInt ≤ 200000) ∧ (0 ≤ (I (100 + 8 * k + 3) j).toInt ∧ (I (100 + 8 * k + 3) j).toInt ≤ 3000000) ∧ 0 ≤ (I (100 + 8 * k + 4) j).toInt ∧ (I (100 + 8 * k + 4) j).toInt ≤ (I 30 8).toInt
noncomputable def zu_M (I : z_I) (k : Nat) : Prop := ∀ j : Nat, (j : Int) + 1 < (I (100 + 8 * k) 4).toInt → (I (100 + 8 * k + 4) j).toInt ≤ (I (100 + 8 * k + 4) (j + 1)).toInt
theorem zu_mb {a s : Int} (ha : 0 ≤ a ∧ a ≤ 999999) (hs : -719 ≤ s ∧ s ≤ 719) : -718999281 ≤ a * s ∧ a * s ≤ 718999281 := by
  have h1 := Int.mul_le_mul_of_nonneg_left hs.2 ha.1
  have h2 := Int.mul_le_mul_of_nonneg_left hs.1 ha.1
  omega
theorem zu_R_b {mo td : Nat → Int} {m k t : Int} {n : Nat} {r : Int} {a : Nat → Int} (h : zi_R mo td m k n (zi_us t) a r) (ha : ∀ j, j < n → 0 ≤ a j ∧ a j ≤ 999999) : 0 ≤ r ∧ r ≤ 999999 := zi_R_b h zi_us_b ha
/-! the reference's -/
noncomputable def zu_jg (I : z_I) (s j : Nat) (g : Nat) : Int := if (I 50 (30 * s + j)).toInt < (I 46 (30 * s + g)).toInt ∧ (I 46 (30 * s + g)).toInt < (I 50 (30 * s + j + 1)).toInt then (I 45 (30 * s + g)).toInt else 0
theorem zu_jg_y {I : z_I} {s j g : Nat} (h : (I 50 (30 * s + j)).toInt < (I 46 (30 * s + g)).toInt ∧ (I 46 (30 * s + g)).toInt < (I 50 (30 * s + j + 1)).toInt) : zu_jg I s j g = (I 45 (30 * s + g)).toInt := if_pos h
theorem zu_jg_n {I : z_I} {s j g : Nat} (h : ¬ ((I 50 (30 * s + j)).toInt < (I 46 (30 * s + g)).toInt ∧ (I 46 (30 * s + g)).toInt < (I 50 (30 * s + j + 1)).toInt)) : zu_jg I s j g = 0 := if_neg h
noncomputable abbrev zu_jc (I : z_I) (s j p : Nat) : Prop := (I 34 p).toInt = (s : Int) ∧ ((I 50 (30 * s + j)).toInt < (I 41 p).toInt ∧ (I 41 p).toInt < (I 50 (30 * s + j + 1)).toInt) ∧ ¬ (I 40 p).toInt = 1 ∧ ¬ (I 40 p).toInt = 2 ∧ ¬ (I 40 p).toInt = 4
noncomputable def zu_jp (I : z_I) (s j : Nat) (p : Nat) : Int := if zu_jc I s j p then (I 38 p).toInt else 0
theorem zu_jp_y {I : z_I} {s j p : Nat} (h : zu_jc I s j p) : zu_jp I s j p = (I 38 p).toInt := if_pos h
theorem zu_jp_n {I : z_I} {s j p : Nat} (h : ¬ zu_jc I s j p) : zu_jp I s j p = 0 := if_neg h
noncomputable def zu_J (I : z_I) (s j : Nat) : Int := zu_s (zu_jg I s j) (I 43 s).toNatClampNeg - zu_s (zu_jp I s j) (I 0 55).toNatClampNeg - zb_am I 3 ((I 49 (30 * s + j)).toInt / 30) (I 0 0).toInt * ((I 49 (30 * s + j + 1)).toInt - (I 49 (30 * s + j)).toInt)
/-! IN is the same on both sides -/
theorem zu_IJ {c : z_C} {Ix Im : z_I} {q : Int} {s j : Nat} (h : zu_T Ix Im q) (hP : z_RP Ix Im) (hO : z_OW c Ix Im) (hn : (Im 0 13).toNatClampNeg = c.2.1) (hN : (Im 0 55).toInt = (Ix 30 8).toInt) (hN0 : 0 ≤ (Ix 30 8).toInt) (hT : (Im 0 0).toInt = (Ix 0 0).toInt) (hg : z_rg 43 0 30 Im) (hs : s < 10) (hj : (j : Int) + 1 < (Im 47 s).toInt) : zu_I c Ix s (s : Int) j = zu_J Im s j := by
  obtain ⟨_, _, b3, b4⟩ := h.2.2 s hs
  have hC := b4 j hj
  obtain ⟨⟨d1, _⟩, _, _, _, p1, p2, g0, g1, g2, g3⟩ := b3 j (by omega)
  obtain ⟨⟨e1, _⟩, _, _, _, p3, p4, f0, f1, f2, f3⟩ := b3 (j + 1) (by omega)
  rw [show 30 * s + (j + 1) = 30 * s + j + 1 from rfl] at e1 p4 f3
  have ng := z_clt (x := Im 43 s) rfl (hg s).1
  have nn := z_clt (x := Ix 30 8) rfl hN0
  have c0 := z_clt (x := Ix (100 + 8 * s + 4) j) rfl p1.1
  have c1 := z_clt (x := Ix (100 + 8 * s + 4) (j + 1)) rfl p3.1
  have hgf : g0 ≤ f0 := by
    refine Nat.le_of_not_lt (fun w => ?_)
    have w1 := (g3 f0 (by omega)).1 w
    have w2 := (f3 f0 (by omega)).2 (Nat.le_refl _)
    omega
  have hpp : (Ix (100 + 8 * s + 4) j).toNatClampNeg ≤ (Ix (100 + 8 * s + 4) (j + 1)).toNatClampNeg := by
    refine Nat.le_of_not_lt (fun w => ?_)
    have w1 := (p2 (Ix (100 + 8 * s + 4) (j + 1)).toNatClampNeg (by omega)).1 (by omega)
    have w2 := (p4 (Ix (100 + 8 * s + 4) (j + 1)).toNatClampNeg (by omega)).2 (by omega)
    omega
  have hG : zu_s (zu_jg Im s j) (Im 43 s).toNatClampNeg = zu_s (zu_gv Im s) f0 - zu_s (zu_gv Im s) g0 := by
    refine zu_s_ab hgf (by omega) (fun i hi => ?_)
    have x1 := g3 i (by omega)
    have x2 := f3 i (by omega)
    refine ⟨fun w => ?_, fun w => ?_⟩
    · exact zu_jg_y ⟨x1.2 w.1, x2.1 w.2⟩
    · refine zu_jg_n (fun z => w ⟨?_, ?_⟩)
      · refine Nat.le_of_not_lt (fun y => ?_)
        have y1 := x1.1 y
        have z1 := z.1
        omega
      · refine Nat.lt_of_not_le (fun y => ?_)
        have y1 := x2.2 y
        have z1 := z.2
        omega
  have hQ : zu_s (zu_jp Im s j) (Im 0 55).toNatClampNeg = zu_s (zu_f Ix (s : Int)) (Ix (100 + 8 * s + 4) (j + 1)).toNatClampNeg - zu_s (zu_f Ix (s : Int)) (Ix (100 + 8 * s + 4) j).toNatClampNeg := by
    have nm : (Im 0 55).toNatClampNeg = (Ix 30 8).toNatClampNeg := congrArg Int.toNat hN
    rw [nm]
    refine zu_s_ab hpp (by omega) (fun i hi => ?_)
    have x1 := p2 i (by omega)
    have x2 := p4 i (by omega)
    obtain ⟨⟨r0, _, _, _, r4, r5, _⟩, _⟩ := hP i (by omega)
    refine ⟨fun w => ?_, fun w => ?_⟩
    · have w1 := x1.2 (by omega)
      have w2 := x2.1 (by omega)
      by_cases z : (Ix 31 i).toInt = (s : Int) ∧ ¬ (Ix 36 i).toInt = 1 ∧ ¬ (Ix 36 i).toInt = 2 ∧ ¬ (Ix 36 i).toInt = 4
      · rw [zu_f_y z, zu_jp_y (by unfold zu_jc; rw [← r0, ← r5]; exact ⟨z.1, ⟨w1, w2⟩, z.2⟩), r4]
      · rw [zu_f_n z, zu_jp_n (fun y => z (by unfold zu_jc at y; rw [← r0, ← r5] at y; exact ⟨y.1, y.2.2⟩))]
    · refine zu_jp_n (fun z => w ⟨?_, ?_⟩)
      · refine Nat.le_of_not_lt (fun y => ?_)
        have y1 := x1.1 (by omega)
        have z1 := z.2.1.1
        omega
      · refine Nat.lt_of_not_le (fun y => ?_)
        have y1 := x2.2 (by omega)
        have z1 := z.2.1.2
        omega
  unfold zu_I zu_J
  rw [hG, hQ, d1, e1, hT, zb_a_e hO hn (by decide), g2, f2]
  rfl
/-! what the law hands over -/
theorem zu_B_ex {mo td : Nat → Int} {m k : Int} : ∀ n : Nat, ∃ b : Int, zi_B mo td m k n b
  | 0 => ⟨-1, zi_B_0⟩
  | n + 1 => by
    obtain ⟨b, hb⟩ := zu_B_ex (mo := mo) (td := td) (m := m) (k := k) n
    by_cases q : td n ≤ k ∧ mo n ≤ m
    · rcases id hb with ⟨h1, h2⟩ | ⟨p, h1, h2⟩
      · exact ⟨(n : Int), zi_B_up hb q.1 q.2 (Or.inl h1) rfl⟩
      · by_cases w : mo n < mo p
        · exact ⟨b, zi_B_lo hb h1 w⟩
        · exact ⟨(n : Int), zi_B_up hb q.1 q.2 (Or.inr ⟨p, h1, by omega⟩) rfl⟩
    · exact ⟨b, zi_B_no hb q⟩
theorem zu_R_ex {mo td : Nat → Int} {m k : Int} {n : Nat} {u : Int} {a : Nat → Int} : ∃ r : Int, zi_R mo td m k n u a r := by
  obtain ⟨b, hb⟩ := zu_B_ex (mo := mo) (td := td) (m := m) (k := k) n
  rcases id hb with ⟨h1, h2⟩ | ⟨p, h1, h2, h3⟩
  · exact ⟨u, b, hb, Or.inl ⟨h1, rfl⟩⟩
  · exact ⟨a p, b, hb, Or.inr ⟨p, h1.symm, h2, rfl⟩⟩
theorem zu_ax_b {c : z_C} {I K : z_I} {t m k : Int} (h : z_OW c I K) (ht : 0 ≤ t) : 0 ≤ zb_ax c I t m k ∧ zb_ax c I t m k ≤ 999999 := by
  obtain ⟨r, hr⟩ := zu_R_ex (mo := zi_mo I) (td := zi_td I) (m := m) (k := k) (n := c.2.1) (u := zi_us t) (a := zi_ax c I t)
  have e : r = zb_ax c I t m k := zb_f_e hr
  rw [← e]
  exact zu_R_b hr (fun q hq => z_OW_b h ht q hq)
theorem zu_OW_m {c : z_C} {I K : z_I} {t : Int} (h : z_OW c I K) (hn : (K 0 13).toNatClampNeg = c.2.1) (ht : 0 ≤ t) (q : Nat) (hq : q < (K 0 13).toNatClampNeg) : 0 ≤ zi_am K t q ∧ zi_am K t q ≤ 999999 := by
  rw [hn] at hq
  rw [← zi_axm h ht q hq]
  exact z_OW_b h ht q hq
theorem zu_TeM {Ix Im : z_I} {q : Int} (h : zu_T Ix Im q) (hP : z_RP Ix Im) (hN : (Im 0 55).toInt = (Ix 30 8).toInt) : ∀ p : Nat, (p : Int) < (Im 0 55).toInt → 0 ≤ (Im 38 p).toInt ∧ (Im 38 p).toInt ≤ 999999 := fun p hp => by
  have e := (hP p (by omega)).1.2.2.2.2.1
  rw [← e]
  exact (h.2.1 p (by omega)).2
theorem zu_Da {c : z_C} {Ix Im : z_I} {q : Int} (h : zu_T Ix Im q) (hS : z_RS Ix Im) (h8 : (Ix 0 8).toInt = (c.1 : Int)) (h10 : c.1 ≤ 10) (hg : z_rg 43 0 30 Im) (k : Nat) (hk : k < c.1) : zu_D Ix k ∧ zu_M Ix k := by
  obtain ⟨b1, b2, b3, b4⟩ := h.2.2 k (by omega)
  have e4 := (hS k (by omega)).1 (by omega)
  have gk := hg k
  have nk := z_clt (x := Im 43 k) rfl gk.1
  refine ⟨fun j hj => ?_, fun j hj => ?_⟩
  · rw [e4.1] at hj
    obtain ⟨⟨d1, d2⟩, d3, d4, d5, d6, _, g0, g1, g2, _⟩ := b3 j hj
    rw [d1, d2]
    refine ⟨d3, d4, ?_, d6⟩
    have w := zu_s_b (B := 100000) (f := zu_gv Im k) (by decide) g0 (fun i hi => (b1 i (by omega)).1)
    rw [g2]
    unfold zu_G
    omega
  · rw [e4.1] at hj
    obtain ⟨_, _, _, _, p1, p2, _⟩ := b3 j (by omega)
    obtain ⟨_, _, _, _, p3, p4, _⟩ := b3 (j + 1) (by omega)
    have hC := b4 j hj
    rw [show 30 * k + (j + 1) = 30 * k + j + 1 from rfl] at p4
    refine Int.not_lt.mp (fun w => ?_)
    have c1 := z_clt (x := Ix (100 + 8 * k + 4) (j + 1)) rfl p3.1
    have w1 := (p2 (Ix (100 + 8 * k + 4) (j + 1)).toNatClampNeg (by omega)).1 (by omega)
    have w2 := (p4 (Ix (100 + 8 * k + 4) (j + 1)).toNatClampNeg (by omega)).2 (by omega)
    omega
noncomputable def L_X11_putBounds_t : z_L := [(1000, 999)]
set_option maxHeartbeats 8000000 in
set_option maxRecDepth 100000 in
theorem sx_X11_putBounds_t (l : Launch) (G : z_G) (ad : Nat → Nat) (c : z_C) (I : z_I) (hO : z_iO I) (hB : z_iB I) (k : Nat) (a2 : Int32) (a3 : Int32) (a4 : Int32) (hk : k < c.1) (h10 : c.1 ≤ 10) (hc : z_okc c) (hS0 : z_iS c I) : z_MvS l yX11_putBounds wsX11_putBounds { frames := 5, cells := 0, slots := 0, locals := 111 } [.ref (ad 0), .ref (ad (100 + 8 * k)), .int a2, .int a3, .int a4] G (shC c, ad, I, JX, PC c ad) (fun u1 => ∃ I1 : z_I, u1 = (shC c, ad, I1, JX, PC c ad) ∧ z_iO I1 ∧ z_iB I1 ∧ z_fr L_X11_putBounds_t I1 I ∧ z_iS c I1 ∧ zu_k I1 I) 0 0 := by
  intro sz
  refine z_headS (cc := cX11_putBounds) (maxL := 7) (ret := none) (by decide) rfl (Nat.le_of_ble_eq_true rfl) ?_
  intro p e s m below meth c0 ls hIn hK hsz hW hl hSt
  obtain ⟨hx, hb, hr, hml, hown, hts, hlocks, hname⟩ := hIn
  subst hsz
  have hown : s.vm.findClass RX11 = some m.cls := hown
  have hA : ∀ q : Nat, s.heap.size ≤ q → z_A (shC c, ad, I, JX, PC c ad) s.heap.size q := fun q h => Or.inr h
  generalize hAe : z_A (shC c, ad, I, JX, PC c ad) s.heap.size = A at *
  have hS : va_S A s.heap s.heap [] := va_S.rf
  have hl : lv_has ls 7 [(0, .ref (ad 0)), (1, .ref (ad (100 + 8 * k))), (2, .int a2), (3, .int a3), (4, .int a4)] := hl
  refine lv_iload_n hx hb dX11_putBounds_0 rfl (lv_at hl 3 rfl) ?_
  refine lv_iconst (v := 0) hx hb dX11_putBounds_1 (by decide) ?_
  refine va_mmax (x := a3) (y := 0) hx hb (hml.trans hl.1.symm) hown (hts (.methodLink RX11 274 Lib.Math.max.name) (me_s (me_l (me_l (me_l (me_l (me_l (me_l (List.mem_of_getElem? (i := 0) rfl))))))))) (hts (.static Lib.Math.max.name) (me_s (me_l (me_l (me_l (me_l (me_l (me_l (List.mem_of_getElem? (i := 1) rfl))))))))) (hts (.initialized "java/lang/Math") (me_s (me_l (me_l (me_l (me_l (me_l (me_l (List.mem_of_getElem? (i := 2) rfl))))))))) (hts (.code Lib.Math.max.name Lib.Math.max.code 2 (some .int)) (me_s (me_l (me_l (me_l (me_l (me_l (me_l (List.mem_of_getElem? (i := 3) rfl))))))))) (Nat.le_of_ble_eq_true rfl) (Nat.le_of_ble_eq_true rfl) (Nat.le_of_ble_eq_true rfl) (Nat.le_of_ble_eq_true rfl) dX11_putBounds_2 ?_
  refine lv_topi (fun x1 ex1 => ?_)
  have tx1 := z_tmmax ex1 rfl z_l0
  refine lv_istore (lv' := [(5, .int x1), (0, .ref (ad 0)), (1, .ref (ad (100 + 8 * k))), (2, .int a2), (3, .int a3), (4, .int a4)]) hx hb dX11_putBounds_5 hl (by decide) rfl (fun ls hl => ?_)
  have lp2 : ∀ (f : Nat) (y3 : Int32) (I4 : z_I) (H : Heap) (locs : List Loc) (ls : Array Slot), (2147483647 < y3.toInt + (f : Int)) → (0 ≤ y3.toInt) → (z_iO I4) → (z_iB I4) → (x1.toInt ≤ y3.toInt) → (z_iS c I4) → (zu_k I4 I) → (z_fr L_X11_putBounds_t I4 I) → z_W G A (shC c, ad, I4, JX, PC c ad) H → va_S A s.heap H locs → lv_has ls 7 [(5, .int y3), (0, .ref (ad 0)), (1, .ref (ad (100 + 8 * k))), (2, .int a2), (3, .int a3), (4, .int a4)] → W p l e (headSpec wsX11_putBounds { frames := 5, cells := 0, slots := 0, locals := 111 }).room s m ([.ref (ad 0), .ref (ad (100 + 8 * k)), .int a2, .int a3, .int a4] : List Value).toArray below meth c0 H locs 0 0 (MQ below (va_Qv (fun (u1 : z_U) => ∃ I1 : z_I, u1 = (shC c, ad, I1, JX, PC c ad) ∧ z_iO I1 ∧ z_iB I1 ∧ z_fr L_X11_putBounds_t I1 I ∧ z_iS c I1 ∧ zu_k I1 I) (z_B G A) A) ([.ref (ad 0), .ref (ad (100 + 8 * k)), .int a2, .int a3, .int a4] : List Value).toArray s 0 0 A) (F0 m 7 ls []) := by
    intro f
    induction f with
    | zero => intro y3 I4  H locs ls lp2m lp2l5 lp2O lp2B lp2z lp2S lp2SS lp2fr hW hS hl; exact absurd lp2m (by have := Int32.toInt_lt y3; have := Int32.le_toInt y3; omega)
    | succ f lp2ih =>
      intro y3 I4  H locs ls lp2m lp2l5 lp2O lp2B lp2z lp2S lp2SS lp2fr hW hS hl
      refine lv_iload hx hb dX11_putBounds_7 (lv_at hl 0 rfl) ?_
      refine lv_iload hx hb dX11_putBounds_9 (lv_at hl 5 rfl) ?_
      refine lv_icmp_gt (tgt := 115) hx hb dX11_putBounds_11 (by decide) (fun c5 => ?_) (fun c5 => ?_)
      · have g6 := z_f_gt rfl rfl c5
        have b7 := Int32.toInt_lt y3
        have b8 := Int32.toInt_lt a4
        exact z_vret hx hb hr hK hS (Nat.le_of_ble_eq_true rfl) (Nat.le_of_ble_eq_true rfl) hlocks dX11_putBounds_115 (shC c, ad, I4, JX, PC c ad) hW ⟨I4, rfl, (by show 0 ≤ (I4 21 2).toInt ∧ (I4 21 2).toInt ≤ 12; exact lp2O), ⟨(by show 0 ≤ (I4 0 0).toInt ∧ (I4 0 0).toInt ≤ 719; exact lp2B.1), (by show 0 ≤ (I4 0 8).toInt ∧ (I4 0 8).toInt ≤ 10; exact lp2B.2)⟩, lp2fr, lp2S, lp2SS⟩
      · have g9 := z_f_ngt rfl rfl c5
        have b10 := Int32.toInt_lt y3
        have b11 := Int32.toInt_lt a4
        refine lv_iload hx hb dX11_putBounds_14 (lv_at hl 0 rfl) ?_
        refine lv_bipush (v := 30) hx hb dX11_putBounds_16 (by decide) ?_
        refine lv_icmp_ge (tgt := 115) hx hb dX11_putBounds_18 (by decide) (fun c12 => ?_) (fun c12 => ?_)
        · have g13 := z_f_ge rfl z_l30 c12
          exact z_vret hx hb hr hK hS (Nat.le_of_ble_eq_true rfl) (Nat.le_of_ble_eq_true rfl) hlocks dX11_putBounds_115 (shC c, ad, I4, JX, PC c ad) hW ⟨I4, rfl, (by show 0 ≤ (I4 21 2).toInt ∧ (I4 21 2).toInt ≤ 12; exact lp2O), ⟨(by show 0 ≤ (I4 0 0).toInt ∧ (I4 0 0).toInt ≤ 719; exact lp2B.1), (by show 0 ≤ (I4 0 8).toInt ∧ (I4 0 8).toInt ≤ 10; exact lp2B.2)⟩, lp2fr, lp2S, lp2SS⟩
        · have g14 := z_f_nge rfl z_l30 c12
          refine lv_aload_n hx hb dX11_putBounds_21 rfl (lv_at hl 1 rfl) ?_
          refine z_get (T := TX11) (N := 13) (ci := 11) (i := 0) (v := .ref (ad 21)) hx hb hts zj_X11_putBounds_X11 hown hK hW rfl rfl 4 (by decide) (hts (.fieldLink RX11 30 "PetrolBoard" "orderBook" "LPetrolBoard$OrderBook;") (me_s (me_l (me_l (me_l (me_l (me_l (me_l (List.mem_of_getElem? (i := 4) rfl))))))))) (fun _ h => h) rfl dX11_putBounds_22 ?_
          refine lv_iconst (v := 4) hx hb dX11_putBounds_25 (by decide) ?_
          refine lv_aload_n hx hb dX11_putBounds_26 rfl (lv_at hl 2 rfl) ?_
          refine z_get (T := TX10) (N := 10) (ci := 10) (i := (100 + 8 * k)) (v := .ref (ad (100 + 8 * k + 2))) hx hb hts zj_X11_putBounds_X10 hown hK hW (z_ss0 hk h10) rfl 1 (by decide) (hts (.fieldLink RX11 246 "PetrolBoard$Station" "dipDay" "[I") (me_s (me_l (me_l (me_l (me_l (me_l (me_l (List.mem_of_getElem? (i := 5) rfl))))))))) (fun _ h => h) (z_pS hk h10 rfl rfl) dX11_putBounds_27 ?_
          refine lv_iload hx hb dX11_putBounds_30 (lv_at hl 0 rfl) ?_
          refine z_iald (i := (100 + 8 * k + 2)) hx hb hK hW (z_ssj hk h10 (by decide)) (z_ix rfl (by omega) (by omega)) dX11_putBounds_32 ?_
          refine lv_topi (fun x15 ex15 => ?_)
          refine lv_bipush (v := 30) hx hb dX11_putBounds_33 (by decide) ?_
          refine lv_idiv hx hb dX11_putBounds_35 (by decide) ?_
          refine lv_topi (fun x16 ex16 => ?_)
          have tx16 := z_tdiv ex16 rfl z_l30 (by decide)
          refine lv_aload_n hx hb dX11_putBounds_36 rfl (lv_at hl 1 rfl) ?_
          have r17 : 0 ≤ (I4 0 0).toInt ∧ (I4 0 0).toInt ≤ 719 := lp2B.1
          refine z_get (T := TX11) (N := 13) (ci := 11) (i := 0) (v := .int (I4 0 0)) hx hb hts zj_X11_putBounds_X11 hown hK hW rfl rfl 0 (by decide) (hts (.fieldLink RX11 85 "PetrolBoard" "today" "I") (me_s (me_l (me_l (me_l (me_l (me_l (me_l (List.mem_of_getElem? (i := 6) rfl))))))))) (fun _ h => h) rfl dX11_putBounds_37 ?_
          refine z_ci hW hS hA (va_runV (As := [.int 4, .int x16, .int (I4 0 0)]) (rest := []) ⟨hx, hb, hml, hown, hts⟩ (sx_X6_amount l G ad c I4 (by show 0 ≤ (I4 21 2).toInt ∧ (I4 21 2).toInt ≤ 12; exact lp2O) 4 x16 (I4 0 0) hc _) (cwV 3 hts gX11_putBounds_X6_amount rfl rfl rfl (by decide +kernel) ⟨Nat.le_of_ble_eq_true rfl, Nat.le_of_ble_eq_true rfl⟩) (z_preVS (i := 21) hK hW hS hA hSt rfl rfl) rfl rfl hl.1 rfl (lv_room (Nat.le_of_ble_eq_true rfl)) dX11_putBounds_40 ⟨Nat.le_of_ble_eq_true rfl, Nat.le_of_ble_eq_true rfl⟩) (fun r u1 H locs hp hW hS => ?_)
          rw [hp] at hW
          refine lv_topi (fun x18 ex18 => ?_)
          refine lv_istore (lv' := [(6, .int x18), (5, .int y3), (0, .ref (ad 0)), (1, .ref (ad (100 + 8 * k))), (2, .int a2), (3, .int a3), (4, .int a4)]) hx hb dX11_putBounds_43 hl (by decide) rfl (fun ls hl => ?_)
          refine lv_aload_n hx hb dX11_putBounds_45 rfl (lv_at hl 3 rfl) ?_
          refine z_get (T := TX10) (N := 10) (ci := 10) (i := (100 + 8 * k)) (v := .ref (ad (100 + 8 * k + 5))) hx hb hts zj_X11_putBounds_X10 hown hK hW (z_ss0 hk h10) rfl 7 (by decide) (hts (.fieldLink RX11 279 "PetrolBoard$Station" "low" "[I") (me_s (me_l (me_l (me_l (me_l (me_l (me_l (List.mem_of_getElem? (i := 7) rfl))))))))) (fun _ h => h) (z_pS hk h10 rfl rfl) dX11_putBounds_46 ?_
          refine lv_iload hx hb dX11_putBounds_49 (lv_at hl 1 rfl) ?_
          refine lv_iconst (v := 0) hx hb dX11_putBounds_51 (by decide) ?_
          refine lv_aload_n hx hb dX11_putBounds_52 rfl (lv_at hl 3 rfl) ?_
          refine z_get (T := TX10) (N := 10) (ci := 10) (i := (100 + 8 * k)) (v := .ref (ad (100 + 8 * k + 1))) hx hb hts zj_X11_putBounds_X10 hown hK hW (z_ss0 hk h10) rfl 0 (by decide) (hts (.fieldLink RX11 282 "PetrolBoard$Station" "told" "[I") (me_s (me_l (me_l (me_l (me_l (me_l (me_l (List.mem_of_getElem? (i := 8) rfl))))))))) (fun _ h => h) (z_pS hk h10 rfl rfl) dX11_putBounds_53 ?_
          refine lv_iload hx hb dX11_putBounds_56 (lv_at hl 1 rfl) ?_
          refine z_iald (i := (100 + 8 * k + 1)) hx hb hK hW (z_ssj hk h10 (by decide)) (z_ix rfl (by omega) (by omega)) dX11_putBounds_58 ?_
          refine lv_topi (fun x19 ex19 => ?_)
          refine lv_iload hx hb dX11_putBounds_59 (lv_at hl 0 rfl) ?_
          refine lv_isub hx hb dX11_putBounds_61 ?_
          refine lv_topi (fun x20 ex20 => ?_)
          refine va_mmax (x := 0) (y := x20) hx hb (hml.trans hl.1.symm) hown (hts (.methodLink RX11 274 Lib.Math.max.name) (me_s (me_l (me_l (me_l (me_l (me_l (me_l (List.mem_of_getElem? (i := 0) rfl))))))))) (hts (.static Lib.Math.max.name) (me_s (me_l (me_l (me_l (me_l (me_l (me_l (List.mem_of_getElem? (i := 1) rfl))))))))) (hts (.initialized "java/lang/Math") (me_s (me_l (me_l (me_l (me_l (me_l (me_l (List.mem_of_getElem? (i := 2) rfl))))))))) (hts (.code Lib.Math.max.name Lib.Math.max.code 2 (some .int)) (me_s (me_l (me_l (me_l (me_l (me_l (me_l (List.mem_of_getElem? (i := 3) rfl))))))))) (Nat.le_of_ble_eq_true rfl) (Nat.le_of_ble_eq_true rfl) (Nat.le_of_ble_eq_true rfl) (Nat.le_of_ble_eq_true rfl) dX11_putBounds_62 ?_
          refine lv_topi (fun x21 ex21 => ?_)
          have tx21 := z_tmmax ex21 z_l0 rfl
          refine z_iast (i := (100 + 8 * k + 5)) hx hb hK hW hS (z_ssj hk h10 (by decide)) (z_ix rfl (by omega) (by omega)) dX11_putBounds_65 (fun H locs hz1 hW hS => ?_)
          obtain ⟨I22, eI22⟩ : ∃ K : z_I, K = z_up I4 (100 + 8 * k + 5) y3.toNatClampNeg x21 := ⟨_, rfl⟩
          rw [← eI22] at hW
          have f23 := z_fr_a lp2fr (z_wad (L := L_X11_putBounds_t) (by decide) (by omega)) eI22
          have hS24 := z_iS_a lp2S (by decide) eI22
          have hZ25 := zu_k_a lp2SS (by decide) (by omega) eI22
          refine lv_aload_n hx hb dX11_putBounds_66 rfl (lv_at hl 3 rfl) ?_
          refine z_get (T := TX10) (N := 10) (ci := 10) (i := (100 + 8 * k)) (v := .ref (ad (100 + 8 * k + 6))) hx hb hts zj_X11_putBounds_X10 hown hK hW (z_ss0 hk h10) rfl 8 (by decide) (hts (.fieldLink RX11 285 "PetrolBoard$Station" "high" "[I") (me_s (me_l (me_l (me_l (me_l (me_l (me_l (List.mem_of_getElem? (i := 9) rfl))))))))) (fun _ h => h) (z_pS hk h10 rfl rfl) dX11_putBounds_67 ?_
          refine lv_iload hx hb dX11_putBounds_70 (lv_at hl 1 rfl) ?_
          refine lv_aload_n hx hb dX11_putBounds_72 rfl (lv_at hl 3 rfl) ?_
          refine z_get (T := TX10) (N := 10) (ci := 10) (i := (100 + 8 * k)) (v := .ref (ad (100 + 8 * k + 1))) hx hb hts zj_X11_putBounds_X10 hown hK hW (z_ss0 hk h10) rfl 0 (by decide) (hts (.fieldLink RX11 282 "PetrolBoard$Station" "told" "[I") (me_s (me_l (me_l (me_l (me_l (me_l (me_l (List.mem_of_getElem? (i := 8) rfl))))))))) (fun _ h => h) (z_pS hk h10 rfl rfl) dX11_putBounds_73 ?_
          refine lv_iload hx hb dX11_putBounds_76 (lv_at hl 1 rfl) ?_
          refine z_iald (i := (100 + 8 * k + 1)) hx hb hK hW (z_ssj hk h10 (by decide)) (z_ix rfl (by omega) (by omega)) dX11_putBounds_78 ?_
          refine z_topi (v := x19) (by rw [eI22, z_up_n (by omega)]; exact ex19.symm) ?_
          refine lv_iload hx hb dX11_putBounds_79 (lv_at hl 0 rfl) ?_
          refine lv_iadd hx hb dX11_putBounds_81 ?_
          refine lv_topi (fun x26 ex26 => ?_)
          refine z_iast (i := (100 + 8 * k + 6)) hx hb hK hW hS (z_ssj hk h10 (by decide)) (z_ix rfl (by omega) (by omega)) dX11_putBounds_82 (fun H locs hz1 hW hS => ?_)
          obtain ⟨I27, eI27⟩ : ∃ K : z_I, K = z_up I22 (100 + 8 * k + 6) y3.toNatClampNeg x26 := ⟨_, rfl⟩
          rw [← eI27] at hW
          have f28 := z_fr_a f23 (z_wad (L := L_X11_putBounds_t) (by decide) (by omega)) eI27
          have hS29 := z_iS_a hS24 (by decide) eI27
          have hZ30 := zu_k_a hZ25 (by decide) (by omega) eI27
          refine lv_aload_n hx hb dX11_putBounds_83 rfl (lv_at hl 3 rfl) ?_
          refine z_get (T := TX10) (N := 10) (ci := 10) (i := (100 + 8 * k)) (v := .ref (ad (100 + 8 * k + 7))) hx hb hts zj_X11_putBounds_X10 hown hK hW (z_ss0 hk h10) rfl 9 (by decide) (hts (.fieldLink RX11 288 "PetrolBoard$Station" "in" "[I") (me_s (me_l (me_l (me_l (me_l (me_l (me_l (List.mem_of_getElem? (i := 10) rfl))))))))) (fun _ h => h) (z_pS hk h10 rfl rfl) dX11_putBounds_84 ?_
          refine lv_iload hx hb dX11_putBounds_87 (lv_at hl 1 rfl) ?_
          refine lv_iload hx hb dX11_putBounds_89 (lv_at hl 1 rfl) ?_
          refine lv_iload hx hb dX11_putBounds_91 (lv_at hl 6 rfl) ?_
          refine lv_icmp_ge (tgt := 107) hx hb dX11_putBounds_93 (by decide) (fun c31 => ?_) (fun c31 => ?_)
          · have g32 := z_f_ge rfl rfl c31
            refine lv_iconst (v := 0) hx hb dX11_putBounds_107 (by decide) ?_
            refine z_iast (i := (100 + 8 * k + 7)) hx hb hK hW hS (z_ssj hk h10 (by decide)) (z_ix rfl (by omega) (by omega)) dX11_putBounds_108 (fun H locs hz1 hW hS => ?_)
            obtain ⟨I33, eI33⟩ : ∃ K : z_I, K = z_up I27 (100 + 8 * k + 7) y3.toNatClampNeg 0 := ⟨_, rfl⟩
            rw [← eI33] at hW
            have f34 := z_fr_a f28 (z_wad (L := L_X11_putBounds_t) (by decide) (by omega)) eI33
            have hS35 := z_iS_a hS29 (by decide) eI33
            have hZ36 := zu_k_a hZ30 (by decide) (by omega) eI33
            obtain ⟨x37, ex37⟩ : ∃ y : Int32, y = y3 + 1 := ⟨_, rfl⟩
            have tx37 : x37.toInt = y3.toInt + 1 := z_tadd ex37 rfl z_l1 (by omega) (by omega)
            refine lv_iinc (v := x37) (lv' := [(5, .int x37), (6, .int x18), (0, .ref (ad 0)), (1, .ref (ad (100 + 8 * k))), (2, .int a2), (3, .int a3), (4, .int a4)]) hx hb dX11_putBounds_109 hl (k := 1) rfl (by rw [ex37]; rfl) (by decide) rfl (fun ls hl => ?_)
            refine lv_goto (tgt := 7) hx hb dX11_putBounds_112 (by decide) ?_
            exact lp2ih x37 I33  _ _ _ (by omega) (by omega) (by show 0 ≤ (I33 21 2).toInt ∧ (I33 21 2).toInt ≤ 12; rw [eI33, z_up_n (by omega), eI27, z_up_n (by omega), eI22, z_up_n (by omega)]; exact lp2O) ⟨(by show 0 ≤ (I33 0 0).toInt ∧ (I33 0 0).toInt ≤ 719; rw [eI33, z_up_n (by omega), eI27, z_up_n (by omega), eI22, z_up_n (by omega)]; exact lp2B.1), (by show 0 ≤ (I33 0 8).toInt ∧ (I33 0 8).toInt ≤ 10; rw [eI33, z_up_n (by omega), eI27, z_up_n (by omega), eI22, z_up_n (by omega)]; exact lp2B.2)⟩ (by omega) hS35 hZ36 f34 hW hS (lv_sub hl [0, 2, 3, 4, 5, 6] rfl)
          · have g38 := z_f_nge rfl rfl c31
            refine lv_aload_n hx hb dX11_putBounds_96 rfl (lv_at hl 2 rfl) ?_
            refine lv_aload_n hx hb dX11_putBounds_97 rfl (lv_at hl 3 rfl) ?_
            refine lv_iload_n hx hb dX11_putBounds_98 rfl (lv_at hl 4 rfl) ?_
            refine lv_iload hx hb dX11_putBounds_99 (lv_at hl 1 rfl) ?_
            refine z_ci hW hS hA (va_runV (As := [.ref (ad (100 + 8 * k)), .int a2, .int y3]) (rest := [.int y3, .ref (ad (100 + 8 * k + 7))]) ⟨hx, hb, hml, hown, hts⟩ (sx_X11_inBehind l G ad c I27 (by show 0 ≤ (I27 21 2).toInt ∧ (I27 21 2).toInt ≤ 12; rw [eI27, z_up_n (by omega), eI22, z_up_n (by omega)]; exact lp2O) ⟨(by show 0 ≤ (I27 0 0).toInt ∧ (I27 0 0).toInt ≤ 719; rw [eI27, z_up_n (by omega), eI22, z_up_n (by omega)]; exact lp2B.1), (by show 0 ≤ (I27 0 8).toInt ∧ (I27 0 8).toInt ≤ 10; rw [eI27, z_up_n (by omega), eI22, z_up_n (by omega)]; exact lp2B.2)⟩ k a2 y3 hk h10 hc (by omega) hS29 _) (cwV 3 hts gX11_putBounds_X11_inBehind rfl rfl rfl (by decide +kernel) ⟨Nat.le_of_ble_eq_true rfl, Nat.le_of_ble_eq_true rfl⟩) (z_preVS (i := 0) hK hW hS hA hSt rfl rfl) rfl rfl hl.1 rfl (lv_room (Nat.le_of_ble_eq_true rfl)) dX11_putBounds_101 ⟨Nat.le_of_ble_eq_true rfl, Nat.le_of_ble_eq_true rfl⟩) (fun r u1 H locs hp hW hS => ?_)
            rw [hp] at hW
            refine lv_topi (fun x39 ex39 => ?_)
            refine lv_goto (tgt := 108) hx hb dX11_putBounds_104 (by decide) ?_
            refine z_iast (i := (100 + 8 * k + 7)) hx hb hK hW hS (z_ssj hk h10 (by decide)) (z_ix rfl (by omega) (by omega)) dX11_putBounds_108 (fun H locs hz1 hW hS => ?_)
            obtain ⟨I40, eI40⟩ : ∃ K : z_I, K = z_up I27 (100 + 8 * k + 7) y3.toNatClampNeg x39 := ⟨_, rfl⟩
            rw [← eI40] at hW
            have f41 := z_fr_a f28 (z_wad (L := L_X11_putBounds_t) (by decide) (by omega)) eI40
            have hS42 := z_iS_a hS29 (by decide) eI40
            have hZ43 := zu_k_a hZ30 (by decide) (by omega) eI40
            obtain ⟨x44, ex44⟩ : ∃ y : Int32, y = y3 + 1 := ⟨_, rfl⟩
            have tx44 : x44.toInt = y3.toInt + 1 := z_tadd ex44 rfl z_l1 (by omega) (by omega)
            refine lv_iinc (v := x44) (lv' := [(5, .int x44), (6, .int x18), (0, .ref (ad 0)), (1, .ref (ad (100 + 8 * k))), (2, .int a2), (3, .int a3), (4, .int a4)]) hx hb dX11_putBounds_109 hl (k := 1) rfl (by rw [ex44]; rfl) (by decide) rfl (fun ls hl => ?_)
            refine lv_goto (tgt := 7) hx hb dX11_putBounds_112 (by decide) ?_
            exact lp2ih x44 I40  _ _ _ (by omega) (by omega) (by show 0 ≤ (I40 21 2).toInt ∧ (I40 21 2).toInt ≤ 12; rw [eI40, z_up_n (by omega), eI27, z_up_n (by omega), eI22, z_up_n (by omega)]; exact lp2O) ⟨(by show 0 ≤ (I40 0 0).toInt ∧ (I40 0 0).toInt ≤ 719; rw [eI40, z_up_n (by omega), eI27, z_up_n (by omega), eI22, z_up_n (by omega)]; exact lp2B.1), (by show 0 ≤ (I40 0 8).toInt ∧ (I40 0 8).toInt ≤ 10; rw [eI40, z_up_n (by omega), eI27, z_up_n (by omega), eI22, z_up_n (by omega)]; exact lp2B.2)⟩ (by omega) hS42 hZ43 f41 hW hS (lv_sub hl [0, 2, 3, 4, 5, 6] rfl)
  exact lp2 4294967296 x1 I  _ _ _ (z_m0u _) (by omega) (by show 0 ≤ (I 21 2).toInt ∧ (I 21 2).toInt ≤ 12; exact hO) ⟨(by show 0 ≤ (I 0 0).toInt ∧ (I 0 0).toInt ≤ 719; exact hB.1), (by show 0 ≤ (I 0 8).toInt ∧ (I 0 8).toInt ≤ 10; exact hB.2)⟩ (by omega) hS0 zu_k_0 z_fr_0 hW hS (lv_sub hl [0, 1, 2, 3, 4, 5] rfl)
noncomputable def L_X11_sums_t : z_L := [(1000, 999)]
set_option maxHeartbeats 8000000 in
set_option maxRecDepth 100000 in
theorem sx_X11_sums_t (l : Launch) (G : z_G) (ad : Nat → Nat) (c : z_C) (I : z_I) (hO : z_iO I) (hB : z_iB I) (a1 : Int32) (a2 : Int32) (a3 : Int32) (a4 : Int32) (hc : z_okc c) (h10 : c.1 ≤ 10) (hS0 : z_iS c I) : z_MlS l yX11_sums wsX11_sums { frames := 6, cells := 0, slots := 0, locals := 137 } [.ref (ad 0), .int a1, .int a2, .int a3, .int a4] G (shC c, ad, I, JX, PC c ad) (fun r u1 => ∃ I1 : z_I, u1 = (shC c, ad, I1, JX, PC c ad) ∧ z_iO I1 ∧ z_iB I1 ∧ z_fr L_X11_sums_t I1 I ∧ z_iS c I1 ∧ zu_k I1 I) 0 0 := by
  intro sz
  refine z_headS (cc := cX11_sums) (maxL := 6) (ret := (some .long)) (by decide) rfl (Nat.le_of_ble_eq_true rfl) ?_
  intro p e s m below meth c0 ls hIn hK hsz hW hl hSt
  obtain ⟨hx, hb, hr, hml, hown, hts, hlocks, hname⟩ := hIn
  subst hsz
  have hown : s.vm.findClass RX11 = some m.cls := hown
  have hA : ∀ q : Nat, s.heap.size ≤ q → z_A (shC c, ad, I, JX, PC c ad) s.heap.size q := fun q h => Or.inr h
  generalize hAe : z_A (shC c, ad, I, JX, PC c ad) s.heap.size = A at *
  have hS : va_S A s.heap s.heap [] := va_S.rf
  have hl : lv_has ls 6 [(0, .ref (ad 0)), (1, .int a1), (2, .int a2), (3, .int a3), (4, .int a4)] := hl
  refine lv_aload_n hx hb dX11_sums_0 rfl (lv_at hl 0 rfl) ?_
  refine lv_iload_n hx hb dX11_sums_1 rfl (lv_at hl 1 rfl) ?_
  refine z_cq hW hS hA (va_runV (As := [.int a1]) (rest := []) ⟨hx, hb, hml, hown, hts⟩ (sx_X11_stationAt l G ad c I ⟨(by show 0 ≤ (I 0 0).toInt ∧ (I 0 0).toInt ≤ 719; exact hB.1), (by show 0 ≤ (I 0 8).toInt ∧ (I 0 8).toInt ≤ 10; exact hB.2)⟩ a1 hc h10 _) (cwV 1 hts gX11_sums_X11_stationAt rfl rfl rfl (by decide +kernel) ⟨Nat.le_of_ble_eq_true rfl, Nat.le_of_ble_eq_true rfl⟩) (z_preV (i := 0) hK hW rfl rfl) rfl rfl hl.1 rfl (lv_room (Nat.le_of_ble_eq_true rfl)) dX11_sums_2 ⟨Nat.le_of_ble_eq_true rfl, Nat.le_of_ble_eq_true rfl⟩) (fun r u1 H locs hp hW hS => ?_)
  obtain ⟨e9, hp⟩ := hp
  rw [e9] at hW
  rcases hp with rfl | ⟨k1, hk1, rfl⟩
  · refine W.eq (g2 := F0 m 5 ls (.null :: [])) rfl ?_
    refine lv_astoreN (lv' := [(5, .null), (0, .ref (ad 0)), (1, .int a1), (2, .int a2), (3, .int a3), (4, .int a4)]) hx hb dX11_sums_5 hl (by decide) rfl (fun ls hl => ?_)
    refine lv_aloadN hx hb dX11_sums_7 (lv_at hl 0 rfl) ?_
    refine lv_ifnullN (tgt := 32) hx hb dX11_sums_9 (by decide) ?_
    refine lv_ldc2 (v := (-1)) hx hb hown (hts (.constantLong RX11 261 (-1)) (me_s (me_l (me_l (me_l (me_l (me_l (me_l (List.mem_of_getElem? (i := 0) rfl))))))))) dX11_sums_32 ?_
    exact z_lret hx hb hr hK hS (Nat.le_of_ble_eq_true rfl) (Nat.le_of_ble_eq_true rfl) hlocks dX11_sums_35 (shC c, ad, I, JX, PC c ad) hW ⟨I, rfl, (by show 0 ≤ (I 21 2).toInt ∧ (I 21 2).toInt ≤ 12; exact hO), ⟨(by show 0 ≤ (I 0 0).toInt ∧ (I 0 0).toInt ≤ 719; exact hB.1), (by show 0 ≤ (I 0 8).toInt ∧ (I 0 8).toInt ≤ 10; exact hB.2)⟩, z_fr_0, hS0, zu_k_0⟩
  · refine W.eq (g2 := F0 m 5 ls (.ref (ad (100 + 8 * k1)) :: [])) rfl ?_
    refine lv_astore (lv' := [(5, .ref (ad (100 + 8 * k1))), (0, .ref (ad 0)), (1, .int a1), (2, .int a2), (3, .int a3), (4, .int a4)]) hx hb dX11_sums_5 hl (by decide) rfl (fun ls hl => ?_)
    refine lv_aload hx hb dX11_sums_7 (lv_at hl 0 rfl) ?_
    refine lv_ifnull hx hb dX11_sums_9 ?_
    refine lv_aload hx hb dX11_sums_12 (lv_at hl 0 rfl) ?_
    refine lv_iload_n hx hb dX11_sums_14 rfl (lv_at hl 3 rfl) ?_
    refine lv_iload_n hx hb dX11_sums_15 rfl (lv_at hl 4 rfl) ?_
    refine z_ci hW hS hA (va_runV (As := [.int a2, .int a3]) (rest := []) ⟨hx, hb, hml, hown, hts⟩ (sx_X10_hasSpan l G ad c I  k1 a2 a3 hk1 h10 hS0 _) (cwV 2 hts gX11_sums_X10_hasSpan rfl rfl rfl (by decide +kernel) ⟨Nat.le_of_ble_eq_true rfl, Nat.le_of_ble_eq_true rfl⟩) (z_preV (i := (100 + 8 * k1)) hK hW (z_ss0 hk1 h10) rfl) rfl rfl hl.1 rfl (lv_room (Nat.le_of_ble_eq_true rfl)) dX11_sums_16 ⟨Nat.le_of_ble_eq_true rfl, Nat.le_of_ble_eq_true rfl⟩) (fun r u1 H locs hp hW hS => ?_)
    obtain ⟨e9, hp⟩ := hp
    rw [e9] at hW
    rcases hp with ⟨rfl, h2, h3, h4⟩ | rfl
    · refine lv_if_eq (tgt := 32) hx hb dX11_sums_19 (by decide) (fun c5 => absurd c5 (by decide)) (fun c5 => ?_)
      refine lv_iload hx hb dX11_sums_22 (lv_at hl 5 rfl) ?_
      refine lv_iconst (v := 0) hx hb dX11_sums_24 (by decide) ?_
      refine lv_iconst (v := 1) hx hb dX11_sums_25 (by decide) ?_
      refine z_ci hW hS hA (va_runS (As := [.int a4, .int 0, .int 1]) (rest := []) ⟨hx, hb, hml, hown, hts⟩ (sx_X11_within_e l G ad c I  a4 0 1 _) (va_cwS 3 hts gX11_sums_X11_within rfl rfl rfl (by decide +kernel) ⟨Nat.le_of_ble_eq_true rfl, Nat.le_of_ble_eq_true rfl⟩) (z_preS hK hW) rfl rfl hl.1 rfl (lv_room (Nat.le_of_ble_eq_true rfl)) dX11_sums_26 ⟨Nat.le_of_ble_eq_true rfl, Nat.le_of_ble_eq_true rfl⟩) (fun r u1 H locs hp hW hS => ?_)
      obtain ⟨e9, hp⟩ := hp
      rw [e9] at hW
      rcases hp with ⟨rfl, h6⟩ | ⟨rfl, h6⟩
      · have h7 := h6
        have z8 := z_l0
        have z9 := z_l1
        refine lv_if_ne (tgt := 36) hx hb dX11_sums_29 (by decide) (fun c10 => ?_) (fun c10 => absurd c10 (by decide))
        refine lv_aload_n hx hb dX11_sums_36 rfl (lv_at hl 1 rfl) ?_
        refine lv_aload hx hb dX11_sums_37 (lv_at hl 0 rfl) ?_
        refine lv_iload_n hx hb dX11_sums_39 rfl (lv_at hl 2 rfl) ?_
        refine lv_iload_n hx hb dX11_sums_40 rfl (lv_at hl 3 rfl) ?_
        refine lv_iload_n hx hb dX11_sums_41 rfl (lv_at hl 4 rfl) ?_
        refine z_cv hW hS hA (va_runV (As := [.ref (ad (100 + 8 * k1)), .int a1, .int a2, .int a3]) (rest := []) ⟨hx, hb, hml, hown, hts⟩ (sx_X11_putBounds_t l G ad c I (by show 0 ≤ (I 21 2).toInt ∧ (I 21 2).toInt ≤ 12; exact hO) ⟨(by show 0 ≤ (I 0 0).toInt ∧ (I 0 0).toInt ≤ 719; exact hB.1), (by show 0 ≤ (I 0 8).toInt ∧ (I 0 8).toInt ≤ 10; exact hB.2)⟩ k1 a1 a2 a3 hk1 h10 hc hS0 _) (cwV 4 hts gX11_sums_X11_putBounds rfl rfl rfl (by decide +kernel) ⟨Nat.le_of_ble_eq_true rfl, Nat.le_of_ble_eq_true rfl⟩) (z_preVS (i := 0) hK hW hS hA hSt rfl rfl) rfl rfl hl.1 rfl (lv_room (Nat.le_of_ble_eq_true rfl)) dX11_sums_42 ⟨Nat.le_of_ble_eq_true rfl, Nat.le_of_ble_eq_true rfl⟩) (fun u1 H locs hp hW hS => ?_)
        obtain ⟨I11, e9, hI11O, hI11B, fI11, SI11, SSI11⟩ := hp
        rw [e9] at hW
        have f12 := z_fr_sub (L := L_X11_sums_t) z_fr_0 fI11 (by decide)
        refine lv_iload hx hb dX11_sums_45 (lv_at hl 5 rfl) ?_
        refine lv_if_ne (tgt := 60) hx hb dX11_sums_47 (by decide) (fun c13 => ?_) (fun c13 => ?_)
        · have g14 := z_f_ne rfl z_l0 c13
          refine lv_aload hx hb dX11_sums_60 (lv_at hl 0 rfl) ?_
          refine lv_iload_n hx hb dX11_sums_62 rfl (lv_at hl 3 rfl) ?_
          refine lv_iload_n hx hb dX11_sums_63 rfl (lv_at hl 4 rfl) ?_
          refine z_cl hW hS hA (va_runV (As := [.int a2, .int a3]) (rest := []) ⟨hx, hb, hml, hown, hts⟩ (sx_X10_mostBlack l G ad c I11  k1 a2 a3 hk1 h10 SI11 _) (cwV 2 hts gX11_sums_X10_mostBlack rfl rfl rfl (by decide +kernel) ⟨Nat.le_of_ble_eq_true rfl, Nat.le_of_ble_eq_true rfl⟩) (z_preV (i := (100 + 8 * k1)) hK hW (z_ss0 hk1 h10) rfl) rfl rfl hl.1 rfl (lv_room (Nat.le_of_ble_eq_true rfl)) dX11_sums_64 ⟨Nat.le_of_ble_eq_true rfl, Nat.le_of_ble_eq_true rfl⟩) (fun r u1 H locs hp hW hS => ?_)
          rw [hp] at hW
          refine lv_topl (fun x15 ex15 => ?_)
          exact z_lret hx hb hr hK hS (Nat.le_of_ble_eq_true rfl) (Nat.le_of_ble_eq_true rfl) hlocks dX11_sums_67 (shC c, ad, I11, JX, PC c ad) hW ⟨I11, rfl, (by show 0 ≤ (I11 21 2).toInt ∧ (I11 21 2).toInt ≤ 12; exact hI11O), ⟨(by show 0 ≤ (I11 0 0).toInt ∧ (I11 0 0).toInt ≤ 719; exact hI11B.1), (by show 0 ≤ (I11 0 8).toInt ∧ (I11 0 8).toInt ≤ 10; exact hI11B.2)⟩, f12, SI11, (zu_k_t SSI11 zu_k_0)⟩
        · have g16 := z_f_eq rfl z_l0 c13
          refine lv_aload hx hb dX11_sums_50 (lv_at hl 0 rfl) ?_
          refine lv_iload_n hx hb dX11_sums_52 rfl (lv_at hl 3 rfl) ?_
          refine lv_iload_n hx hb dX11_sums_53 rfl (lv_at hl 4 rfl) ?_
          refine z_cl hW hS hA (va_runV (As := [.int a2, .int a3]) (rest := []) ⟨hx, hb, hml, hown, hts⟩ (sx_X10_leastBlack l G ad c I11  k1 a2 a3 hk1 h10 SI11 _) (cwV 2 hts gX11_sums_X10_leastBlack rfl rfl rfl (by decide +kernel) ⟨Nat.le_of_ble_eq_true rfl, Nat.le_of_ble_eq_true rfl⟩) (z_preV (i := (100 + 8 * k1)) hK hW (z_ss0 hk1 h10) rfl) rfl rfl hl.1 rfl (lv_room (Nat.le_of_ble_eq_true rfl)) dX11_sums_54 ⟨Nat.le_of_ble_eq_true rfl, Nat.le_of_ble_eq_true rfl⟩) (fun r u1 H locs hp hW hS => ?_)
          rw [hp] at hW
          refine lv_topl (fun x17 ex17 => ?_)
          refine lv_goto (tgt := 67) hx hb dX11_sums_57 (by decide) ?_
          exact z_lret hx hb hr hK hS (Nat.le_of_ble_eq_true rfl) (Nat.le_of_ble_eq_true rfl) hlocks dX11_sums_67 (shC c, ad, I11, JX, PC c ad) hW ⟨I11, rfl, (by show 0 ≤ (I11 21 2).toInt ∧ (I11 21 2).toInt ≤ 12; exact hI11O), ⟨(by show 0 ≤ (I11 0 0).toInt ∧ (I11 0 0).toInt ≤ 719; exact hI11B.1), (by show 0 ≤ (I11 0 8).toInt ∧ (I11 0 8).toInt ≤ 10; exact hI11B.2)⟩, f12, SI11, (zu_k_t SSI11 zu_k_0)⟩
      · have h18 := h6
        have z19 := z_l0
        have z20 := z_l1
        refine lv_if_ne (tgt := 36) hx hb dX11_sums_29 (by decide) (fun c21 => absurd (by decide) c21) (fun c21 => ?_)
        refine lv_ldc2 (v := (-1)) hx hb hown (hts (.constantLong RX11 261 (-1)) (me_s (me_l (me_l (me_l (me_l (me_l (me_l (List.mem_of_getElem? (i := 0) rfl))))))))) dX11_sums_32 ?_
        exact z_lret hx hb hr hK hS (Nat.le_of_ble_eq_true rfl) (Nat.le_of_ble_eq_true rfl) hlocks dX11_sums_35 (shC c, ad, I, JX, PC c ad) hW ⟨I, rfl, (by show 0 ≤ (I 21 2).toInt ∧ (I 21 2).toInt ≤ 12; exact hO), ⟨(by show 0 ≤ (I 0 0).toInt ∧ (I 0 0).toInt ≤ 719; exact hB.1), (by show 0 ≤ (I 0 8).toInt ∧ (I 0 8).toInt ≤ 10; exact hB.2)⟩, z_fr_0, hS0, zu_k_0⟩
    · refine lv_if_eq (tgt := 32) hx hb dX11_sums_19 (by decide) (fun c22 => ?_) (fun c22 => absurd (by decide) c22)
      refine lv_ldc2 (v := (-1)) hx hb hown (hts (.constantLong RX11 261 (-1)) (me_s (me_l (me_l (me_l (me_l (me_l (me_l (List.mem_of_getElem? (i := 0) rfl))))))))) dX11_sums_32 ?_
      exact z_lret hx hb hr hK hS (Nat.le_of_ble_eq_true rfl) (Nat.le_of_ble_eq_true rfl) hlocks dX11_sums_35 (shC c, ad, I, JX, PC c ad) hW ⟨I, rfl, (by show 0 ≤ (I 21 2).toInt ∧ (I 21 2).toInt ≤ 12; exact hO), ⟨(by show 0 ≤ (I 0 0).toInt ∧ (I 0 0).toInt ≤ 719; exact hB.1), (by show 0 ≤ (I 0 8).toInt ∧ (I 0 8).toInt ≤ 10; exact hB.2)⟩, z_fr_0, hS0, zu_k_0⟩
noncomputable def L_X11_judged_t : z_L := [(1000, 999)]
set_option maxHeartbeats 8000000 in
set_option maxRecDepth 100000 in
theorem sx_X11_judged_t (l : Launch) (G : z_G) (ad : Nat → Nat) (c : z_C) (I : z_I) (hO : z_iO I) (hB : z_iB I) (a1 : Int32) (a2 : Int32) (a3 : Int32) (hc : z_okc c) (h10 : c.1 ≤ 10) (hS0 : z_iS c I) : z_MlS l yX11_judged wsX11_judged { frames := 6, cells := 0, slots := 0, locals := 137 } [.ref (ad 0), .int a1, .int a2, .int a3] G (shC c, ad, I, JX, PC c ad) (fun r u1 => ∃ I1 : z_I, u1 = (shC c, ad, I1, JX, PC c ad) ∧ z_iO I1 ∧ z_iB I1 ∧ z_fr L_X11_judged_t I1 I ∧ z_iS c I1 ∧ zu_k I1 I) 0 0 := by
  intro sz
  refine z_headS (cc := cX11_judged) (maxL := 5) (ret := (some .long)) (by decide) rfl (Nat.le_of_ble_eq_true rfl) ?_
  intro p e s m below meth c0 ls hIn hK hsz hW hl hSt
  obtain ⟨hx, hb, hr, hml, hown, hts, hlocks, hname⟩ := hIn
  subst hsz
  have hown : s.vm.findClass RX11 = some m.cls := hown
  have hA : ∀ q : Nat, s.heap.size ≤ q → z_A (shC c, ad, I, JX, PC c ad) s.heap.size q := fun q h => Or.inr h
  generalize hAe : z_A (shC c, ad, I, JX, PC c ad) s.heap.size = A at *
  have hS : va_S A s.heap s.heap [] := va_S.rf
  have hl : lv_has ls 5 [(0, .ref (ad 0)), (1, .int a1), (2, .int a2), (3, .int a3)] := hl
  refine lv_aload_n hx hb dX11_judged_0 rfl (lv_at hl 0 rfl) ?_
  refine lv_iload_n hx hb dX11_judged_1 rfl (lv_at hl 1 rfl) ?_
  refine z_cq hW hS hA (va_runV (As := [.int a1]) (rest := []) ⟨hx, hb, hml, hown, hts⟩ (sx_X11_stationAt l G ad c I ⟨(by show 0 ≤ (I 0 0).toInt ∧ (I 0 0).toInt ≤ 719; exact hB.1), (by show 0 ≤ (I 0 8).toInt ∧ (I 0 8).toInt ≤ 10; exact hB.2)⟩ a1 hc h10 _) (cwV 1 hts gX11_judged_X11_stationAt rfl rfl rfl (by decide +kernel) ⟨Nat.le_of_ble_eq_true rfl, Nat.le_of_ble_eq_true rfl⟩) (z_preV (i := 0) hK hW rfl rfl) rfl rfl hl.1 rfl (lv_room (Nat.le_of_ble_eq_true rfl)) dX11_judged_2 ⟨Nat.le_of_ble_eq_true rfl, Nat.le_of_ble_eq_true rfl⟩) (fun r u1 H locs hp hW hS => ?_)
  obtain ⟨e9, hp⟩ := hp
  rw [e9] at hW
  rcases hp with rfl | ⟨k1, hk1, rfl⟩
  · refine W.eq (g2 := F0 m 5 ls (.null :: [])) rfl ?_
    refine lv_astoreN (lv' := [(4, .null), (0, .ref (ad 0)), (1, .int a1), (2, .int a2), (3, .int a3)]) hx hb dX11_judged_5 hl (by decide) rfl (fun ls hl => ?_)
    refine lv_aloadN hx hb dX11_judged_7 (lv_at hl 0 rfl) ?_
    refine lv_ifnullN (tgt := 22) hx hb dX11_judged_9 (by decide) ?_
    refine lv_ldc2 (v := (-1)) hx hb hown (hts (.constantLong RX11 261 (-1)) (me_s (me_l (me_l (me_l (me_l (me_l (me_l (List.mem_of_getElem? (i := 0) rfl))))))))) dX11_judged_22 ?_
    exact z_lret hx hb hr hK hS (Nat.le_of_ble_eq_true rfl) (Nat.le_of_ble_eq_true rfl) hlocks dX11_judged_25 (shC c, ad, I, JX, PC c ad) hW ⟨I, rfl, (by show 0 ≤ (I 21 2).toInt ∧ (I 21 2).toInt ≤ 12; exact hO), ⟨(by show 0 ≤ (I 0 0).toInt ∧ (I 0 0).toInt ≤ 719; exact hB.1), (by show 0 ≤ (I 0 8).toInt ∧ (I 0 8).toInt ≤ 10; exact hB.2)⟩, z_fr_0, hS0, zu_k_0⟩
  · refine W.eq (g2 := F0 m 5 ls (.ref (ad (100 + 8 * k1)) :: [])) rfl ?_
    refine lv_astore (lv' := [(4, .ref (ad (100 + 8 * k1))), (0, .ref (ad 0)), (1, .int a1), (2, .int a2), (3, .int a3)]) hx hb dX11_judged_5 hl (by decide) rfl (fun ls hl => ?_)
    refine lv_aload hx hb dX11_judged_7 (lv_at hl 0 rfl) ?_
    refine lv_ifnull hx hb dX11_judged_9 ?_
    refine lv_aload hx hb dX11_judged_12 (lv_at hl 0 rfl) ?_
    refine lv_iload_n hx hb dX11_judged_14 rfl (lv_at hl 3 rfl) ?_
    refine lv_iload_n hx hb dX11_judged_15 rfl (lv_at hl 4 rfl) ?_
    refine z_ci hW hS hA (va_runV (As := [.int a2, .int a3]) (rest := []) ⟨hx, hb, hml, hown, hts⟩ (sx_X10_hasSpan l G ad c I  k1 a2 a3 hk1 h10 hS0 _) (cwV 2 hts gX11_judged_X10_hasSpan rfl rfl rfl (by decide +kernel) ⟨Nat.le_of_ble_eq_true rfl, Nat.le_of_ble_eq_true rfl⟩) (z_preV (i := (100 + 8 * k1)) hK hW (z_ss0 hk1 h10) rfl) rfl rfl hl.1 rfl (lv_room (Nat.le_of_ble_eq_true rfl)) dX11_judged_16 ⟨Nat.le_of_ble_eq_true rfl, Nat.le_of_ble_eq_true rfl⟩) (fun r u1 H locs hp hW hS => ?_)
    obtain ⟨e9, hp⟩ := hp
    rw [e9] at hW
    rcases hp with ⟨rfl, h2, h3, h4⟩ | rfl
    · refine lv_if_ne (tgt := 26) hx hb dX11_judged_19 (by decide) (fun c5 => ?_) (fun c5 => absurd c5 (by decide))
      refine lv_aload_n hx hb dX11_judged_26 rfl (lv_at hl 1 rfl) ?_
      refine lv_aload hx hb dX11_judged_27 (lv_at hl 0 rfl) ?_
      refine lv_iload_n hx hb dX11_judged_29 rfl (lv_at hl 2 rfl) ?_
      refine lv_iload_n hx hb dX11_judged_30 rfl (lv_at hl 3 rfl) ?_
      refine lv_iload_n hx hb dX11_judged_31 rfl (lv_at hl 4 rfl) ?_
      refine z_cv hW hS hA (va_runV (As := [.ref (ad (100 + 8 * k1)), .int a1, .int a2, .int a3]) (rest := []) ⟨hx, hb, hml, hown, hts⟩ (sx_X11_putBounds_t l G ad c I (by show 0 ≤ (I 21 2).toInt ∧ (I 21 2).toInt ≤ 12; exact hO) ⟨(by show 0 ≤ (I 0 0).toInt ∧ (I 0 0).toInt ≤ 719; exact hB.1), (by show 0 ≤ (I 0 8).toInt ∧ (I 0 8).toInt ≤ 10; exact hB.2)⟩ k1 a1 a2 a3 hk1 h10 hc hS0 _) (cwV 4 hts gX11_judged_X11_putBounds rfl rfl rfl (by decide +kernel) ⟨Nat.le_of_ble_eq_true rfl, Nat.le_of_ble_eq_true rfl⟩) (z_preVS (i := 0) hK hW hS hA hSt rfl rfl) rfl rfl hl.1 rfl (lv_room (Nat.le_of_ble_eq_true rfl)) dX11_judged_32 ⟨Nat.le_of_ble_eq_true rfl, Nat.le_of_ble_eq_true rfl⟩) (fun u1 H locs hp hW hS => ?_)
      obtain ⟨I6, e9, hI6O, hI6B, fI6, SI6, SSI6⟩ := hp
      rw [e9] at hW
      have f7 := z_fr_sub (L := L_X11_judged_t) z_fr_0 fI6 (by decide)
      refine lv_aload hx hb dX11_judged_35 (lv_at hl 0 rfl) ?_
      refine lv_aload_n hx hb dX11_judged_37 rfl (lv_at hl 1 rfl) ?_
      refine z_get (T := TX11) (N := 13) (ci := 11) (i := 0) (v := .ref (ad 40)) hx hb hts zj_X11_judged_X11 hown hK hW rfl rfl 9 (by decide) (hts (.fieldLink RX11 54 "PetrolBoard" "row" "[I") (me_s (me_l (me_l (me_l (me_l (me_l (me_l (List.mem_of_getElem? (i := 1) rfl))))))))) (fun _ h => h) rfl dX11_judged_38 ?_
      refine lv_iload_n hx hb dX11_judged_41 rfl (lv_at hl 3 rfl) ?_
      refine lv_iload_n hx hb dX11_judged_42 rfl (lv_at hl 4 rfl) ?_
      refine z_cl hW hS hA (va_runV (As := [.ref (ad 40), .int a2, .int a3]) (rest := []) ⟨hx, hb, hml, hown, hts⟩ (sx_X10_blackBy l G ad c I6  k1 a2 a3 hk1 h10 SI6 _) (cwV 3 hts gX11_judged_X10_blackBy rfl rfl rfl (by decide +kernel) ⟨Nat.le_of_ble_eq_true rfl, Nat.le_of_ble_eq_true rfl⟩) (z_preV (i := (100 + 8 * k1)) hK hW (z_ss0 hk1 h10) rfl) rfl rfl hl.1 rfl (lv_room (Nat.le_of_ble_eq_true rfl)) dX11_judged_43 ⟨Nat.le_of_ble_eq_true rfl, Nat.le_of_ble_eq_true rfl⟩) (fun r u1 H locs hp hW hS => ?_)
      rw [hp] at hW
      refine lv_topl (fun x8 ex8 => ?_)
      exact z_lret hx hb hr hK hS (Nat.le_of_ble_eq_true rfl) (Nat.le_of_ble_eq_true rfl) hlocks dX11_judged_46 (shC c, ad, I6, JX, PC c ad) hW ⟨I6, rfl, (by show 0 ≤ (I6 21 2).toInt ∧ (I6 21 2).toInt ≤ 12; exact hI6O), ⟨(by show 0 ≤ (I6 0 0).toInt ∧ (I6 0 0).toInt ≤ 719; exact hI6B.1), (by show 0 ≤ (I6 0 8).toInt ∧ (I6 0 8).toInt ≤ 10; exact hI6B.2)⟩, f7, SI6, (zu_k_t SSI6 zu_k_0)⟩
    · refine lv_if_ne (tgt := 26) hx hb dX11_judged_19 (by decide) (fun c9 => absurd (by decide) c9) (fun c9 => ?_)
      refine lv_ldc2 (v := (-1)) hx hb hown (hts (.constantLong RX11 261 (-1)) (me_s (me_l (me_l (me_l (me_l (me_l (me_l (List.mem_of_getElem? (i := 0) rfl))))))))) dX11_judged_22 ?_
      exact z_lret hx hb hr hK hS (Nat.le_of_ble_eq_true rfl) (Nat.le_of_ble_eq_true rfl) hlocks dX11_judged_25 (shC c, ad, I, JX, PC c ad) hW ⟨I, rfl, (by show 0 ≤ (I 21 2).toInt ∧ (I 21 2).toInt ≤ 12; exact hO), ⟨(by show 0 ≤ (I 0 0).toInt ∧ (I 0 0).toInt ≤ 719; exact hB.1), (by show 0 ≤ (I 0 8).toInt ∧ (I 0 8).toInt ≤ 10; exact hB.2)⟩, z_fr_0, hS0, zu_k_0⟩
noncomputable def L_X10_addDelivery_t : z_L := [(1000, 999)]
set_option maxHeartbeats 8000000 in
set_option maxRecDepth 100000 in
theorem sx_X10_addDelivery_t (l : Launch) (G : z_G) (ad : Nat → Nat) (c : z_C) (I : z_I) (k : Nat) (a1 : Int32) (hk : k < c.1) (h10 : c.1 ≤ 10) (hS0 : z_iS c I) : z_M l yX10_addDelivery wsX10_addDelivery { frames := 1, cells := 0, slots := 0, locals := 12 } [.ref (ad (100 + 8 * k)), .int a1] G (shC c, ad, I, JX, PC c ad) (fun r u1 => ∃ I1 : z_I, u1 = (shC c, ad, I1, JX, PC c ad) ∧ z_fr L_X10_addDelivery_t I1 I ∧ z_iS c I1 ∧ (((((I (100 + 8 * k) 5).toInt < 30) ∧ r = (I (100 + 8 * k) 6) + a1 ∧ z_dl I1 I k a1) ∨ (¬ ((I (100 + 8 * k) 5).toInt < 30) ∧ r = -1 ∧ z_sk I1 I)) ∧ zu_r I1 I)) 0 0 := by
  intro sz
  refine z_headQ (cc := cX10_addDelivery) (maxL := 2) (ret := (some .int)) (by decide) rfl (Nat.le_of_ble_eq_true rfl) ?_
  intro p e s m below meth c0 ls hIn hK hsz hW hl
  obtain ⟨hx, hb, hr, hml, hown, hts, hlocks, hname⟩ := hIn
  subst hsz
  have hown : s.vm.findClass RX10 = some m.cls := hown
  have hA : ∀ q : Nat, s.heap.size ≤ q → z_A (shC c, ad, I, JX, PC c ad) s.heap.size q := fun q h => Or.inr h
  generalize hAe : z_A (shC c, ad, I, JX, PC c ad) s.heap.size = A at *
  have hS : va_S A s.heap s.heap [] := va_S.rf
  have hl : lv_has ls 2 [(0, .ref (ad (100 + 8 * k))), (1, .int a1)] := hl
  refine lv_aload_n hx hb dX10_addDelivery_0 rfl (lv_at hl 0 rfl) ?_
  refine z_get (T := TX10) (N := 10) (ci := 10) (i := (100 + 8 * k)) (v := .int (I (100 + 8 * k) 5)) hx hb hts zj_X10_addDelivery_X10 hown hK hW (z_ss0 hk h10) rfl 5 (by decide) (hts (.fieldLink RX10 33 "PetrolBoard$Station" "deliveries" "I") (me_s (me_l (List.mem_of_getElem? (i := 0) rfl)))) (fun _ h => h) rfl dX10_addDelivery_1 ?_
  refine lv_bipush (v := 30) hx hb dX10_addDelivery_4 (by decide) ?_
  refine lv_icmp_lt (tgt := 11) hx hb dX10_addDelivery_6 (by decide) (fun c1 => ?_) (fun c1 => ?_)
  · have g2 := z_f_lt rfl z_l30 c1
    have b3 := Int32.toInt_lt (I (100 + 8 * k) 5)
    refine lv_aload_n hx hb dX10_addDelivery_11 rfl (lv_at hl 0 rfl) ?_
    refine lv_dup hx hb dX10_addDelivery_12 rfl ?_
    refine z_get (T := TX10) (N := 10) (ci := 10) (i := (100 + 8 * k)) (v := .int (I (100 + 8 * k) 5)) hx hb hts zj_X10_addDelivery_X10 hown hK hW (z_ss0 hk h10) rfl 5 (by decide) (hts (.fieldLink RX10 33 "PetrolBoard$Station" "deliveries" "I") (me_s (me_l (List.mem_of_getElem? (i := 0) rfl)))) (fun _ h => h) rfl dX10_addDelivery_13 ?_
    refine lv_iconst (v := 1) hx hb dX10_addDelivery_16 (by decide) ?_
    refine lv_iadd hx hb dX10_addDelivery_17 ?_
    refine lv_topi (fun x4 ex4 => ?_)
    have tx4 : x4.toInt = (I (100 + 8 * k) 5).toInt + 1 := z_tadd ex4 rfl z_l1 (by have := Int32.le_toInt (I (100 + 8 * k) 5); have := Int32.toInt_lt (I (100 + 8 * k) 5); omega) (by have := Int32.le_toInt (I (100 + 8 * k) 5); have := Int32.toInt_lt (I (100 + 8 * k) 5); omega)
    refine z_put (T := TX10) (N := 10) (ci := 10) (i := (100 + 8 * k)) (v := .int x4) (I1 := z_up I (100 + 8 * k) 5 x4) (J1 := JX) (P1 := PC c ad) hx hb hts zj_X10_addDelivery_X10 tyX10 tyX10_ok nmX10 hown hK hW hS (z_ss0 hk h10) rfl 5 (by decide) (hts (.fieldLink RX10 33 "PetrolBoard$Station" "deliveries" "I") (me_s (me_l (List.mem_of_getElem? (i := 0) rfl)))) (fun _ h => h) rfl rfl rfl (by first | rfl | exact congrArg _ z_up_s) (fun a b h ty => z_vI h ty) dX10_addDelivery_18 (fun H locs hz1 hW hS => ?_)
    obtain ⟨I5, eI5⟩ : ∃ K : z_I, K = z_up I (100 + 8 * k) 5 x4 := ⟨_, rfl⟩
    rw [← eI5] at hW
    have f6 := z_fr_a z_fr_0 (z_wad (L := L_X10_addDelivery_t) (by decide) (by omega)) eI5
    have hS7 := z_iS_k hS0 (by decide) eI5
    refine lv_aload_n hx hb dX10_addDelivery_21 rfl (lv_at hl 0 rfl) ?_
    refine lv_dup hx hb dX10_addDelivery_22 rfl ?_
    refine z_get (T := TX10) (N := 10) (ci := 10) (i := (100 + 8 * k)) (v := .int (I (100 + 8 * k) 6)) hx hb hts zj_X10_addDelivery_X10 hown hK hW (z_ss0 hk h10) rfl 6 (by decide) (hts (.fieldLink RX10 37 "PetrolBoard$Station" "delivered" "I") (me_s (me_l (List.mem_of_getElem? (i := 1) rfl)))) (fun _ h => h) (congrArg Value.int (by rw [eI5, z_up_k (by decide)])) dX10_addDelivery_23 ?_
    refine lv_iload_n hx hb dX10_addDelivery_26 rfl (lv_at hl 1 rfl) ?_
    refine lv_iadd hx hb dX10_addDelivery_27 ?_
    refine lv_topi (fun x8 ex8 => ?_)
    refine z_put (T := TX10) (N := 10) (ci := 10) (i := (100 + 8 * k)) (v := .int x8) (I1 := z_up I5 (100 + 8 * k) 6 x8) (J1 := JX) (P1 := PC c ad) hx hb hts zj_X10_addDelivery_X10 tyX10 tyX10_ok nmX10 hown hK hW hS (z_ss0 hk h10) rfl 6 (by decide) (hts (.fieldLink RX10 37 "PetrolBoard$Station" "delivered" "I") (me_s (me_l (List.mem_of_getElem? (i := 1) rfl)))) (fun _ h => h) rfl rfl rfl (by first | rfl | exact congrArg _ z_up_s) (fun a b h ty => z_vI h ty) dX10_addDelivery_28 (fun H locs hz1 hW hS => ?_)
    obtain ⟨I9, eI9⟩ : ∃ K : z_I, K = z_up I5 (100 + 8 * k) 6 x8 := ⟨_, rfl⟩
    rw [← eI9] at hW
    have f10 := z_fr_a f6 (z_wad (L := L_X10_addDelivery_t) (by decide) (by omega)) eI9
    have hS11 := z_iS_k hS7 (by decide) eI9
    refine lv_aload_n hx hb dX10_addDelivery_31 rfl (lv_at hl 0 rfl) ?_
    refine z_get (T := TX10) (N := 10) (ci := 10) (i := (100 + 8 * k)) (v := .int x8) hx hb hts zj_X10_addDelivery_X10 hown hK hW (z_ss0 hk h10) rfl 6 (by decide) (hts (.fieldLink RX10 37 "PetrolBoard$Station" "delivered" "I") (me_s (me_l (List.mem_of_getElem? (i := 1) rfl)))) (fun _ h => h) (congrArg Value.int (by rw [eI9, z_up_s])) dX10_addDelivery_32 ?_
    exact z_iret hx hb hr hK hS (Nat.le_of_ble_eq_true rfl) (Nat.le_of_ble_eq_true rfl) hlocks dX10_addDelivery_35 (shC c, ad, I9, JX, PC c ad) hW ⟨I9, rfl, f10, hS11, ⟨Or.inl ⟨by omega, ex8, z_dl_of (by omega) eI5 eI9 ex4 ex8⟩, fun q i j hq h1 h4 => by rw [eI9, z_up_n (by omega), eI5, z_up_n (by omega)]⟩⟩
  · have g12 := z_f_nlt rfl z_l30 c1
    have b13 := Int32.toInt_lt (I (100 + 8 * k) 5)
    refine lv_iconst (v := (-1)) hx hb dX10_addDelivery_9 (by decide) ?_
    exact z_iret hx hb hr hK hS (Nat.le_of_ble_eq_true rfl) (Nat.le_of_ble_eq_true rfl) hlocks dX10_addDelivery_10 (shC c, ad, I, JX, PC c ad) hW ⟨I, rfl, z_fr_0, hS0, ⟨Or.inr ⟨by omega, rfl, z_sk_0⟩, zu_r_0⟩⟩
noncomputable def L_X10_addDip_t : z_L := [(1000, 999)]
set_option maxHeartbeats 8000000 in
set_option maxRecDepth 100000 in
theorem sx_X10_addDip_t (l : Launch) (G : z_G) (ad : Nat → Nat) (c : z_C) (I : z_I) (k : Nat) (a1 : Int32) (a2 : Int32) (a3 : Int32) (hk : k < c.1) (h10 : c.1 ≤ 10) (hS0 : z_iS c I) : z_M l yX10_addDip wsX10_addDip { frames := 1, cells := 0, slots := 0, locals := 12 } [.ref (ad (100 + 8 * k)), .int a1, .int a2, .int a3] G (shC c, ad, I, JX, PC c ad) (fun r u1 => ∃ I1 : z_I, u1 = (shC c, ad, I1, JX, PC c ad) ∧ z_fr L_X10_addDip_t I1 I ∧ z_iS c I1 ∧ (((((I (100 + 8 * k) 4).toInt < 30) ∧ r.toInt = (I (100 + 8 * k) 4).toInt ∧ z_dp I1 I k) ∨ (¬ ((I (100 + 8 * k) 4).toInt < 30) ∧ r.toInt = -1 ∧ z_sk I1 I)) ∧ (((I (100 + 8 * k) 4).toInt < 30) → zu_d I1 I k (I (100 + 8 * k) 4).toNatClampNeg a1 a2 (I (100 + 8 * k) 6) a3) ∧ (¬ ((I (100 + 8 * k) 4).toInt < 30) → zu_r I1 I))) 0 0 := by
  intro sz
  refine z_headQ (cc := cX10_addDip) (maxL := 4) (ret := (some .int)) (by decide) rfl (Nat.le_of_ble_eq_true rfl) ?_
  intro p e s m below meth c0 ls hIn hK hsz hW hl
  obtain ⟨hx, hb, hr, hml, hown, hts, hlocks, hname⟩ := hIn
  subst hsz
  have hown : s.vm.findClass RX10 = some m.cls := hown
  have hA : ∀ q : Nat, s.heap.size ≤ q → z_A (shC c, ad, I, JX, PC c ad) s.heap.size q := fun q h => Or.inr h
  generalize hAe : z_A (shC c, ad, I, JX, PC c ad) s.heap.size = A at *
  have hS : va_S A s.heap s.heap [] := va_S.rf
  have hl : lv_has ls 4 [(0, .ref (ad (100 + 8 * k))), (1, .int a1), (2, .int a2), (3, .int a3)] := hl
  refine lv_aload_n hx hb dX10_addDip_0 rfl (lv_at hl 0 rfl) ?_
  have r1 : 0 ≤ (I (100 + 8 * k) 4).toInt ∧ (I (100 + 8 * k) 4).toInt ≤ 30 := (hS0 k hk)
  refine z_get (T := TX10) (N := 10) (ci := 10) (i := (100 + 8 * k)) (v := .int (I (100 + 8 * k) 4)) hx hb hts zj_X10_addDip_X10 hown hK hW (z_ss0 hk h10) rfl 4 (by decide) (hts (.fieldLink RX10 40 "PetrolBoard$Station" "dips" "I") (me_s (me_l (List.mem_of_getElem? (i := 0) rfl)))) (fun _ h => h) rfl dX10_addDip_1 ?_
  refine lv_bipush (v := 30) hx hb dX10_addDip_4 (by decide) ?_
  refine lv_icmp_lt (tgt := 11) hx hb dX10_addDip_6 (by decide) (fun c2 => ?_) (fun c2 => ?_)
  · have g3 := z_f_lt rfl z_l30 c2
    refine lv_aload_n hx hb dX10_addDip_11 rfl (lv_at hl 0 rfl) ?_
    refine z_get (T := TX10) (N := 10) (ci := 10) (i := (100 + 8 * k)) (v := .ref (ad (100 + 8 * k + 1))) hx hb hts zj_X10_addDip_X10 hown hK hW (z_ss0 hk h10) rfl 0 (by decide) (hts (.fieldLink RX10 9 "PetrolBoard$Station" "told" "[I") (me_s (me_l (List.mem_of_getElem? (i := 1) rfl)))) (fun _ h => h) (z_pS hk h10 rfl rfl) dX10_addDip_12 ?_
    refine lv_aload_n hx hb dX10_addDip_15 rfl (lv_at hl 0 rfl) ?_
    refine z_get (T := TX10) (N := 10) (ci := 10) (i := (100 + 8 * k)) (v := .int (I (100 + 8 * k) 4)) hx hb hts zj_X10_addDip_X10 hown hK hW (z_ss0 hk h10) rfl 4 (by decide) (hts (.fieldLink RX10 40 "PetrolBoard$Station" "dips" "I") (me_s (me_l (List.mem_of_getElem? (i := 0) rfl)))) (fun _ h => h) rfl dX10_addDip_16 ?_
    refine lv_iload_n hx hb dX10_addDip_19 rfl (lv_at hl 1 rfl) ?_
    refine z_iast (i := (100 + 8 * k + 1)) hx hb hK hW hS (z_ssj hk h10 (by decide)) (z_ix rfl (by omega) (by omega)) dX10_addDip_20 (fun H locs hz1 hW hS => ?_)
    obtain ⟨I4, eI4⟩ : ∃ K : z_I, K = z_up I (100 + 8 * k + 1) (I (100 + 8 * k) 4).toNatClampNeg a1 := ⟨_, rfl⟩
    rw [← eI4] at hW
    have f5 := z_fr_a z_fr_0 (z_wad (L := L_X10_addDip_t) (by decide) (by omega)) eI4
    have hS6 := z_iS_a hS0 (by decide) eI4
    have hZ7 := z_sk_a z_sk_0 (by decide) (by omega) eI4
    refine lv_aload_n hx hb dX10_addDip_21 rfl (lv_at hl 0 rfl) ?_
    refine z_get (T := TX10) (N := 10) (ci := 10) (i := (100 + 8 * k)) (v := .ref (ad (100 + 8 * k + 2))) hx hb hts zj_X10_addDip_X10 hown hK hW (z_ss0 hk h10) rfl 1 (by decide) (hts (.fieldLink RX10 15 "PetrolBoard$Station" "dipDay" "[I") (me_s (me_l (List.mem_of_getElem? (i := 2) rfl)))) (fun _ h => h) (z_pS hk h10 rfl rfl) dX10_addDip_22 ?_
    refine lv_aload_n hx hb dX10_addDip_25 rfl (lv_at hl 0 rfl) ?_
    refine z_get (T := TX10) (N := 10) (ci := 10) (i := (100 + 8 * k)) (v := .int (I (100 + 8 * k) 4)) hx hb hts zj_X10_addDip_X10 hown hK hW (z_ss0 hk h10) rfl 4 (by decide) (hts (.fieldLink RX10 40 "PetrolBoard$Station" "dips" "I") (me_s (me_l (List.mem_of_getElem? (i := 0) rfl)))) (fun _ h => h) (congrArg Value.int (by rw [eI4, z_up_n (by omega)])) dX10_addDip_26 ?_
    refine lv_iload_n hx hb dX10_addDip_29 rfl (lv_at hl 2 rfl) ?_
    refine z_iast (i := (100 + 8 * k + 2)) hx hb hK hW hS (z_ssj hk h10 (by decide)) (z_ix rfl (by omega) (by omega)) dX10_addDip_30 (fun H locs hz1 hW hS => ?_)
    obtain ⟨I8, eI8⟩ : ∃ K : z_I, K = z_up I4 (100 + 8 * k + 2) (I (100 + 8 * k) 4).toNatClampNeg a2 := ⟨_, rfl⟩
    rw [← eI8] at hW
    have f9 := z_fr_a f5 (z_wad (L := L_X10_addDip_t) (by decide) (by omega)) eI8
    have hS10 := z_iS_a hS6 (by decide) eI8
    have hZ11 := z_sk_a hZ7 (by decide) (by omega) eI8
    refine lv_aload_n hx hb dX10_addDip_31 rfl (lv_at hl 0 rfl) ?_
    refine z_get (T := TX10) (N := 10) (ci := 10) (i := (100 + 8 * k)) (v := .ref (ad (100 + 8 * k + 3))) hx hb hts zj_X10_addDip_X10 hown hK hW (z_ss0 hk h10) rfl 2 (by decide) (hts (.fieldLink RX10 18 "PetrolBoard$Station" "deliveredThen" "[I") (me_s (me_l (List.mem_of_getElem? (i := 3) rfl)))) (fun _ h => h) (z_pS hk h10 rfl rfl) dX10_addDip_32 ?_
    refine lv_aload_n hx hb dX10_addDip_35 rfl (lv_at hl 0 rfl) ?_
    refine z_get (T := TX10) (N := 10) (ci := 10) (i := (100 + 8 * k)) (v := .int (I (100 + 8 * k) 4)) hx hb hts zj_X10_addDip_X10 hown hK hW (z_ss0 hk h10) rfl 4 (by decide) (hts (.fieldLink RX10 40 "PetrolBoard$Station" "dips" "I") (me_s (me_l (List.mem_of_getElem? (i := 0) rfl)))) (fun _ h => h) (congrArg Value.int (by rw [eI8, z_up_n (by omega), eI4, z_up_n (by omega)])) dX10_addDip_36 ?_
    refine lv_aload_n hx hb dX10_addDip_39 rfl (lv_at hl 0 rfl) ?_
    refine z_get (T := TX10) (N := 10) (ci := 10) (i := (100 + 8 * k)) (v := .int (I (100 + 8 * k) 6)) hx hb hts zj_X10_addDip_X10 hown hK hW (z_ss0 hk h10) rfl 6 (by decide) (hts (.fieldLink RX10 37 "PetrolBoard$Station" "delivered" "I") (me_s (me_l (List.mem_of_getElem? (i := 4) rfl)))) (fun _ h => h) (congrArg Value.int (by rw [eI8, z_up_n (by omega), eI4, z_up_n (by omega)])) dX10_addDip_40 ?_
    refine z_iast (i := (100 + 8 * k + 3)) hx hb hK hW hS (z_ssj hk h10 (by decide)) (z_ix rfl (by omega) (by omega)) dX10_addDip_43 (fun H locs hz1 hW hS => ?_)
    obtain ⟨I12, eI12⟩ : ∃ K : z_I, K = z_up I8 (100 + 8 * k + 3) (I (100 + 8 * k) 4).toNatClampNeg (I (100 + 8 * k) 6) := ⟨_, rfl⟩
    rw [← eI12] at hW
    have f13 := z_fr_a f9 (z_wad (L := L_X10_addDip_t) (by decide) (by omega)) eI12
    have hS14 := z_iS_a hS10 (by decide) eI12
    have hZ15 := z_sk_a hZ11 (by decide) (by omega) eI12
    refine lv_aload_n hx hb dX10_addDip_44 rfl (lv_at hl 0 rfl) ?_
    refine z_get (T := TX10) (N := 10) (ci := 10) (i := (100 + 8 * k)) (v := .ref (ad (100 + 8 * k + 4))) hx hb hts zj_X10_addDip_X10 hown hK hW (z_ss0 hk h10) rfl 3 (by decide) (hts (.fieldLink RX10 21 "PetrolBoard$Station" "pouredThen" "[I") (me_s (me_l (List.mem_of_getElem? (i := 5) rfl)))) (fun _ h => h) (z_pS hk h10 rfl rfl) dX10_addDip_45 ?_
    refine lv_aload_n hx hb dX10_addDip_48 rfl (lv_at hl 0 rfl) ?_
    refine z_get (T := TX10) (N := 10) (ci := 10) (i := (100 + 8 * k)) (v := .int (I (100 + 8 * k) 4)) hx hb hts zj_X10_addDip_X10 hown hK hW (z_ss0 hk h10) rfl 4 (by decide) (hts (.fieldLink RX10 40 "PetrolBoard$Station" "dips" "I") (me_s (me_l (List.mem_of_getElem? (i := 0) rfl)))) (fun _ h => h) (congrArg Value.int (by rw [eI12, z_up_n (by omega), eI8, z_up_n (by omega), eI4, z_up_n (by omega)])) dX10_addDip_49 ?_
    refine lv_iload_n hx hb dX10_addDip_52 rfl (lv_at hl 3 rfl) ?_
    refine z_iast (i := (100 + 8 * k + 4)) hx hb hK hW hS (z_ssj hk h10 (by decide)) (z_ix rfl (by omega) (by omega)) dX10_addDip_53 (fun H locs hz1 hW hS => ?_)
    obtain ⟨I16, eI16⟩ : ∃ K : z_I, K = z_up I12 (100 + 8 * k + 4) (I (100 + 8 * k) 4).toNatClampNeg a3 := ⟨_, rfl⟩
    rw [← eI16] at hW
    have f17 := z_fr_a f13 (z_wad (L := L_X10_addDip_t) (by decide) (by omega)) eI16
    have hS18 := z_iS_a hS14 (by decide) eI16
    have hZ19 := z_sk_a hZ15 (by decide) (by omega) eI16
    refine lv_aload_n hx hb dX10_addDip_54 rfl (lv_at hl 0 rfl) ?_
    refine lv_dup hx hb dX10_addDip_55 rfl ?_
    refine z_get (T := TX10) (N := 10) (ci := 10) (i := (100 + 8 * k)) (v := .int (I (100 + 8 * k) 4)) hx hb hts zj_X10_addDip_X10 hown hK hW (z_ss0 hk h10) rfl 4 (by decide) (hts (.fieldLink RX10 40 "PetrolBoard$Station" "dips" "I") (me_s (me_l (List.mem_of_getElem? (i := 0) rfl)))) (fun _ h => h) (congrArg Value.int (by rw [eI16, z_up_n (by omega), eI12, z_up_n (by omega), eI8, z_up_n (by omega), eI4, z_up_n (by omega)])) dX10_addDip_56 ?_
    refine lv_iconst (v := 1) hx hb dX10_addDip_59 (by decide) ?_
    refine lv_iadd hx hb dX10_addDip_60 ?_
    refine lv_topi (fun x20 ex20 => ?_)
    have tx20 : x20.toInt = (I (100 + 8 * k) 4).toInt + 1 := z_tadd ex20 rfl z_l1 (by omega) (by omega)
    refine z_put (T := TX10) (N := 10) (ci := 10) (i := (100 + 8 * k)) (v := .int x20) (I1 := z_up I16 (100 + 8 * k) 4 x20) (J1 := JX) (P1 := PC c ad) hx hb hts zj_X10_addDip_X10 tyX10 tyX10_ok nmX10 hown hK hW hS (z_ss0 hk h10) rfl 4 (by decide) (hts (.fieldLink RX10 40 "PetrolBoard$Station" "dips" "I") (me_s (me_l (List.mem_of_getElem? (i := 0) rfl)))) (fun _ h => h) rfl rfl rfl (by first | rfl | exact congrArg _ z_up_s) (fun a b h ty => z_vI h ty) dX10_addDip_61 (fun H locs hz1 hW hS => ?_)
    obtain ⟨I21, eI21⟩ : ∃ K : z_I, K = z_up I16 (100 + 8 * k) 4 x20 := ⟨_, rfl⟩
    rw [← eI21] at hW
    have f22 := z_fr_a f17 (z_wad (L := L_X10_addDip_t) (by decide) (by omega)) eI21
    have hS23 := z_iS_4 hS18 (by omega) eI21
    refine lv_aload_n hx hb dX10_addDip_64 rfl (lv_at hl 0 rfl) ?_
    refine z_get (T := TX10) (N := 10) (ci := 10) (i := (100 + 8 * k)) (v := .int x20) hx hb hts zj_X10_addDip_X10 hown hK hW (z_ss0 hk h10) rfl 4 (by decide) (hts (.fieldLink RX10 40 "PetrolBoard$Station" "dips" "I") (me_s (me_l (List.mem_of_getElem? (i := 0) rfl)))) (fun _ h => h) (congrArg Value.int (by rw [eI21, z_up_s])) dX10_addDip_65 ?_
    refine lv_iconst (v := 1) hx hb dX10_addDip_68 (by decide) ?_
    refine lv_isub hx hb dX10_addDip_69 ?_
    refine lv_topi (fun x25 ex25 => ?_)
    have tx25 : x25.toInt = x20.toInt - 1 := z_tsub ex25 rfl z_l1 (by omega) (by omega)
    exact z_iret hx hb hr hK hS (Nat.le_of_ble_eq_true rfl) (Nat.le_of_ble_eq_true rfl) hlocks dX10_addDip_70 (shC c, ad, I21, JX, PC c ad) hW ⟨I21, rfl, f22, hS23, ⟨Or.inl ⟨by omega, by omega, z_dp_of (by omega) hZ19 eI21 ex20⟩, fun _ => zu_d_of eI4 eI8 eI12 eI16 eI21, fun q => absurd (by omega) q⟩⟩
  · have g26 := z_f_nlt rfl z_l30 c2
    refine lv_iconst (v := (-1)) hx hb dX10_addDip_9 (by decide) ?_
    exact z_iret hx hb hr hK hS (Nat.le_of_ble_eq_true rfl) (Nat.le_of_ble_eq_true rfl) hlocks dX10_addDip_10 (shC c, ad, I, JX, PC c ad) hW ⟨I, rfl, z_fr_0, hS0, ⟨Or.inr ⟨by omega, by decide, z_sk_0⟩, fun q => absurd q (by omega), fun _ => zu_r_0⟩⟩
noncomputable def L_X11_deliver_t : z_L := [(1000, 999)]
set_option maxHeartbeats 8000000 in
set_option maxRecDepth 100000 in
theorem sx_X11_deliver_t (l : Launch) (G : z_G) (ad : Nat → Nat) (c : z_C) (I : z_I) (hB : z_iB I) (a1 : Int32) (a2 : Int32) (hc : z_okc c) (h10 : c.1 ≤ 10) (hsn : (I 0 8).toInt = (c.1 : Int)) (hS0 : z_iS c I) : z_M l yX11_deliver wsX11_deliver { frames := 2, cells := 0, slots := 0, locals := 34 } [.ref (ad 0), .int a1, .int a2] G (shC c, ad, I, JX, PC c ad) (fun r u1 => ∃ I1 : z_I, u1 = (shC c, ad, I1, JX, PC c ad) ∧ z_iB I1 ∧ z_fr L_X11_deliver_t I1 I ∧ z_iS c I1 ∧ ((((0 ≤ a1.toInt ∧ a1.toInt < (I 0 8).toInt ∧ 1 ≤ a2.toInt ∧ a2.toInt ≤ 100000 ∧ (I (100 + 8 * a1.toNatClampNeg) 5).toInt < 30) ∧ r = (I (100 + 8 * a1.toNatClampNeg) 6) + a2 ∧ z_dl I1 I a1.toNatClampNeg a2) ∨ (¬ (0 ≤ a1.toInt ∧ a1.toInt < (I 0 8).toInt ∧ 1 ≤ a2.toInt ∧ a2.toInt ≤ 100000 ∧ (I (100 + 8 * a1.toNatClampNeg) 5).toInt < 30) ∧ r = -1 ∧ z_sk I1 I)) ∧ zu_r I1 I)) 0 0 := sorry
noncomputable def L_X11_dip_t : z_L := [(1000, 999)]
set_option maxHeartbeats 8000000 in
set_option maxRecDepth 100000 in
theorem sx_X11_dip_t (l : Launch) (G : z_G) (ad : Nat → Nat) (c : z_C) (I : z_I) (hB : z_iB I) (hP : z_iP I) (a1 : Int32) (a2 : Int32) (hc : z_okc c) (h10 : c.1 ≤ 10) (hsn : (I 0 8).toInt = (c.1 : Int)) (hS0 : z_iS c I) : z_M l yX11_dip wsX11_dip { frames := 2, cells := 0, slots := 0, locals := 35 } [.ref (ad 0), .int a1, .int a2] G (shC c, ad, I, JX, PC c ad) (fun r u1 => ∃ I1 : z_I, u1 = (shC c, ad, I1, JX, PC c ad) ∧ z_iB I1 ∧ z_iP I1 ∧ z_fr L_X11_dip_t I1 I ∧ z_iS c I1 ∧ ((((0 ≤ a1.toInt ∧ a1.toInt < (I 0 8).toInt ∧ 0 ≤ a2.toInt ∧ a2.toInt ≤ 200000 ∧ (I (100 + 8 * a1.toNatClampNeg) 4).toInt < 30) ∧ r.toInt = (I (100 + 8 * a1.toNatClampNeg) 4).toInt ∧ z_dp I1 I a1.toNatClampNeg) ∨ (¬ (0 ≤ a1.toInt ∧ a1.toInt < (I 0 8).toInt ∧ 0 ≤ a2.toInt ∧ a2.toInt ≤ 200000 ∧ (I (100 + 8 * a1.toNatClampNeg) 4).toInt < 30) ∧ r.toInt = -1 ∧ z_sk I1 I)) ∧ ((0 ≤ a1.toInt ∧ a1.toInt < (I 0 8).toInt ∧ 0 ≤ a2.toInt ∧ a2.toInt ≤ 200000 ∧ (I (100 + 8 * a1.toNatClampNeg) 4).toInt < 30) → zu_d I1 I a1.toNatClampNeg (I (100 + 8 * a1.toNatClampNeg) 4).toNatClampNeg a2 (I 0 0) (I (100 + 8 * a1.toNatClampNeg) 6) (I 30 8)) ∧ (¬ (0 ≤ a1.toInt ∧ a1.toInt < (I 0 8).toInt ∧ 0 ≤ a2.toInt ∧ a2.toInt ≤ 200000 ∧ (I (100 + 8 * a1.toNatClampNeg) 4).toInt < 30) → zu_r I1 I))) 0 0 := sorry
noncomputable def L_X12_deliver_t : z_L := [(45, 999), (46, 999), (43, 999), (44, 999), (0, 56)]
set_option maxHeartbeats 8000000 in
set_option maxRecDepth 100000 in
theorem sx_X12_deliver_t (l : Launch) (G : z_G) (ad : Nat → Nat) (I : z_I) (J : z_J) (hms : z_ims I) (hAgm : z_rg 43 0 30 I) (a1 : Int32) (a2 : Int32) : z_M l yX12_deliver wsX12_deliver { frames := 2, cells := 0, slots := 0, locals := 34 } [.ref (ad 0), .int a1, .int a2] G (shM, ad, I, J, PM ad) (fun r u1 => ∃ (I1 : z_I) (J1 : z_J), u1 = (shM, ad, I1, J1, PM ad) ∧ z_ims I1 ∧ z_rg 43 0 30 I1 ∧ z_fr L_X12_deliver_t I1 I ∧ ((((0 ≤ a1.toInt ∧ a1.toInt < (I 0 54).toInt ∧ 1 ≤ a2.toInt ∧ a2.toInt ≤ 100000 ∧ ¬ (I 43 a1.toNatClampNeg).toInt = 30) ∧ r = (I 44 a1.toNatClampNeg) + a2 ∧ (∀ j, I1 43 j = if j = a1.toNatClampNeg then (I 43 a1.toNatClampNeg) + 1 else I 43 j) ∧ (∀ j, I1 44 j = if j = a1.toNatClampNeg then (I 44 a1.toNatClampNeg) + a2 else I 44 j)) ∨ (¬ (0 ≤ a1.toInt ∧ a1.toInt < (I 0 54).toInt ∧ 1 ≤ a2.toInt ∧ a2.toInt ≤ 100000 ∧ ¬ (I 43 a1.toNatClampNeg).toInt = 30) ∧ r = -1 ∧ (∀ j, I1 43 j = I 43 j) ∧ (∀ j, I1 44 j = I 44 j))) ∧ ((0 ≤ a1.toInt ∧ a1.toInt < (I 0 54).toInt ∧ 1 ≤ a2.toInt ∧ a2.toInt ≤ 100000 ∧ ¬ (I 43 a1.toNatClampNeg).toInt = 30) → (∀ j, I1 45 j = if j = (30 * a1.toInt + (I 43 a1.toNatClampNeg).toInt).toNat then a2 else I 45 j) ∧ (∀ j, I1 46 j = if j = (30 * a1.toInt + (I 43 a1.toNatClampNeg).toInt).toNat then I 0 56 else I 46 j) ∧ I1 0 56 = I 0 56 + 1) ∧ (¬ (0 ≤ a1.toInt ∧ a1.toInt < (I 0 54).toInt ∧ 1 ≤ a2.toInt ∧ a2.toInt ≤ 100000 ∧ ¬ (I 43 a1.toNatClampNeg).toInt = 30) → (∀ j, I1 45 j = I 45 j) ∧ (∀ j, I1 46 j = I 46 j) ∧ I1 0 56 = I 0 56))) 0 0 := by
  intro sz
  refine z_headQ (cc := cX12_deliver) (maxL := 3) (ret := (some .int)) (by decide) rfl (Nat.le_of_ble_eq_true rfl) ?_
  intro p e s m below meth c0 ls hIn hK hsz hW hl
  obtain ⟨hx, hb, hr, hml, hown, hts, hlocks, hname⟩ := hIn
  subst hsz
  have hown : s.vm.findClass RX12 = some m.cls := hown
  have hA : ∀ q : Nat, s.heap.size ≤ q → z_A (shM, ad, I, J, PM ad) s.heap.size q := fun q h => Or.inr h
  generalize hAe : z_A (shM, ad, I, J, PM ad) s.heap.size = A at *
  have hS : va_S A s.heap s.heap [] := va_S.rf
  have hl : lv_has ls 3 [(0, .ref (ad 0)), (1, .int a1), (2, .int a2)] := hl
  refine lv_aload_n hx hb dX12_deliver_0 rfl (lv_at hl 0 rfl) ?_
  refine lv_iload_n hx hb dX12_deliver_1 rfl (lv_at hl 1 rfl) ?_
  refine z_ci hW hS hA (va_runV (As := [.int a1]) (rest := []) ⟨hx, hb, hml, hown, hts⟩ (sx_X12_isStation_e l G ad I J ⟨(by show 0 ≤ (I 0 54).toInt ∧ (I 0 54).toInt ≤ 10; exact hms.1), (by show 0 ≤ (I 0 55).toInt ∧ (I 0 55).toInt ≤ 300; exact hms.2)⟩ a1 _) (cwV 1 hts gX12_deliver_X12_isStation rfl rfl rfl (by decide +kernel) ⟨Nat.le_of_ble_eq_true rfl, Nat.le_of_ble_eq_true rfl⟩) (z_preV (i := 0) hK hW rfl rfl) rfl rfl hl.1 rfl (lv_room (Nat.le_of_ble_eq_true rfl)) dX12_deliver_2 ⟨Nat.le_of_ble_eq_true rfl, Nat.le_of_ble_eq_true rfl⟩) (fun r u1 H locs hp hW hS => ?_)
  obtain ⟨e9, hp⟩ := hp
  rw [e9] at hW
  rcases hp with ⟨rfl, h1⟩ | ⟨rfl, h1⟩
  · have h2 := h1
    have r3 : 0 ≤ (I 0 54).toInt ∧ (I 0 54).toInt ≤ 10 := hms.1
    refine lv_if_eq (tgt := 29) hx hb dX12_deliver_5 (by decide) (fun c4 => absurd c4 (by decide)) (fun c4 => ?_)
    refine lv_iload_n hx hb dX12_deliver_8 rfl (lv_at hl 2 rfl) ?_
    refine lv_iconst (v := 1) hx hb dX12_deliver_9 (by decide) ?_
    refine lv_ldc (v := 100000) hx hb hown (hts (.constant RX12 113 (100000)) (me_s (me_l (List.mem_of_getElem? (i := 0) rfl)))) dX12_deliver_10 ?_
    refine z_ci hW hS hA (va_runS (As := [.int a2, .int 1, .int 100000]) (rest := []) ⟨hx, hb, hml, hown, hts⟩ (sx_X12_within_e l G ad I J  a2 1 100000 _) (va_cwS 3 hts gX12_deliver_X12_within rfl rfl rfl (by decide +kernel) ⟨Nat.le_of_ble_eq_true rfl, Nat.le_of_ble_eq_true rfl⟩) (z_preS hK hW) rfl rfl hl.1 rfl (lv_room (Nat.le_of_ble_eq_true rfl)) dX12_deliver_12 ⟨Nat.le_of_ble_eq_true rfl, Nat.le_of_ble_eq_true rfl⟩) (fun r u1 H locs hp hW hS => ?_)
    obtain ⟨e9, hp⟩ := hp
    rw [e9] at hW
    rcases hp with ⟨rfl, h5⟩ | ⟨rfl, h5⟩
    · have h6 := h5
      have z7 := z_l1
      have z8 := z_l100000
      refine lv_if_eq (tgt := 29) hx hb dX12_deliver_15 (by decide) (fun c9 => absurd c9 (by decide)) (fun c9 => ?_)
      refine lv_aload_n hx hb dX12_deliver_18 rfl (lv_at hl 0 rfl) ?_
      refine z_get (T := TX12) (N := 96) (ci := 12) (i := 0) (v := .ref (ad 43)) hx hb hts zj_X12_deliver_X12 hown hK hW rfl rfl 66 (by decide) (hts (.fieldLink RX12 145 "PetrolBoardModel" "givenMany" "[I") (me_s (me_l (List.mem_of_getElem? (i := 1) rfl)))) (fun _ h => h) rfl dX12_deliver_19 ?_
      refine lv_iload_n hx hb dX12_deliver_22 rfl (lv_at hl 1 rfl) ?_
      refine z_iald (i := 43) hx hb hK hW rfl (z_ix rfl (by omega) (by omega)) dX12_deliver_23 ?_
      refine lv_topi (fun x10 ex10 => ?_)
      have h11 : 0 ≤ x10.toInt ∧ x10.toInt ≤ 30 := by rw [ex10]; exact hAgm _
      refine lv_bipush (v := 30) hx hb dX12_deliver_24 (by decide) ?_
      refine lv_icmp_ne (tgt := 31) hx hb dX12_deliver_26 (by decide) (fun c12 => ?_) (fun c12 => ?_)
      · have g13 := z_f_ne rfl z_l30 c12
        refine lv_aload_n hx hb dX12_deliver_31 rfl (lv_at hl 0 rfl) ?_
        refine z_get (T := TX12) (N := 96) (ci := 12) (i := 0) (v := .ref (ad 45)) hx hb hts zj_X12_deliver_X12 hown hK hW rfl rfl 68 (by decide) (hts (.fieldLink RX12 151 "PetrolBoardModel" "given" "[I") (me_s (me_l (List.mem_of_getElem? (i := 2) rfl)))) (fun _ h => h) rfl dX12_deliver_32 ?_
        refine lv_bipush (v := 30) hx hb dX12_deliver_35 (by decide) ?_
        refine lv_iload_n hx hb dX12_deliver_37 rfl (lv_at hl 1 rfl) ?_
        refine lv_imul hx hb dX12_deliver_38 ?_
        refine lv_topi (fun x14 ex14 => ?_)
        have tx14 : x14.toInt = 30 * a1.toInt := z_tmul ex14 z_l30 rfl (by omega) (by omega)
        refine lv_aload_n hx hb dX12_deliver_39 rfl (lv_at hl 0 rfl) ?_
        refine z_get (T := TX12) (N := 96) (ci := 12) (i := 0) (v := .ref (ad 43)) hx hb hts zj_X12_deliver_X12 hown hK hW rfl rfl 66 (by decide) (hts (.fieldLink RX12 145 "PetrolBoardModel" "givenMany" "[I") (me_s (me_l (List.mem_of_getElem? (i := 1) rfl)))) (fun _ h => h) rfl dX12_deliver_40 ?_
        refine lv_iload_n hx hb dX12_deliver_43 rfl (lv_at hl 1 rfl) ?_
        refine z_iald (i := 43) hx hb hK hW rfl (z_ix rfl (by omega) (by omega)) dX12_deliver_44 ?_
        refine z_topi (v := x10) ex10.symm ?_
        refine lv_iadd hx hb dX12_deliver_45 ?_
        refine lv_topi (fun x15 ex15 => ?_)
        have tx15 : x15.toInt = x14.toInt + x10.toInt := z_tadd ex15 rfl rfl (by omega) (by omega)
        refine lv_iload_n hx hb dX12_deliver_46 rfl (lv_at hl 2 rfl) ?_
        refine z_iast (i := 45) hx hb hK hW hS rfl (z_ix rfl (by omega) (by omega)) dX12_deliver_47 (fun H locs hz1 hW hS => ?_)
        obtain ⟨I16, eI16⟩ : ∃ K : z_I, K = z_up I 45 x15.toNatClampNeg a2 := ⟨_, rfl⟩
        rw [← eI16] at hW
        have f17 := z_fr_a z_fr_0 (show z_wa L_X12_deliver_t 45 = true by decide) eI16
        have a18 := z_rg_n hAgm (by decide) eI16
        refine lv_aload_n hx hb dX12_deliver_48 rfl (lv_at hl 0 rfl) ?_
        refine z_get (T := TX12) (N := 96) (ci := 12) (i := 0) (v := .ref (ad 46)) hx hb hts zj_X12_deliver_X12 hown hK hW rfl rfl 69 (by decide) (hts (.fieldLink RX12 154 "PetrolBoardModel" "givenCome" "[I") (me_s (me_l (List.mem_of_getElem? (i := 3) rfl)))) (fun _ h => h) rfl dX12_deliver_49 ?_
        refine lv_bipush (v := 30) hx hb dX12_deliver_52 (by decide) ?_
        refine lv_iload_n hx hb dX12_deliver_54 rfl (lv_at hl 1 rfl) ?_
        refine lv_imul hx hb dX12_deliver_55 ?_
        refine lv_topi (fun x19 ex19 => ?_)
        have tx19 : x19.toInt = 30 * a1.toInt := z_tmul ex19 z_l30 rfl (by omega) (by omega)
        refine lv_aload_n hx hb dX12_deliver_56 rfl (lv_at hl 0 rfl) ?_
        refine z_get (T := TX12) (N := 96) (ci := 12) (i := 0) (v := .ref (ad 43)) hx hb hts zj_X12_deliver_X12 hown hK hW rfl rfl 66 (by decide) (hts (.fieldLink RX12 145 "PetrolBoardModel" "givenMany" "[I") (me_s (me_l (List.mem_of_getElem? (i := 1) rfl)))) (fun _ h => h) rfl dX12_deliver_57 ?_
        refine lv_iload_n hx hb dX12_deliver_60 rfl (lv_at hl 1 rfl) ?_
        refine z_iald (i := 43) hx hb hK hW rfl (z_ix rfl (by omega) (by omega)) dX12_deliver_61 ?_
        refine z_topi (v := x10) (by rw [eI16, z_up_n (by decide)]; exact ex10.symm) ?_
        refine lv_iadd hx hb dX12_deliver_62 ?_
        refine lv_topi (fun x20 ex20 => ?_)
        have tx20 : x20.toInt = x19.toInt + x10.toInt := z_tadd ex20 rfl rfl (by omega) (by omega)
        refine lv_aload_n hx hb dX12_deliver_63 rfl (lv_at hl 0 rfl) ?_
        refine z_get (T := TX12) (N := 96) (ci := 12) (i := 0) (v := .int (I 0 56)) hx hb hts zj_X12_deliver_X12 hown hK hW rfl rfl 56 (by decide) (hts (.fieldLink RX12 471 "PetrolBoardModel" "comes" "I") (me_s (me_l (List.mem_of_getElem? (i := 4) rfl)))) (fun _ h => h) (congrArg Value.int (by rw [eI16, z_up_n (by decide)])) dX12_deliver_64 ?_
        refine z_iast (i := 46) hx hb hK hW hS rfl (z_ix rfl (by omega) (by omega)) dX12_deliver_67 (fun H locs hz1 hW hS => ?_)
        obtain ⟨I21, eI21⟩ : ∃ K : z_I, K = z_up I16 46 x20.toNatClampNeg (I 0 56) := ⟨_, rfl⟩
        rw [← eI21] at hW
        have f22 := z_fr_a f17 (show z_wa L_X12_deliver_t 46 = true by decide) eI21
        have a23 := z_rg_n a18 (by decide) eI21
        refine lv_aload_n hx hb dX12_deliver_68 rfl (lv_at hl 0 rfl) ?_
        refine lv_dup hx hb dX12_deliver_69 rfl ?_
        refine z_get (T := TX12) (N := 96) (ci := 12) (i := 0) (v := .int (I 0 56)) hx hb hts zj_X12_deliver_X12 hown hK hW rfl rfl 56 (by decide) (hts (.fieldLink RX12 471 "PetrolBoardModel" "comes" "I") (me_s (me_l (List.mem_of_getElem? (i := 4) rfl)))) (fun _ h => h) (congrArg Value.int (by rw [eI21, z_up_n (by decide), eI16, z_up_n (by decide)])) dX12_deliver_70 ?_
        refine lv_iconst (v := 1) hx hb dX12_deliver_73 (by decide) ?_
        refine lv_iadd hx hb dX12_deliver_74 ?_
        refine lv_topi (fun x24 ex24 => ?_)
        refine z_put (T := TX12) (N := 96) (ci := 12) (i := 0) (v := .int x24) (I1 := z_up I21 0 56 x24) (J1 := J) (P1 := PM ad) hx hb hts zj_X12_deliver_X12 tyX12 tyX12_ok nmX12 hown hK hW hS rfl rfl 56 (by decide) (hts (.fieldLink RX12 471 "PetrolBoardModel" "comes" "I") (me_s (me_l (List.mem_of_getElem? (i := 4) rfl)))) (fun _ h => h) rfl rfl rfl (by first | rfl | exact congrArg _ z_up_s) (fun a b h ty => z_vI h ty) dX12_deliver_75 (fun H locs hz1 hW hS => ?_)
        obtain ⟨I25, eI25⟩ : ∃ K : z_I, K = z_up I21 0 56 x24 := ⟨_, rfl⟩
        rw [← eI25] at hW
        have f26 := z_fr_k f22 (show z_wr L_X12_deliver_t 0 56 = true by decide) eI25
        have a27 := z_rg_n a23 (by decide) eI25
        refine lv_aload_n hx hb dX12_deliver_78 rfl (lv_at hl 0 rfl) ?_
        refine z_get (T := TX12) (N := 96) (ci := 12) (i := 0) (v := .ref (ad 43)) hx hb hts zj_X12_deliver_X12 hown hK hW rfl rfl 66 (by decide) (hts (.fieldLink RX12 145 "PetrolBoardModel" "givenMany" "[I") (me_s (me_l (List.mem_of_getElem? (i := 1) rfl)))) (fun _ h => h) rfl dX12_deliver_79 ?_
        refine lv_iload_n hx hb dX12_deliver_82 rfl (lv_at hl 1 rfl) ?_
        refine lv_dup2_11 hx hb dX12_deliver_83 rfl rfl ?_
        refine z_iald (i := 43) hx hb hK hW rfl (z_ix rfl (by omega) (by omega)) dX12_deliver_84 ?_
        refine z_topi (v := x10) (by rw [eI25, z_up_n (by decide), eI21, z_up_n (by decide), eI16, z_up_n (by decide)]; exact ex10.symm) ?_
        refine lv_iconst (v := 1) hx hb dX12_deliver_85 (by decide) ?_
        refine lv_iadd hx hb dX12_deliver_86 ?_
        refine lv_topi (fun x28 ex28 => ?_)
        have tx28 : x28.toInt = x10.toInt + 1 := z_tadd ex28 rfl z_l1 (by omega) (by omega)
        refine z_iast (i := 43) hx hb hK hW hS rfl (z_ix rfl (by omega) (by omega)) dX12_deliver_87 (fun H locs hz1 hW hS => ?_)
        obtain ⟨I29, eI29⟩ : ∃ K : z_I, K = z_up I25 43 a1.toNatClampNeg x28 := ⟨_, rfl⟩
        rw [← eI29] at hW
        have f30 := z_fr_a f26 (show z_wa L_X12_deliver_t 43 = true by decide) eI29
        have a31 := z_rg_a a27 (by omega) eI29
        refine lv_aload_n hx hb dX12_deliver_88 rfl (lv_at hl 0 rfl) ?_
        refine z_get (T := TX12) (N := 96) (ci := 12) (i := 0) (v := .ref (ad 44)) hx hb hts zj_X12_deliver_X12 hown hK hW rfl rfl 67 (by decide) (hts (.fieldLink RX12 148 "PetrolBoardModel" "givenSum" "[I") (me_s (me_l (List.mem_of_getElem? (i := 5) rfl)))) (fun _ h => h) rfl dX12_deliver_89 ?_
        refine lv_iload_n hx hb dX12_deliver_92 rfl (lv_at hl 1 rfl) ?_
        refine lv_dup2_11 hx hb dX12_deliver_93 rfl rfl ?_
        refine z_iald (i := 44) hx hb hK hW rfl (z_ix rfl (by omega) (by omega)) dX12_deliver_94 ?_
        refine lv_topi (fun x32 ex32 => ?_)
        refine lv_iload_n hx hb dX12_deliver_95 rfl (lv_at hl 2 rfl) ?_
        refine lv_iadd hx hb dX12_deliver_96 ?_
        refine lv_topi (fun x33 ex33 => ?_)
        refine z_iast (i := 44) hx hb hK hW hS rfl (z_ix rfl (by omega) (by omega)) dX12_deliver_97 (fun H locs hz1 hW hS => ?_)
        obtain ⟨I34, eI34⟩ : ∃ K : z_I, K = z_up I29 44 a1.toNatClampNeg x33 := ⟨_, rfl⟩
        rw [← eI34] at hW
        have f35 := z_fr_a f30 (show z_wa L_X12_deliver_t 44 = true by decide) eI34
        have a36 := z_rg_n a31 (by decide) eI34
        refine lv_aload_n hx hb dX12_deliver_98 rfl (lv_at hl 0 rfl) ?_
        refine z_get (T := TX12) (N := 96) (ci := 12) (i := 0) (v := .ref (ad 44)) hx hb hts zj_X12_deliver_X12 hown hK hW rfl rfl 67 (by decide) (hts (.fieldLink RX12 148 "PetrolBoardModel" "givenSum" "[I") (me_s (me_l (List.mem_of_getElem? (i := 5) rfl)))) (fun _ h => h) rfl dX12_deliver_99 ?_
        refine lv_iload_n hx hb dX12_deliver_102 rfl (lv_at hl 1 rfl) ?_
        refine z_iald (i := 44) hx hb hK hW rfl (z_ix rfl (by omega) (by omega)) dX12_deliver_103 ?_
        refine z_topi (v := x33) (by rw [eI34, z_up_s]) ?_
        exact z_iret hx hb hr hK hS (Nat.le_of_ble_eq_true rfl) (Nat.le_of_ble_eq_true rfl) hlocks dX12_deliver_104 (shM, ad, I34, J, PM ad) hW ⟨I34, J, rfl, ⟨(by show 0 ≤ (I34 0 54).toInt ∧ (I34 0 54).toInt ≤ 10; rw [eI34, z_up_n (by decide), eI29, z_up_n (by decide), eI25, z_up_k (by decide), eI21, z_up_n (by decide), eI16, z_up_n (by decide)]; exact hms.1), (by show 0 ≤ (I34 0 55).toInt ∧ (I34 0 55).toInt ≤ 300; rw [eI34, z_up_n (by decide), eI29, z_up_n (by decide), eI25, z_up_k (by decide), eI21, z_up_n (by decide), eI16, z_up_n (by decide)]; exact hms.2)⟩, a36, f35, ⟨(Or.inl ⟨(by have := congrArg Int32.toInt ex10; have := congrArg Int32.toInt ex32; omega), (by rw [ex33, ex32, eI29, z_up_n (by decide), eI25, z_up_n (by decide), eI21, z_up_n (by decide), eI16, z_up_n (by decide)]), (fun j => by rw [eI34, z_up_n (by decide), eI29, z_up_j, eI25, z_up_n (by decide), eI21, z_up_n (by decide), eI16, z_up_n (by decide), ex28, ex10]), (fun j => by rw [eI34, z_up_j, eI29, z_up_n (by decide), eI25, z_up_n (by decide), eI21, z_up_n (by decide), eI16, z_up_n (by decide), ex33, ex32, eI29, z_up_n (by decide), eI25, z_up_n (by decide), eI21, z_up_n (by decide), eI16, z_up_n (by decide)])⟩), (fun _ => ⟨(fun j => by rw [eI34, z_up_n (by decide), eI29, z_up_n (by decide), eI25, z_up_n (by decide), eI21, z_up_n (by decide), eI16, z_up_j, show x15.toNatClampNeg = (30 * a1.toInt + (I 43 a1.toNatClampNeg).toInt).toNat from congrArg Int.toNat (show x15.toInt = (30 * a1.toInt + (I 43 a1.toNatClampNeg).toInt) by have := congrArg Int32.toInt ex10; have := congrArg Int32.toInt ex32; omega)]), (fun j => by rw [eI34, z_up_n (by decide), eI29, z_up_n (by decide), eI25, z_up_n (by decide), eI21, z_up_j, eI16, z_up_n (by decide), show x20.toNatClampNeg = (30 * a1.toInt + (I 43 a1.toNatClampNeg).toInt).toNat from congrArg Int.toNat (show x20.toInt = (30 * a1.toInt + (I 43 a1.toNatClampNeg).toInt) by have := congrArg Int32.toInt ex10; have := congrArg Int32.toInt ex32; omega)]), (by rw [eI34, z_up_n (by decide), eI29, z_up_n (by decide), eI25, z_up_s, ex24])⟩), (fun q => absurd (by have := congrArg Int32.toInt ex10; have := congrArg Int32.toInt ex32; omega) q)⟩⟩
      · have g37 := z_f_eq rfl z_l30 c12
        refine lv_iconst (v := (-1)) hx hb dX12_deliver_29 (by decide) ?_
        exact z_iret hx hb hr hK hS (Nat.le_of_ble_eq_true rfl) (Nat.le_of_ble_eq_true rfl) hlocks dX12_deliver_30 (shM, ad, I, J, PM ad) hW ⟨I, J, rfl, ⟨(by show 0 ≤ (I 0 54).toInt ∧ (I 0 54).toInt ≤ 10; exact hms.1), (by show 0 ≤ (I 0 55).toInt ∧ (I 0 55).toInt ≤ 300; exact hms.2)⟩, hAgm, z_fr_0, ⟨(Or.inr ⟨(by have := congrArg Int32.toInt ex10; omega), rfl, (fun j => rfl), (fun j => rfl)⟩), (fun q => absurd q (by have := congrArg Int32.toInt ex10; omega)), (fun _ => ⟨(fun j => rfl), (fun j => rfl), rfl⟩)⟩⟩
    · have h38 := h5
      have z39 := z_l1
      have z40 := z_l100000
      refine lv_if_eq (tgt := 29) hx hb dX12_deliver_15 (by decide) (fun c41 => ?_) (fun c41 => absurd (by decide) c41)
      refine lv_iconst (v := (-1)) hx hb dX12_deliver_29 (by decide) ?_
      exact z_iret hx hb hr hK hS (Nat.le_of_ble_eq_true rfl) (Nat.le_of_ble_eq_true rfl) hlocks dX12_deliver_30 (shM, ad, I, J, PM ad) hW ⟨I, J, rfl, ⟨(by show 0 ≤ (I 0 54).toInt ∧ (I 0 54).toInt ≤ 10; exact hms.1), (by show 0 ≤ (I 0 55).toInt ∧ (I 0 55).toInt ≤ 300; exact hms.2)⟩, hAgm, z_fr_0, ⟨(Or.inr ⟨(by omega), rfl, (fun j => rfl), (fun j => rfl)⟩), (fun q => absurd q (by omega)), (fun _ => ⟨(fun j => rfl), (fun j => rfl), rfl⟩)⟩⟩
  · have h42 := h1
    have r43 : 0 ≤ (I 0 54).toInt ∧ (I 0 54).toInt ≤ 10 := hms.1
    refine lv_if_eq (tgt := 29) hx hb dX12_deliver_5 (by decide) (fun c44 => ?_) (fun c44 => absurd (by decide) c44)
    refine lv_iconst (v := (-1)) hx hb dX12_deliver_29 (by decide) ?_
    exact z_iret hx hb hr hK hS (Nat.le_of_ble_eq_true rfl) (Nat.le_of_ble_eq_true rfl) hlocks dX12_deliver_30 (shM, ad, I, J, PM ad) hW ⟨I, J, rfl, ⟨(by show 0 ≤ (I 0 54).toInt ∧ (I 0 54).toInt ≤ 10; exact hms.1), (by show 0 ≤ (I 0 55).toInt ∧ (I 0 55).toInt ≤ 300; exact hms.2)⟩, hAgm, z_fr_0, ⟨(Or.inr ⟨(by omega), rfl, (fun j => rfl), (fun j => rfl)⟩), (fun q => absurd q (by omega)), (fun _ => ⟨(fun j => rfl), (fun j => rfl), rfl⟩)⟩⟩
noncomputable def L_X12_dip_t : z_L := [(48, 999), (49, 999), (50, 999), (47, 999), (0, 56)]
set_option maxHeartbeats 8000000 in
set_option maxRecDepth 100000 in
theorem sx_X12_dip_t (l : Launch) (G : z_G) (ad : Nat → Nat) (I : z_I) (J : z_J) (hms : z_ims I) (hAdm : z_rg 47 0 30 I) (hma : z_ima I) (a1 : Int32) (a2 : Int32) : z_M l yX12_dip wsX12_dip { frames := 2, cells := 0, slots := 0, locals := 34 } [.ref (ad 0), .int a1, .int a2] G (shM, ad, I, J, PM ad) (fun r u1 => ∃ (I1 : z_I) (J1 : z_J), u1 = (shM, ad, I1, J1, PM ad) ∧ z_ims I1 ∧ z_rg 47 0 30 I1 ∧ z_ima I1 ∧ z_fr L_X12_dip_t I1 I ∧ ((((0 ≤ a1.toInt ∧ a1.toInt < (I 0 54).toInt ∧ 0 ≤ a2.toInt ∧ a2.toInt ≤ 200000 ∧ ¬ (I 47 a1.toNatClampNeg).toInt = 30) ∧ r.toInt = (I 47 a1.toNatClampNeg).toInt ∧ (∀ j, I1 47 j = if j = a1.toNatClampNeg then (I 47 a1.toNatClampNeg) + 1 else I 47 j)) ∨ (¬ (0 ≤ a1.toInt ∧ a1.toInt < (I 0 54).toInt ∧ 0 ≤ a2.toInt ∧ a2.toInt ≤ 200000 ∧ ¬ (I 47 a1.toNatClampNeg).toInt = 30) ∧ r.toInt = -1 ∧ (∀ j, I1 47 j = I 47 j))) ∧ ((0 ≤ a1.toInt ∧ a1.toInt < (I 0 54).toInt ∧ 0 ≤ a2.toInt ∧ a2.toInt ≤ 200000 ∧ ¬ (I 47 a1.toNatClampNeg).toInt = 30) → (∀ j, I1 48 j = if j = (30 * a1.toInt + (I 47 a1.toNatClampNeg).toInt).toNat then a2 else I 48 j) ∧ (∀ j, I1 49 j = if j = (30 * a1.toInt + (I 47 a1.toNatClampNeg).toInt).toNat then I 0 0 else I 49 j) ∧ (∀ j, I1 50 j = if j = (30 * a1.toInt + (I 47 a1.toNatClampNeg).toInt).toNat then I 0 56 else I 50 j) ∧ I1 0 56 = I 0 56 + 1) ∧ (¬ (0 ≤ a1.toInt ∧ a1.toInt < (I 0 54).toInt ∧ 0 ≤ a2.toInt ∧ a2.toInt ≤ 200000 ∧ ¬ (I 47 a1.toNatClampNeg).toInt = 30) → (∀ j, I1 48 j = I 48 j) ∧ (∀ j, I1 49 j = I 49 j) ∧ (∀ j, I1 50 j = I 50 j) ∧ I1 0 56 = I 0 56))) 0 0 := by
  intro sz
  refine z_headQ (cc := cX12_dip) (maxL := 4) (ret := (some .int)) (by decide) rfl (Nat.le_of_ble_eq_true rfl) ?_
  intro p e s m below meth c0 ls hIn hK hsz hW hl
  obtain ⟨hx, hb, hr, hml, hown, hts, hlocks, hname⟩ := hIn
  subst hsz
  have hown : s.vm.findClass RX12 = some m.cls := hown
  have hA : ∀ q : Nat, s.heap.size ≤ q → z_A (shM, ad, I, J, PM ad) s.heap.size q := fun q h => Or.inr h
  generalize hAe : z_A (shM, ad, I, J, PM ad) s.heap.size = A at *
  have hS : va_S A s.heap s.heap [] := va_S.rf
  have hl : lv_has ls 4 [(0, .ref (ad 0)), (1, .int a1), (2, .int a2)] := hl
  refine lv_aload_n hx hb dX12_dip_0 rfl (lv_at hl 0 rfl) ?_
  refine lv_iload_n hx hb dX12_dip_1 rfl (lv_at hl 1 rfl) ?_
  refine z_ci hW hS hA (va_runV (As := [.int a1]) (rest := []) ⟨hx, hb, hml, hown, hts⟩ (sx_X12_isStation_e l G ad I J ⟨(by show 0 ≤ (I 0 54).toInt ∧ (I 0 54).toInt ≤ 10; exact hms.1), (by show 0 ≤ (I 0 55).toInt ∧ (I 0 55).toInt ≤ 300; exact hms.2)⟩ a1 _) (cwV 1 hts gX12_dip_X12_isStation rfl rfl rfl (by decide +kernel) ⟨Nat.le_of_ble_eq_true rfl, Nat.le_of_ble_eq_true rfl⟩) (z_preV (i := 0) hK hW rfl rfl) rfl rfl hl.1 rfl (lv_room (Nat.le_of_ble_eq_true rfl)) dX12_dip_2 ⟨Nat.le_of_ble_eq_true rfl, Nat.le_of_ble_eq_true rfl⟩) (fun r u1 H locs hp hW hS => ?_)
  obtain ⟨e9, hp⟩ := hp
  rw [e9] at hW
  rcases hp with ⟨rfl, h1⟩ | ⟨rfl, h1⟩
  · have h2 := h1
    have r3 : 0 ≤ (I 0 54).toInt ∧ (I 0 54).toInt ≤ 10 := hms.1
    refine lv_if_eq (tgt := 30) hx hb dX12_dip_5 (by decide) (fun c4 => absurd c4 (by decide)) (fun c4 => ?_)
    refine lv_iload_n hx hb dX12_dip_8 rfl (lv_at hl 2 rfl) ?_
    refine lv_iconst (v := 0) hx hb dX12_dip_9 (by decide) ?_
    refine lv_ldcw (v := 200000) hx hb hown (hts (.constant RX12 477 (200000)) (me_s (me_l (List.mem_of_getElem? (i := 0) rfl)))) dX12_dip_10 ?_
    refine z_ci hW hS hA (va_runS (As := [.int a2, .int 0, .int 200000]) (rest := []) ⟨hx, hb, hml, hown, hts⟩ (sx_X12_within_e l G ad I J  a2 0 200000 _) (va_cwS 3 hts gX12_dip_X12_within rfl rfl rfl (by decide +kernel) ⟨Nat.le_of_ble_eq_true rfl, Nat.le_of_ble_eq_true rfl⟩) (z_preS hK hW) rfl rfl hl.1 rfl (lv_room (Nat.le_of_ble_eq_true rfl)) dX12_dip_13 ⟨Nat.le_of_ble_eq_true rfl, Nat.le_of_ble_eq_true rfl⟩) (fun r u1 H locs hp hW hS => ?_)
    obtain ⟨e9, hp⟩ := hp
    rw [e9] at hW
    rcases hp with ⟨rfl, h5⟩ | ⟨rfl, h5⟩
    · have h6 := h5
      have z7 := z_l0
      have z8 := z_l200000
      refine lv_if_eq (tgt := 30) hx hb dX12_dip_16 (by decide) (fun c9 => absurd c9 (by decide)) (fun c9 => ?_)
      refine lv_aload_n hx hb dX12_dip_19 rfl (lv_at hl 0 rfl) ?_
      refine z_get (T := TX12) (N := 96) (ci := 12) (i := 0) (v := .ref (ad 47)) hx hb hts zj_X12_dip_X12 hown hK hW rfl rfl 70 (by decide) (hts (.fieldLink RX12 157 "PetrolBoardModel" "dipMany" "[I") (me_s (me_l (List.mem_of_getElem? (i := 1) rfl)))) (fun _ h => h) rfl dX12_dip_20 ?_
      refine lv_iload_n hx hb dX12_dip_23 rfl (lv_at hl 1 rfl) ?_
      refine z_iald (i := 47) hx hb hK hW rfl (z_ix rfl (by omega) (by omega)) dX12_dip_24 ?_
      refine lv_topi (fun x10 ex10 => ?_)
      have h11 : 0 ≤ x10.toInt ∧ x10.toInt ≤ 30 := by rw [ex10]; exact hAdm _
      refine lv_bipush (v := 30) hx hb dX12_dip_25 (by decide) ?_
      refine lv_icmp_ne (tgt := 32) hx hb dX12_dip_27 (by decide) (fun c12 => ?_) (fun c12 => ?_)
      · have g13 := z_f_ne rfl z_l30 c12
        refine lv_bipush (v := 30) hx hb dX12_dip_32 (by decide) ?_
        refine lv_iload_n hx hb dX12_dip_34 rfl (lv_at hl 1 rfl) ?_
        refine lv_imul hx hb dX12_dip_35 ?_
        refine lv_topi (fun x14 ex14 => ?_)
        have tx14 : x14.toInt = 30 * a1.toInt := z_tmul ex14 z_l30 rfl (by omega) (by omega)
        refine lv_aload_n hx hb dX12_dip_36 rfl (lv_at hl 0 rfl) ?_
        refine z_get (T := TX12) (N := 96) (ci := 12) (i := 0) (v := .ref (ad 47)) hx hb hts zj_X12_dip_X12 hown hK hW rfl rfl 70 (by decide) (hts (.fieldLink RX12 157 "PetrolBoardModel" "dipMany" "[I") (me_s (me_l (List.mem_of_getElem? (i := 1) rfl)))) (fun _ h => h) rfl dX12_dip_37 ?_
        refine lv_iload_n hx hb dX12_dip_40 rfl (lv_at hl 1 rfl) ?_
        refine z_iald (i := 47) hx hb hK hW rfl (z_ix rfl (by omega) (by omega)) dX12_dip_41 ?_
        refine z_topi (v := x10) ex10.symm ?_
        refine lv_iadd hx hb dX12_dip_42 ?_
        refine lv_topi (fun x15 ex15 => ?_)
        have tx15 : x15.toInt = x14.toInt + x10.toInt := z_tadd ex15 rfl rfl (by omega) (by omega)
        refine lv_istore_n (lv' := [(3, .int x15), (0, .ref (ad 0)), (1, .int a1), (2, .int a2)]) hx hb dX12_dip_43 rfl hl (by decide) rfl (fun ls hl => ?_)
        refine lv_aload_n hx hb dX12_dip_44 rfl (lv_at hl 1 rfl) ?_
        refine z_get (T := TX12) (N := 96) (ci := 12) (i := 0) (v := .ref (ad 48)) hx hb hts zj_X12_dip_X12 hown hK hW rfl rfl 71 (by decide) (hts (.fieldLink RX12 160 "PetrolBoardModel" "dipTold" "[I") (me_s (me_l (List.mem_of_getElem? (i := 2) rfl)))) (fun _ h => h) rfl dX12_dip_45 ?_
        refine lv_iload_n hx hb dX12_dip_48 rfl (lv_at hl 0 rfl) ?_
        refine lv_iload_n hx hb dX12_dip_49 rfl (lv_at hl 3 rfl) ?_
        refine z_iast (i := 48) hx hb hK hW hS rfl (z_ix rfl (by omega) (by omega)) dX12_dip_50 (fun H locs hz1 hW hS => ?_)
        obtain ⟨I16, eI16⟩ : ∃ K : z_I, K = z_up I 48 x15.toNatClampNeg a2 := ⟨_, rfl⟩
        rw [← eI16] at hW
        have f17 := z_fr_a z_fr_0 (show z_wa L_X12_dip_t 48 = true by decide) eI16
        have a18 := z_rg_n hAdm (by decide) eI16
        refine lv_aload_n hx hb dX12_dip_51 rfl (lv_at hl 1 rfl) ?_
        refine z_get (T := TX12) (N := 96) (ci := 12) (i := 0) (v := .ref (ad 49)) hx hb hts zj_X12_dip_X12 hown hK hW rfl rfl 72 (by decide) (hts (.fieldLink RX12 163 "PetrolBoardModel" "dipDay" "[I") (me_s (me_l (List.mem_of_getElem? (i := 3) rfl)))) (fun _ h => h) rfl dX12_dip_52 ?_
        refine lv_iload_n hx hb dX12_dip_55 rfl (lv_at hl 0 rfl) ?_
        refine lv_aload_n hx hb dX12_dip_56 rfl (lv_at hl 1 rfl) ?_
        have r19 : 0 ≤ (I 0 0).toInt ∧ (I 0 0).toInt ≤ 719 := hma.1
        refine z_get (T := TX12) (N := 96) (ci := 12) (i := 0) (v := .int (I 0 0)) hx hb hts zj_X12_dip_X12 hown hK hW rfl rfl 0 (by decide) (hts (.fieldLink RX12 232 "PetrolBoardModel" "today" "I") (me_s (me_l (List.mem_of_getElem? (i := 4) rfl)))) (fun _ h => h) (congrArg Value.int (by rw [eI16, z_up_n (by decide)])) dX12_dip_57 ?_
        refine z_iast (i := 49) hx hb hK hW hS rfl (z_ix rfl (by omega) (by omega)) dX12_dip_60 (fun H locs hz1 hW hS => ?_)
        obtain ⟨I20, eI20⟩ : ∃ K : z_I, K = z_up I16 49 x15.toNatClampNeg (I 0 0) := ⟨_, rfl⟩
        rw [← eI20] at hW
        have f21 := z_fr_a f17 (show z_wa L_X12_dip_t 49 = true by decide) eI20
        have a22 := z_rg_n a18 (by decide) eI20
        refine lv_aload_n hx hb dX12_dip_61 rfl (lv_at hl 1 rfl) ?_
        refine z_get (T := TX12) (N := 96) (ci := 12) (i := 0) (v := .ref (ad 50)) hx hb hts zj_X12_dip_X12 hown hK hW rfl rfl 73 (by decide) (hts (.fieldLink RX12 166 "PetrolBoardModel" "dipCome" "[I") (me_s (me_l (List.mem_of_getElem? (i := 5) rfl)))) (fun _ h => h) rfl dX12_dip_62 ?_
        refine lv_iload_n hx hb dX12_dip_65 rfl (lv_at hl 0 rfl) ?_
        refine lv_aload_n hx hb dX12_dip_66 rfl (lv_at hl 1 rfl) ?_
        refine z_get (T := TX12) (N := 96) (ci := 12) (i := 0) (v := .int (I 0 56)) hx hb hts zj_X12_dip_X12 hown hK hW rfl rfl 56 (by decide) (hts (.fieldLink RX12 471 "PetrolBoardModel" "comes" "I") (me_s (me_l (List.mem_of_getElem? (i := 6) rfl)))) (fun _ h => h) (congrArg Value.int (by rw [eI20, z_up_n (by decide), eI16, z_up_n (by decide)])) dX12_dip_67 ?_
        refine z_iast (i := 50) hx hb hK hW hS rfl (z_ix rfl (by omega) (by omega)) dX12_dip_70 (fun H locs hz1 hW hS => ?_)
        obtain ⟨I23, eI23⟩ : ∃ K : z_I, K = z_up I20 50 x15.toNatClampNeg (I 0 56) := ⟨_, rfl⟩
        rw [← eI23] at hW
        have f24 := z_fr_a f21 (show z_wa L_X12_dip_t 50 = true by decide) eI23
        have a25 := z_rg_n a22 (by decide) eI23
        refine lv_aload_n hx hb dX12_dip_71 rfl (lv_at hl 1 rfl) ?_
        refine lv_dup hx hb dX12_dip_72 rfl ?_
        refine z_get (T := TX12) (N := 96) (ci := 12) (i := 0) (v := .int (I 0 56)) hx hb hts zj_X12_dip_X12 hown hK hW rfl rfl 56 (by decide) (hts (.fieldLink RX12 471 "PetrolBoardModel" "comes" "I") (me_s (me_l (List.mem_of_getElem? (i := 6) rfl)))) (fun _ h => h) (congrArg Value.int (by rw [eI23, z_up_n (by decide), eI20, z_up_n (by decide), eI16, z_up_n (by decide)])) dX12_dip_73 ?_
        refine lv_iconst (v := 1) hx hb dX12_dip_76 (by decide) ?_
        refine lv_iadd hx hb dX12_dip_77 ?_
        refine lv_topi (fun x26 ex26 => ?_)
        refine z_put (T := TX12) (N := 96) (ci := 12) (i := 0) (v := .int x26) (I1 := z_up I23 0 56 x26) (J1 := J) (P1 := PM ad) hx hb hts zj_X12_dip_X12 tyX12 tyX12_ok nmX12 hown hK hW hS rfl rfl 56 (by decide) (hts (.fieldLink RX12 471 "PetrolBoardModel" "comes" "I") (me_s (me_l (List.mem_of_getElem? (i := 6) rfl)))) (fun _ h => h) rfl rfl rfl (by first | rfl | exact congrArg _ z_up_s) (fun a b h ty => z_vI h ty) dX12_dip_78 (fun H locs hz1 hW hS => ?_)
        obtain ⟨I27, eI27⟩ : ∃ K : z_I, K = z_up I23 0 56 x26 := ⟨_, rfl⟩
        rw [← eI27] at hW
        have f28 := z_fr_k f24 (show z_wr L_X12_dip_t 0 56 = true by decide) eI27
        have a29 := z_rg_n a25 (by decide) eI27
        refine lv_aload_n hx hb dX12_dip_81 rfl (lv_at hl 1 rfl) ?_
        refine z_get (T := TX12) (N := 96) (ci := 12) (i := 0) (v := .ref (ad 47)) hx hb hts zj_X12_dip_X12 hown hK hW rfl rfl 70 (by decide) (hts (.fieldLink RX12 157 "PetrolBoardModel" "dipMany" "[I") (me_s (me_l (List.mem_of_getElem? (i := 1) rfl)))) (fun _ h => h) rfl dX12_dip_82 ?_
        refine lv_iload_n hx hb dX12_dip_85 rfl (lv_at hl 2 rfl) ?_
        refine lv_dup2_11 hx hb dX12_dip_86 rfl rfl ?_
        refine z_iald (i := 47) hx hb hK hW rfl (z_ix rfl (by omega) (by omega)) dX12_dip_87 ?_
        refine z_topi (v := x10) (by rw [eI27, z_up_n (by decide), eI23, z_up_n (by decide), eI20, z_up_n (by decide), eI16, z_up_n (by decide)]; exact ex10.symm) ?_
        refine lv_iconst (v := 1) hx hb dX12_dip_88 (by decide) ?_
        refine lv_iadd hx hb dX12_dip_89 ?_
        refine lv_topi (fun x30 ex30 => ?_)
        have tx30 : x30.toInt = x10.toInt + 1 := z_tadd ex30 rfl z_l1 (by omega) (by omega)
        refine z_iast (i := 47) hx hb hK hW hS rfl (z_ix rfl (by omega) (by omega)) dX12_dip_90 (fun H locs hz1 hW hS => ?_)
        obtain ⟨I31, eI31⟩ : ∃ K : z_I, K = z_up I27 47 a1.toNatClampNeg x30 := ⟨_, rfl⟩
        rw [← eI31] at hW
        have f32 := z_fr_a f28 (show z_wa L_X12_dip_t 47 = true by decide) eI31
        have a33 := z_rg_a a29 (by omega) eI31
        refine lv_aload_n hx hb dX12_dip_91 rfl (lv_at hl 1 rfl) ?_
        refine z_get (T := TX12) (N := 96) (ci := 12) (i := 0) (v := .ref (ad 47)) hx hb hts zj_X12_dip_X12 hown hK hW rfl rfl 70 (by decide) (hts (.fieldLink RX12 157 "PetrolBoardModel" "dipMany" "[I") (me_s (me_l (List.mem_of_getElem? (i := 1) rfl)))) (fun _ h => h) rfl dX12_dip_92 ?_
        refine lv_iload_n hx hb dX12_dip_95 rfl (lv_at hl 2 rfl) ?_
        refine z_iald (i := 47) hx hb hK hW rfl (z_ix rfl (by omega) (by omega)) dX12_dip_96 ?_
        refine z_topi (v := x30) (by rw [eI31, z_up_s]) ?_
        refine lv_iconst (v := 1) hx hb dX12_dip_97 (by decide) ?_
        refine lv_isub hx hb dX12_dip_98 ?_
        refine lv_topi (fun x34 ex34 => ?_)
        have tx34 : x34.toInt = x30.toInt - 1 := z_tsub ex34 rfl z_l1 (by omega) (by omega)
        exact z_iret hx hb hr hK hS (Nat.le_of_ble_eq_true rfl) (Nat.le_of_ble_eq_true rfl) hlocks dX12_dip_99 (shM, ad, I31, J, PM ad) hW ⟨I31, J, rfl, ⟨(by show 0 ≤ (I31 0 54).toInt ∧ (I31 0 54).toInt ≤ 10; rw [eI31, z_up_n (by decide), eI27, z_up_k (by decide), eI23, z_up_n (by decide), eI20, z_up_n (by decide), eI16, z_up_n (by decide)]; exact hms.1), (by show 0 ≤ (I31 0 55).toInt ∧ (I31 0 55).toInt ≤ 300; rw [eI31, z_up_n (by decide), eI27, z_up_k (by decide), eI23, z_up_n (by decide), eI20, z_up_n (by decide), eI16, z_up_n (by decide)]; exact hms.2)⟩, a33, ⟨(by show 0 ≤ (I31 0 0).toInt ∧ (I31 0 0).toInt ≤ 719; rw [eI31, z_up_n (by decide), eI27, z_up_k (by decide), eI23, z_up_n (by decide), eI20, z_up_n (by decide), eI16, z_up_n (by decide)]; exact hma.1), (by show 0 ≤ (I31 0 1).toInt ∧ (I31 0 1).toInt ≤ 30; rw [eI31, z_up_n (by decide), eI27, z_up_k (by decide), eI23, z_up_n (by decide), eI20, z_up_n (by decide), eI16, z_up_n (by decide)]; exact hma.2.1), (by show 0 ≤ (I31 0 2).toInt ∧ (I31 0 2).toInt ≤ 200; rw [eI31, z_up_n (by decide), eI27, z_up_k (by decide), eI23, z_up_n (by decide), eI20, z_up_n (by decide), eI16, z_up_n (by decide)]; exact hma.2.2)⟩, f32, ⟨(Or.inl ⟨(by have := congrArg Int32.toInt ex10; omega), (by have := congrArg Int32.toInt ex10; omega), (fun j => by rw [eI31, z_up_j, eI27, z_up_n (by decide), eI23, z_up_n (by decide), eI20, z_up_n (by decide), eI16, z_up_n (by decide), ex30, ex10])⟩), (fun _ => ⟨(fun j => by rw [eI31, z_up_n (by decide), eI27, z_up_n (by decide), eI23, z_up_n (by decide), eI20, z_up_n (by decide), eI16, z_up_j, show x15.toNatClampNeg = (30 * a1.toInt + (I 47 a1.toNatClampNeg).toInt).toNat from congrArg Int.toNat (show x15.toInt = (30 * a1.toInt + (I 47 a1.toNatClampNeg).toInt) by have := congrArg Int32.toInt ex10; omega)]), (fun j => by rw [eI31, z_up_n (by decide), eI27, z_up_n (by decide), eI23, z_up_n (by decide), eI20, z_up_j, eI16, z_up_n (by decide), show x15.toNatClampNeg = (30 * a1.toInt + (I 47 a1.toNatClampNeg).toInt).toNat from congrArg Int.toNat (show x15.toInt = (30 * a1.toInt + (I 47 a1.toNatClampNeg).toInt) by have := congrArg Int32.toInt ex10; omega)]), (fun j => by rw [eI31, z_up_n (by decide), eI27, z_up_n (by decide), eI23, z_up_j, eI20, z_up_n (by decide), eI16, z_up_n (by decide), show x15.toNatClampNeg = (30 * a1.toInt + (I 47 a1.toNatClampNeg).toInt).toNat from congrArg Int.toNat (show x15.toInt = (30 * a1.toInt + (I 47 a1.toNatClampNeg).toInt) by have := congrArg Int32.toInt ex10; omega)]), (by rw [eI31, z_up_n (by decide), eI27, z_up_s, ex26])⟩), (fun q => absurd (by have := congrArg Int32.toInt ex10; omega) q)⟩⟩
      · have g35 := z_f_eq rfl z_l30 c12
        refine lv_iconst (v := (-1)) hx hb dX12_dip_30 (by decide) ?_
        exact z_iret hx hb hr hK hS (Nat.le_of_ble_eq_true rfl) (Nat.le_of_ble_eq_true rfl) hlocks dX12_dip_31 (shM, ad, I, J, PM ad) hW ⟨I, J, rfl, ⟨(by show 0 ≤ (I 0 54).toInt ∧ (I 0 54).toInt ≤ 10; exact hms.1), (by show 0 ≤ (I 0 55).toInt ∧ (I 0 55).toInt ≤ 300; exact hms.2)⟩, hAdm, ⟨(by show 0 ≤ (I 0 0).toInt ∧ (I 0 0).toInt ≤ 719; exact hma.1), (by show 0 ≤ (I 0 1).toInt ∧ (I 0 1).toInt ≤ 30; exact hma.2.1), (by show 0 ≤ (I 0 2).toInt ∧ (I 0 2).toInt ≤ 200; exact hma.2.2)⟩, z_fr_0, ⟨(Or.inr ⟨(by have := congrArg Int32.toInt ex10; omega), (by decide), (fun j => rfl)⟩), (fun q => absurd q (by have := congrArg Int32.toInt ex10; omega)), (fun _ => ⟨(fun j => rfl), (fun j => rfl), (fun j => rfl), rfl⟩)⟩⟩
    · have h36 := h5
      have z37 := z_l0
      have z38 := z_l200000
      refine lv_if_eq (tgt := 30) hx hb dX12_dip_16 (by decide) (fun c39 => ?_) (fun c39 => absurd (by decide) c39)
      refine lv_iconst (v := (-1)) hx hb dX12_dip_30 (by decide) ?_
      exact z_iret hx hb hr hK hS (Nat.le_of_ble_eq_true rfl) (Nat.le_of_ble_eq_true rfl) hlocks dX12_dip_31 (shM, ad, I, J, PM ad) hW ⟨I, J, rfl, ⟨(by show 0 ≤ (I 0 54).toInt ∧ (I 0 54).toInt ≤ 10; exact hms.1), (by show 0 ≤ (I 0 55).toInt ∧ (I 0 55).toInt ≤ 300; exact hms.2)⟩, hAdm, ⟨(by show 0 ≤ (I 0 0).toInt ∧ (I 0 0).toInt ≤ 719; exact hma.1), (by show 0 ≤ (I 0 1).toInt ∧ (I 0 1).toInt ≤ 30; exact hma.2.1), (by show 0 ≤ (I 0 2).toInt ∧ (I 0 2).toInt ≤ 200; exact hma.2.2)⟩, z_fr_0, ⟨(Or.inr ⟨(by omega), (by decide), (fun j => rfl)⟩), (fun q => absurd q (by omega)), (fun _ => ⟨(fun j => rfl), (fun j => rfl), (fun j => rfl), rfl⟩)⟩⟩
  · have h40 := h1
    have r41 : 0 ≤ (I 0 54).toInt ∧ (I 0 54).toInt ≤ 10 := hms.1
    refine lv_if_eq (tgt := 30) hx hb dX12_dip_5 (by decide) (fun c42 => ?_) (fun c42 => absurd (by decide) c42)
    refine lv_iconst (v := (-1)) hx hb dX12_dip_30 (by decide) ?_
    exact z_iret hx hb hr hK hS (Nat.le_of_ble_eq_true rfl) (Nat.le_of_ble_eq_true rfl) hlocks dX12_dip_31 (shM, ad, I, J, PM ad) hW ⟨I, J, rfl, ⟨(by show 0 ≤ (I 0 54).toInt ∧ (I 0 54).toInt ≤ 10; exact hms.1), (by show 0 ≤ (I 0 55).toInt ∧ (I 0 55).toInt ≤ 300; exact hms.2)⟩, hAdm, ⟨(by show 0 ≤ (I 0 0).toInt ∧ (I 0 0).toInt ≤ 719; exact hma.1), (by show 0 ≤ (I 0 1).toInt ∧ (I 0 1).toInt ≤ 30; exact hma.2.1), (by show 0 ≤ (I 0 2).toInt ∧ (I 0 2).toInt ≤ 200; exact hma.2.2)⟩, z_fr_0, ⟨(Or.inr ⟨(by omega), (by decide), (fun j => rfl)⟩), (fun q => absurd q (by omega)), (fun _ => ⟨(fun j => rfl), (fun j => rfl), (fun j => rfl), rfl⟩)⟩⟩
set_option maxHeartbeats 8000000 in
set_option maxRecDepth 100000 in
theorem sx_X11_station_t (l : Launch) (G : z_G) (ad : Nat → Nat) (c : z_C) (I : z_I) (h10 : c.1 ≤ 10) (hsn : (I 0 8).toInt = (c.1 : Int)) : z_M l yX11_station wsX11_station { frames := 2, cells := 8, slots := 220, locals := 40 } [.ref (ad 0)] G (shC c, ad, I, JX, PC c ad) (fun r u1 => ∃ (c1 : z_C) (ad1 : Nat → Nat) (I1 : z_I), u1 = (shC c1, ad1, I1, JX, PC c1 ad1) ∧ c1.2 = c.2 ∧ c1.1 ≤ 10 ∧ (I1 0 8).toInt = (c1.1 : Int) ∧ (∀ j, j < 75 → ad1 j = ad j) ∧ (∀ a k, a < 75 → ¬ (a = 0 ∧ k = 8) → I1 a k = I a k) ∧ (z_iS c I → z_iS c1 I1) ∧ ((((I 0 8).toInt < 10 ∧ r.toInt = (I 0 8).toInt ∧ (I1 0 8).toInt = (I 0 8).toInt + 1 ∧ z_sn I1 I c.1) ∨ (¬ (I 0 8).toInt < 10 ∧ r.toInt = -1 ∧ (I1 0 8).toInt = (I 0 8).toInt ∧ z_sk I1 I)) ∧ zu_n I1 I c.1)) 8 220 := by
  intro sz
  refine z_headQ (cc := cX11_station) (maxL := 1) (ret := (some .int)) (by decide) rfl (Nat.le_of_ble_eq_true rfl) ?_
  intro p e s m below meth c0 ls hIn hK hsz hW hl
  obtain ⟨hx, hb, hr, hml, hown, hts, hlocks, hname⟩ := hIn
  subst hsz
  have hown : s.vm.findClass RX11 = some m.cls := hown
  have hA : ∀ q : Nat, s.heap.size ≤ q → z_A (shC c, ad, I, JX, PC c ad) s.heap.size q := fun q h => Or.inr h
  generalize hAe : z_A (shC c, ad, I, JX, PC c ad) s.heap.size = A at *
  have hS : va_S A s.heap s.heap [] := va_S.rf
  have hl : lv_has ls 1 [(0, .ref (ad 0))] := hl
  refine lv_aload_n hx hb dX11_station_0 rfl (lv_at hl 0 rfl) ?_
  refine z_get (T := TX11) (N := 13) (ci := 11) (i := 0) (v := .int (I 0 8)) hx hb hts zj_X11_station_X11 hown hK hW rfl rfl 8 (by decide) (hts (.fieldLink RX11 178 "PetrolBoard" "stationNumber" "I") (me_s (me_l (me_l (List.mem_of_getElem? (i := 0) rfl))))) (fun _ h => h) rfl dX11_station_1 ?_
  refine lv_aload_n hx hb dX11_station_4 rfl (lv_at hl 0 rfl) ?_
  refine z_get (T := TX11) (N := 13) (ci := 11) (i := 0) (v := .ref (ad 39)) hx hb hts zj_X11_station_X11 hown hK hW rfl rfl 7 (by decide) (hts (.fieldLink RX11 50 "PetrolBoard" "stations" "[LPetrolBoard$Station;") (me_s (me_l (me_l (List.mem_of_getElem? (i := 1) rfl))))) (fun _ h => h) rfl dX11_station_5 ?_
  refine z_alen (i := 39) (v := 10) hx hb hK hW rfl (by simp [z_tys]) (by rfl) dX11_station_8 ?_
  refine lv_icmp_lt (tgt := 14) hx hb dX11_station_9 (by decide) (fun c1 => ?_) (fun c1 => ?_)
  · have g1 := z_f_lt rfl (show (10 : Int32).toInt = 10 by decide) c1
    have h9 : c.1 < 10 := by omega
    refine lv_aload_n hx hb dX11_station_14 rfl (lv_at hl 0 rfl) ?_
    refine z_get (T := TX11) (N := 13) (ci := 11) (i := 0) (v := .ref (ad 39)) hx hb hts zj_X11_station_X11 hown hK hW rfl rfl 7 (by decide) (hts (.fieldLink RX11 50 "PetrolBoard" "stations" "[LPetrolBoard$Station;") (me_s (me_l (me_l (List.mem_of_getElem? (i := 1) rfl))))) (fun _ h => h) rfl dX11_station_15 ?_
    refine lv_aload_n hx hb dX11_station_18 rfl (lv_at hl 0 rfl) ?_
    refine z_get (T := TX11) (N := 13) (ci := 11) (i := 0) (v := .int (I 0 8)) hx hb hts zj_X11_station_X11 hown hK hW rfl rfl 8 (by decide) (hts (.fieldLink RX11 178 "PetrolBoard" "stationNumber" "I") (me_s (me_l (me_l (List.mem_of_getElem? (i := 0) rfl))))) (fun _ h => h) rfl dX11_station_19 ?_
    obtain ⟨ad1, ead⟩ : ∃ f, f = z_ad8 ad (z_i0 c) s.heap.size := ⟨_, rfl⟩
    obtain ⟨P1, eP1⟩ : ∃ f, f = z_P8 (PC c ad) (z_i0 c) := ⟨_, rfl⟩
    have hlo : ∀ j, j < 75 → ad1 j = ad j := fun j hj => by rw [ead]; exact if_neg (by unfold z_i0; omega)
    have hnew : ∀ j, j < 8 → ad1 (z_i0 c + j) = s.heap.size + j := fun j hj => by rw [ead]; show (if _ then _ else _) = _; rw [if_pos (by omega)]; omega
    have hW := z_re8 (q := s.heap.size) h9 hW
    rw [← ead, ← eP1] at hW
    have hl : lv_has ls 1 [(0, .ref (ad1 0))] := by rw [hlo 0 (by decide)]; exact hl
    refine W.eq (g2 := F0 m 22 ls [.int (I 0 8), .ref (ad1 39)]) (by rw [hlo 39 (by decide)]) ?_
    refine z_new (z_i0 c) ad1 (T := TX10) (N := 10) (ci := 10) hx hb hts zj_X11_station_X10 tyX10 tyX10_ok hown (hts (.classLink RX11 48 RX10) (me_s (me_l (me_l (List.mem_of_getElem? (i := 2) rfl))))) (hts (.instantiable RX10 10) (me_s (me_l (me_l (List.mem_of_getElem? (i := 3) rfl))))) (hts (.initialized RX10) (me_s (me_l (me_l (List.mem_of_getElem? (i := 4) rfl))))) hK hW hS hA (hnew 0 (by decide)) (fun _ _ => rfl) rfl (fun k hk => (z_v0 (if_pos (by omega)) rfl (by rw [eP1]; exact if_pos rfl) (ndX10 k hk)).symm) (Nat.le_of_ble_eq_true rfl) (Nat.le_of_ble_eq_true rfl) dX11_station_22 (fun H hz1 hW hS => ?_)
    refine lv_dup hx hb dX11_station_25 rfl ?_
    refine z_cc hW hS hA (va_runIN (As := []) (rest := [.ref (ad1 (z_i0 c)), .int (I 0 8), .ref (ad1 39)]) ⟨hx, hb, hml, hown, hts⟩ (sx_X10_init l G (z_sh (shC c) (z_i0 c) (.inr 10)) ad1 (z_I8 I (z_i0 c)) JX P1 (z_i0 c) _ (by simp [z_sh]) (fun j hj => by rw [hz1, Nat.add_assoc, hnew (1 + j) (by omega)]; omega) (fun j hj k => if_pos (by omega))) ⟨va_cnB 0 hts gX11_station_X10_init_n181 rfl rfl rfl (hK.2.2.1 _ (List.mem_of_getElem? (i := 11) rfl)) (hts (.initialized RX10) (me_s (me_l (me_l (List.mem_of_getElem? (i := 4) rfl))))) (by decide +kernel) ⟨(Nat.le_of_ble_eq_true rfl), (Nat.le_of_ble_eq_true rfl)⟩, rfl, (hts (.instanceMethod yX10_init) (me_s (me_l (me_l (List.mem_of_getElem? (i := 5) rfl)))))⟩ (z_preS hK hW) rfl rfl hl.1 rfl (lv_room (Nat.le_of_ble_eq_true rfl)) dX11_station_26 ⟨(Nat.le_of_ble_eq_true rfl), (Nat.le_of_ble_eq_true rfl)⟩) (fun H locs hz1 hW hS => ?_)
    have hsh39 : z_shr (z_sh (shC c) (z_i0 c) (.inr 10)) (z_i0 c) 30 7 39 = some (.inl (.object RX10, 10)) := by rw [z_shC_1 h9]; rfl
    have hsh0 : z_shr (z_sh (shC c) (z_i0 c) (.inr 10)) (z_i0 c) 30 7 0 = some (.inr 11) := by rw [z_shC_1 h9]; rfl
    have hshi : z_shr (z_sh (shC c) (z_i0 c) (.inr 10)) (z_i0 c) 30 7 (z_i0 c) = some (.inr 10) := (z_shr_o 7).trans (by simp [z_sh])
    refine z_aast (i := 39) (j := z_i0 c) (x := I 0 8) (ci := 10) hx hb hK hW hS hsh39 (by simp [z_tys]) hshi rfl (z_ix rfl (by omega) (by omega)) dX11_station_29 (fun H locs hz1 hW hS => ?_)
    have hI8 : z_I8 I (z_i0 c) 0 8 = I 0 8 := if_neg (by unfold z_i0; omega)
    have hx9 : (I 0 8).toNatClampNeg = c.1 := by have := z_clt (x := I 0 8) hsn (by omega); omega
    obtain ⟨P2, eP2⟩ : ∃ f, f = z_up (z_ps z_f10 P1 (z_i0 c) ad1 7) 39 (I 0 8).toNatClampNeg (some (ad1 (z_i0 c))) := ⟨_, rfl⟩
    rw [← eP2] at hW
    refine lv_aload_n hx hb dX11_station_30 rfl (lv_at hl 0 rfl) ?_
    refine lv_dup hx hb dX11_station_31 rfl ?_
    refine z_get (T := TX11) (N := 13) (ci := 11) (i := 0) (v := .int (I 0 8)) hx hb hts zj_X11_station_X11 hown hK hW hsh0 rfl 8 (by decide) (hts (.fieldLink RX11 178 "PetrolBoard" "stationNumber" "I") (me_s (me_l (me_l (List.mem_of_getElem? (i := 0) rfl))))) (fun _ h => h) (congrArg Value.int hI8) dX11_station_32 ?_
    refine lv_iconst (v := 1) hx hb dX11_station_35 (by decide) ?_
    refine lv_iadd hx hb dX11_station_36 ?_
    refine lv_topi (fun y ey => ?_)
    have ty : y.toInt = (c.1 : Int) + 1 := z_tadd ey hsn (show (1 : Int32).toInt = 1 by decide) (by omega) (by omega)
    refine z_put (T := TX11) (N := 13) (ci := 11) (i := 0) (v := .int y) (I1 := z_up (z_I8 I (z_i0 c)) 0 8 y) (J1 := JX) (P1 := P2) hx hb hts zj_X11_station_X11 tyX11 tyX11_ok nmX11 hown hK hW hS hsh0 rfl 8 (by decide) (hts (.fieldLink RX11 178 "PetrolBoard" "stationNumber" "I") (me_s (me_l (me_l (List.mem_of_getElem? (i := 0) rfl))))) (fun _ h => h) rfl rfl rfl (by first | rfl | exact congrArg _ z_up_s) (fun a b h ty => z_vI h ty) dX11_station_37 (fun H locs hz1 hW hS => ?_)
    obtain ⟨I2, eI2⟩ : ∃ f, f = z_up (z_I8 I (z_i0 c)) 0 8 y := ⟨_, rfl⟩
    rw [← eI2] at hW
    refine lv_aload_n hx hb dX11_station_40 rfl (lv_at hl 0 rfl) ?_
    refine z_get (T := TX11) (N := 13) (ci := 11) (i := 0) (v := .int y) hx hb hts zj_X11_station_X11 hown hK hW hsh0 rfl 8 (by decide) (hts (.fieldLink RX11 178 "PetrolBoard" "stationNumber" "I") (me_s (me_l (me_l (List.mem_of_getElem? (i := 0) rfl))))) (fun _ h => h) (congrArg Value.int (by rw [eI2, z_up_s])) dX11_station_41 ?_
    refine lv_iconst (v := 1) hx hb dX11_station_44 (by decide) ?_
    refine lv_isub hx hb dX11_station_45 ?_
    refine lv_topi (fun rr err => ?_)
    have trr : rr.toInt = (c.1 : Int) + 1 - 1 := z_tsub err ty (show (1 : Int32).toInt = 1 by decide) (by omega) (by omega)
    rw [eP2, eP1, ead] at hW
    have hW := z_st1 h9 hx9 hW
    rw [← ead] at hW
    exact z_iret hx hb hr hK hS (Nat.le_of_ble_eq_true rfl) (Nat.le_of_ble_eq_true rfl) hlocks dX11_station_46 (shC (z_c1 c), ad1, I2, JX, PC (z_c1 c) ad1) hW ⟨z_c1 c, ad1, I2, rfl, rfl, (by show c.1 + 1 ≤ 10; omega), (by rw [eI2, z_up_s, ty]; rfl), hlo, (fun a k ha hk => by rw [eI2]; by_cases q : a = 0; (· (rw [z_up_k (fun e => hk ⟨q, e⟩)]; exact if_neg (by unfold z_i0; omega))); (· (rw [z_up_n q]; exact if_neg (by unfold z_i0; omega)))), z_st2 eI2, ⟨Or.inl ⟨by omega, by omega, by rw [eI2, z_up_s, ty]; omega, z_sn_of h9 eI2⟩, zu_n_of eI2⟩⟩
  · refine lv_iconst (v := (-1)) hx hb dX11_station_12 (by decide) ?_
    exact z_iret hx hb hr hK hS (Nat.le_of_ble_eq_true rfl) (Nat.le_of_ble_eq_true rfl) hlocks dX11_station_13 (shC c, ad, I, JX, PC c ad) hW ⟨c, ad, I, rfl, rfl, h10, hsn, fun _ _ => rfl, fun _ _ _ _ => rfl, fun h => h, ⟨Or.inr ⟨by have := z_f_nlt rfl (show (10 : Int32).toInt = 10 by decide) c1; omega, by decide, rfl, z_sk_0⟩, fun _ _ _ _ _ _ _ => rfl⟩⟩
noncomputable def L_X12_pour_q : z_L := [(34, 999), (35, 999), (36, 999), (37, 999), (38, 999), (39, 999), (40, 999), (42, 999), (41, 999), (0, 56), (0, 55)]
set_option maxHeartbeats 8000000 in
set_option maxRecDepth 100000 in
theorem sx_X12_pour_q (l : Launch) (G : z_G) (ad : Nat → Nat) (I : z_I) (J : z_J) (hma : z_ima I) (hms : z_ims I) (hApc : z_rg 36 0 99999 I) (hmb : z_imb I) (hAtf : z_rg 11 0 288 I) (hAtm : z_rg 12 0 24 I) (a1 : Int32) (a2 : Int32) (a3 : Int32) (hIs : ∀ b : Nat, b < 720 → 0 ≤ (I 31 b).toInt ∧ (I 31 b).toInt ≤ 100) : z_M l yX12_pour wsX12_pour { frames := 3, cells := 0, slots := 0, locals := 62 } [.ref (ad 0), .int a1, .int a2, .int a3] G (shM, ad, I, J, PM ad) (fun r u1 => ∃ (I1 : z_I) (J1 : z_J), u1 = (shM, ad, I1, J1, PM ad) ∧ z_ima I1 ∧ z_ims I1 ∧ z_rg 36 0 99999 I1 ∧ z_imb I1 ∧ z_rg 11 0 288 I1 ∧ z_rg 12 0 24 I1 ∧ z_fr L_X12_pour_q I1 I ∧ ((((0 ≤ a1.toInt ∧ a1.toInt < (I 0 54).toInt ∧ 0 ≤ a2.toInt ∧ a2.toInt < (I 0 1).toInt ∧ 0 ≤ a3.toInt ∧ a3.toInt ≤ 99999 ∧ (I 0 55).toInt < 300) ∧ r.toInt = (I 0 55).toInt ∧ (I1 0 55).toInt = (I 0 55).toInt + 1 ∧ ∃ te dy ow : Int32, te.toInt = zb_am I 0 ((I 0 0).toInt / 30) (I 0 0).toInt ∧ ((¬ dy.toInt = 0 ∧ z_fm I a2 = 2) ∨ (dy.toInt = 0 ∧ ¬ z_fm I a2 = 2)) ∧ ow.toInt = zb_OM I a3.toInt ∧ zp_rM I1 I (I 0 55).toNatClampNeg a1 a2 a3 (I 0 0) te (-1) dy ow) ∨ (¬ (0 ≤ a1.toInt ∧ a1.toInt < (I 0 54).toInt ∧ 0 ≤ a2.toInt ∧ a2.toInt < (I 0 1).toInt ∧ 0 ≤ a3.toInt ∧ a3.toInt ≤ 99999 ∧ (I 0 55).toInt < 300) ∧ r.toInt = -1 ∧ (I1 0 55).toInt = (I 0 55).toInt ∧ zp_sM I1 I)) ∧ ((0 ≤ a1.toInt ∧ a1.toInt < (I 0 54).toInt ∧ 0 ≤ a2.toInt ∧ a2.toInt < (I 0 1).toInt ∧ 0 ≤ a3.toInt ∧ a3.toInt ≤ 99999 ∧ (I 0 55).toInt < 300) → (∀ j, I1 41 j = if j = (I 0 55).toNatClampNeg then I 0 56 else I 41 j) ∧ I1 0 56 = I 0 56 + 1) ∧ (¬ (0 ≤ a1.toInt ∧ a1.toInt < (I 0 54).toInt ∧ 0 ≤ a2.toInt ∧ a2.toInt < (I 0 1).toInt ∧ 0 ≤ a3.toInt ∧ a3.toInt ≤ 99999 ∧ (I 0 55).toInt < 300) → (∀ j, I1 41 j = I 41 j) ∧ I1 0 56 = I 0 56))) 0 0 := by
  intro sz
  refine z_headQ (cc := cX12_pour) (maxL := 4) (ret := (some .int)) (by decide) rfl (Nat.le_of_ble_eq_true rfl) ?_
  intro p e s m below meth c0 ls hIn hK hsz hW hl
  obtain ⟨hx, hb, hr, hml, hown, hts, hlocks, hname⟩ := hIn
  subst hsz
  have hown : s.vm.findClass RX12 = some m.cls := hown
  have hA : ∀ q : Nat, s.heap.size ≤ q → z_A (shM, ad, I, J, PM ad) s.heap.size q := fun q h => Or.inr h
  generalize hAe : z_A (shM, ad, I, J, PM ad) s.heap.size = A at *
  have hS : va_S A s.heap s.heap [] := va_S.rf
  have hl : lv_has ls 4 [(0, .ref (ad 0)), (1, .int a1), (2, .int a2), (3, .int a3)] := hl
  refine lv_aload_n hx hb dX12_pour_0 rfl (lv_at hl 0 rfl) ?_
  refine lv_iload_n hx hb dX12_pour_1 rfl (lv_at hl 1 rfl) ?_
  refine z_ci hW hS hA (va_runV (As := [.int a1]) (rest := []) ⟨hx, hb, hml, hown, hts⟩ (sx_X12_isStation_e l G ad I J ⟨(by show 0 ≤ (I 0 54).toInt ∧ (I 0 54).toInt ≤ 10; exact hms.1), (by show 0 ≤ (I 0 55).toInt ∧ (I 0 55).toInt ≤ 300; exact hms.2)⟩ a1 _) (cwV 1 hts gX12_pour_X12_isStation rfl rfl rfl (by decide +kernel) ⟨Nat.le_of_ble_eq_true rfl, Nat.le_of_ble_eq_true rfl⟩) (z_preV (i := 0) hK hW rfl rfl) rfl rfl hl.1 rfl (lv_room (Nat.le_of_ble_eq_true rfl)) dX12_pour_2 ⟨Nat.le_of_ble_eq_true rfl, Nat.le_of_ble_eq_true rfl⟩) (fun r u1 H locs hp hW hS => ?_)
  obtain ⟨e9, hp⟩ := hp
  rw [e9] at hW
  rcases hp with ⟨rfl, h1⟩ | ⟨rfl, h1⟩
  · have h2 := h1
    have r3 : 0 ≤ (I 0 54).toInt ∧ (I 0 54).toInt ≤ 10 := hms.1
    refine lv_if_eq (tgt := 37) hx hb dX12_pour_5 (by decide) (fun c4 => absurd c4 (by decide)) (fun c4 => ?_)
    refine lv_aload_n hx hb dX12_pour_8 rfl (lv_at hl 0 rfl) ?_
    refine lv_iload_n hx hb dX12_pour_9 rfl (lv_at hl 2 rfl) ?_
    refine z_ci hW hS hA (va_runV (As := [.int a2]) (rest := []) ⟨hx, hb, hml, hown, hts⟩ (sx_X12_isHolder_e l G ad I J ⟨(by show 0 ≤ (I 0 0).toInt ∧ (I 0 0).toInt ≤ 719; exact hma.1), (by show 0 ≤ (I 0 1).toInt ∧ (I 0 1).toInt ≤ 30; exact hma.2.1), (by show 0 ≤ (I 0 2).toInt ∧ (I 0 2).toInt ≤ 200; exact hma.2.2)⟩ a2 _) (cwV 1 hts gX12_pour_X12_isHolder rfl rfl rfl (by decide +kernel) ⟨Nat.le_of_ble_eq_true rfl, Nat.le_of_ble_eq_true rfl⟩) (z_preV (i := 0) hK hW rfl rfl) rfl rfl hl.1 rfl (lv_room (Nat.le_of_ble_eq_true rfl)) dX12_pour_10 ⟨Nat.le_of_ble_eq_true rfl, Nat.le_of_ble_eq_true rfl⟩) (fun r u1 H locs hp hW hS => ?_)
    obtain ⟨e9, hp⟩ := hp
    rw [e9] at hW
    rcases hp with ⟨rfl, h5⟩ | ⟨rfl, h5⟩
    · have h6 := h5
      have r7 : 0 ≤ (I 0 1).toInt ∧ (I 0 1).toInt ≤ 30 := hma.2.1
      refine lv_if_eq (tgt := 37) hx hb dX12_pour_13 (by decide) (fun c8 => absurd c8 (by decide)) (fun c8 => ?_)
      refine lv_iload_n hx hb dX12_pour_16 rfl (lv_at hl 3 rfl) ?_
      refine lv_iconst (v := 0) hx hb dX12_pour_17 (by decide) ?_
      refine lv_ldcw (v := 99999) hx hb hown (hts (.constant RX12 467 (99999)) (me_s (me_l (me_l (List.mem_of_getElem? (i := 0) rfl))))) dX12_pour_18 ?_
      refine z_ci hW hS hA (va_runS (As := [.int a3, .int 0, .int 99999]) (rest := []) ⟨hx, hb, hml, hown, hts⟩ (sx_X12_within_e l G ad I J  a3 0 99999 _) (va_cwS 3 hts gX12_pour_X12_within rfl rfl rfl (by decide +kernel) ⟨Nat.le_of_ble_eq_true rfl, Nat.le_of_ble_eq_true rfl⟩) (z_preS hK hW) rfl rfl hl.1 rfl (lv_room (Nat.le_of_ble_eq_true rfl)) dX12_pour_21 ⟨Nat.le_of_ble_eq_true rfl, Nat.le_of_ble_eq_true rfl⟩) (fun r u1 H locs hp hW hS => ?_)
      obtain ⟨e9, hp⟩ := hp
      rw [e9] at hW
      rcases hp with ⟨rfl, h9⟩ | ⟨rfl, h9⟩
      · have h11 := h9
        have z12 := z_l0
        have z13 := z_l99999
        refine lv_if_eq (tgt := 37) hx hb dX12_pour_24 (by decide) (fun c14 => absurd c14 (by decide)) (fun c14 => ?_)
        refine lv_aload_n hx hb dX12_pour_27 rfl (lv_at hl 0 rfl) ?_
        have r15 : 0 ≤ (I 0 55).toInt ∧ (I 0 55).toInt ≤ 300 := hms.2
        refine z_get (T := TX12) (N := 96) (ci := 12) (i := 0) (v := .int (I 0 55)) hx hb hts zj_X12_pour_X12 hown hK hW rfl rfl 55 (by decide) (hts (.fieldLink RX12 468 "PetrolBoardModel" "pours" "I") (me_s (me_l (me_l (List.mem_of_getElem? (i := 1) rfl))))) (fun _ h => h) rfl dX12_pour_28 ?_
        refine lv_sipush (v := 300) hx hb dX12_pour_31 (by decide) ?_
        refine lv_icmp_ne (tgt := 39) hx hb dX12_pour_34 (by decide) (fun c16 => ?_) (fun c16 => ?_)
        · have g17 := z_f_ne rfl z_l300 c16
          refine lv_aload_n hx hb dX12_pour_39 rfl (lv_at hl 0 rfl) ?_
          refine z_get (T := TX12) (N := 96) (ci := 12) (i := 0) (v := .ref (ad 34)) hx hb hts zj_X12_pour_X12 hown hK hW rfl rfl 57 (by decide) (hts (.fieldLink RX12 118 "PetrolBoardModel" "pourAt" "[I") (me_s (me_l (me_l (List.mem_of_getElem? (i := 2) rfl))))) (fun _ h => h) rfl dX12_pour_40 ?_
          refine lv_aload_n hx hb dX12_pour_43 rfl (lv_at hl 0 rfl) ?_
          refine z_get (T := TX12) (N := 96) (ci := 12) (i := 0) (v := .int (I 0 55)) hx hb hts zj_X12_pour_X12 hown hK hW rfl rfl 55 (by decide) (hts (.fieldLink RX12 468 "PetrolBoardModel" "pours" "I") (me_s (me_l (me_l (List.mem_of_getElem? (i := 1) rfl))))) (fun _ h => h) rfl dX12_pour_44 ?_
          refine lv_iload_n hx hb dX12_pour_47 rfl (lv_at hl 1 rfl) ?_
          refine z_iast (i := 34) hx hb hK hW hS rfl (z_ix rfl (by omega) (by omega)) dX12_pour_48 (fun H locs hz1 hW hS => ?_)
          obtain ⟨I18, eI18⟩ : ∃ K : z_I, K = z_up I 34 (I 0 55).toNatClampNeg a1 := ⟨_, rfl⟩
          rw [← eI18] at hW
          have f19 := z_fr_a z_fr_0 (show z_wa L_X12_pour_q 34 = true by decide) eI18
          have a20 := z_rg_n hApc (by decide) eI18
          have a21 := z_rg_n hAtf (by decide) eI18
          have a22 := z_rg_n hAtm (by decide) eI18
          refine lv_aload_n hx hb dX12_pour_49 rfl (lv_at hl 0 rfl) ?_
          refine z_get (T := TX12) (N := 96) (ci := 12) (i := 0) (v := .ref (ad 35)) hx hb hts zj_X12_pour_X12 hown hK hW rfl rfl 58 (by decide) (hts (.fieldLink RX12 121 "PetrolBoardModel" "pourWho" "[I") (me_s (me_l (me_l (List.mem_of_getElem? (i := 3) rfl))))) (fun _ h => h) rfl dX12_pour_50 ?_
          refine lv_aload_n hx hb dX12_pour_53 rfl (lv_at hl 0 rfl) ?_
          refine z_get (T := TX12) (N := 96) (ci := 12) (i := 0) (v := .int (I 0 55)) hx hb hts zj_X12_pour_X12 hown hK hW rfl rfl 55 (by decide) (hts (.fieldLink RX12 468 "PetrolBoardModel" "pours" "I") (me_s (me_l (me_l (List.mem_of_getElem? (i := 1) rfl))))) (fun _ h => h) (congrArg Value.int (by rw [eI18, z_up_n (by decide)])) dX12_pour_54 ?_
          refine lv_iload_n hx hb dX12_pour_57 rfl (lv_at hl 2 rfl) ?_
          refine z_iast (i := 35) hx hb hK hW hS rfl (z_ix rfl (by omega) (by omega)) dX12_pour_58 (fun H locs hz1 hW hS => ?_)
          obtain ⟨I23, eI23⟩ : ∃ K : z_I, K = z_up I18 35 (I 0 55).toNatClampNeg a2 := ⟨_, rfl⟩
          rw [← eI23] at hW
          have f24 := z_fr_a f19 (show z_wa L_X12_pour_q 35 = true by decide) eI23
          have a25 := z_rg_n a20 (by decide) eI23
          have a26 := z_rg_n a21 (by decide) eI23
          have a27 := z_rg_n a22 (by decide) eI23
          refine lv_aload_n hx hb dX12_pour_59 rfl (lv_at hl 0 rfl) ?_
          refine z_get (T := TX12) (N := 96) (ci := 12) (i := 0) (v := .ref (ad 36)) hx hb hts zj_X12_pour_X12 hown hK hW rfl rfl 59 (by decide) (hts (.fieldLink RX12 124 "PetrolBoardModel" "pourCoupon" "[I") (me_s (me_l (me_l (List.mem_of_getElem? (i := 4) rfl))))) (fun _ h => h) rfl dX12_pour_60 ?_
          refine lv_aload_n hx hb dX12_pour_63 rfl (lv_at hl 0 rfl) ?_
          refine z_get (T := TX12) (N := 96) (ci := 12) (i := 0) (v := .int (I 0 55)) hx hb hts zj_X12_pour_X12 hown hK hW rfl rfl 55 (by decide) (hts (.fieldLink RX12 468 "PetrolBoardModel" "pours" "I") (me_s (me_l (me_l (List.mem_of_getElem? (i := 1) rfl))))) (fun _ h => h) (congrArg Value.int (by rw [eI23, z_up_n (by decide), eI18, z_up_n (by decide)])) dX12_pour_64 ?_
          refine lv_iload_n hx hb dX12_pour_67 rfl (lv_at hl 3 rfl) ?_
          refine z_iast (i := 36) hx hb hK hW hS rfl (z_ix rfl (by omega) (by omega)) dX12_pour_68 (fun H locs hz1 hW hS => ?_)
          obtain ⟨I28, eI28⟩ : ∃ K : z_I, K = z_up I23 36 (I 0 55).toNatClampNeg a3 := ⟨_, rfl⟩
          rw [← eI28] at hW
          have f29 := z_fr_a f24 (show z_wa L_X12_pour_q 36 = true by decide) eI28
          have a30 := z_rg_a a25 (by omega) eI28
          have a31 := z_rg_n a26 (by decide) eI28
          have a32 := z_rg_n a27 (by decide) eI28
          refine lv_aload_n hx hb dX12_pour_69 rfl (lv_at hl 0 rfl) ?_
          refine z_get (T := TX12) (N := 96) (ci := 12) (i := 0) (v := .ref (ad 37)) hx hb hts zj_X12_pour_X12 hown hK hW rfl rfl 60 (by decide) (hts (.fieldLink RX12 127 "PetrolBoardModel" "pourDay" "[I") (me_s (me_l (me_l (List.mem_of_getElem? (i := 5) rfl))))) (fun _ h => h) rfl dX12_pour_70 ?_
          refine lv_aload_n hx hb dX12_pour_73 rfl (lv_at hl 0 rfl) ?_
          refine z_get (T := TX12) (N := 96) (ci := 12) (i := 0) (v := .int (I 0 55)) hx hb hts zj_X12_pour_X12 hown hK hW rfl rfl 55 (by decide) (hts (.fieldLink RX12 468 "PetrolBoardModel" "pours" "I") (me_s (me_l (me_l (List.mem_of_getElem? (i := 1) rfl))))) (fun _ h => h) (congrArg Value.int (by rw [eI28, z_up_n (by decide), eI23, z_up_n (by decide), eI18, z_up_n (by decide)])) dX12_pour_74 ?_
          refine lv_aload_n hx hb dX12_pour_77 rfl (lv_at hl 0 rfl) ?_
          have r33 : 0 ≤ (I 0 0).toInt ∧ (I 0 0).toInt ≤ 719 := hma.1
          refine z_get (T := TX12) (N := 96) (ci := 12) (i := 0) (v := .int (I 0 0)) hx hb hts zj_X12_pour_X12 hown hK hW rfl rfl 0 (by decide) (hts (.fieldLink RX12 232 "PetrolBoardModel" "today" "I") (me_s (me_l (me_l (List.mem_of_getElem? (i := 6) rfl))))) (fun _ h => h) (congrArg Value.int (by rw [eI28, z_up_n (by decide), eI23, z_up_n (by decide), eI18, z_up_n (by decide)])) dX12_pour_78 ?_
          refine z_iast (i := 37) hx hb hK hW hS rfl (z_ix rfl (by omega) (by omega)) dX12_pour_81 (fun H locs hz1 hW hS => ?_)
          obtain ⟨I34, eI34⟩ : ∃ K : z_I, K = z_up I28 37 (I 0 55).toNatClampNeg (I 0 0) := ⟨_, rfl⟩
          rw [← eI34] at hW
          have f35 := z_fr_a f29 (show z_wa L_X12_pour_q 37 = true by decide) eI34
          have a36 := z_rg_n a30 (by decide) eI34
          have a37 := z_rg_n a31 (by decide) eI34
          have a38 := z_rg_n a32 (by decide) eI34
          refine lv_aload_n hx hb dX12_pour_82 rfl (lv_at hl 0 rfl) ?_
          refine z_get (T := TX12) (N := 96) (ci := 12) (i := 0) (v := .ref (ad 38)) hx hb hts zj_X12_pour_X12 hown hK hW rfl rfl 61 (by decide) (hts (.fieldLink RX12 130 "PetrolBoardModel" "pourTenths" "[I") (me_s (me_l (me_l (List.mem_of_getElem? (i := 7) rfl))))) (fun _ h => h) rfl dX12_pour_83 ?_
          refine lv_aload_n hx hb dX12_pour_86 rfl (lv_at hl 0 rfl) ?_
          refine z_get (T := TX12) (N := 96) (ci := 12) (i := 0) (v := .int (I 0 55)) hx hb hts zj_X12_pour_X12 hown hK hW rfl rfl 55 (by decide) (hts (.fieldLink RX12 468 "PetrolBoardModel" "pours" "I") (me_s (me_l (me_l (List.mem_of_getElem? (i := 1) rfl))))) (fun _ h => h) (congrArg Value.int (by rw [eI34, z_up_n (by decide), eI28, z_up_n (by decide), eI23, z_up_n (by decide), eI18, z_up_n (by decide)])) dX12_pour_87 ?_
          refine lv_aload_n hx hb dX12_pour_90 rfl (lv_at hl 0 rfl) ?_
          refine lv_aload_n hx hb dX12_pour_91 rfl (lv_at hl 0 rfl) ?_
          refine z_get (T := TX12) (N := 96) (ci := 12) (i := 0) (v := .int (I 0 0)) hx hb hts zj_X12_pour_X12 hown hK hW rfl rfl 0 (by decide) (hts (.fieldLink RX12 232 "PetrolBoardModel" "today" "I") (me_s (me_l (me_l (List.mem_of_getElem? (i := 6) rfl))))) (fun _ h => h) (congrArg Value.int (by rw [eI34, z_up_n (by decide), eI28, z_up_n (by decide), eI23, z_up_n (by decide), eI18, z_up_n (by decide)])) dX12_pour_92 ?_
          refine lv_bipush (v := 30) hx hb dX12_pour_95 (by decide) ?_
          refine lv_idiv hx hb dX12_pour_97 (by decide) ?_
          refine lv_topi (fun x39 ex39 => ?_)
          have tx39 := z_tdiv ex39 rfl z_l30 (by decide)
          refine lv_aload_n hx hb dX12_pour_98 rfl (lv_at hl 0 rfl) ?_
          refine z_get (T := TX12) (N := 96) (ci := 12) (i := 0) (v := .int (I 0 0)) hx hb hts zj_X12_pour_X12 hown hK hW rfl rfl 0 (by decide) (hts (.fieldLink RX12 232 "PetrolBoardModel" "today" "I") (me_s (me_l (me_l (List.mem_of_getElem? (i := 6) rfl))))) (fun _ h => h) (congrArg Value.int (by rw [eI34, z_up_n (by decide), eI28, z_up_n (by decide), eI23, z_up_n (by decide), eI18, z_up_n (by decide)])) dX12_pour_99 ?_
          refine lv_iconst (v := 3) hx hb dX12_pour_102 (by decide) ?_
          refine z_ci hW hS hA (va_runV (As := [.int x39, .int (I 0 0), .int 3]) (rest := [.int (I 0 55), .ref (ad 38)]) ⟨hx, hb, hml, hown, hts⟩ (sx_X12_number_x l G ad I34 J ⟨(by show 0 ≤ (I34 0 13).toInt ∧ (I34 0 13).toInt ≤ 12; rw [eI34, z_up_n (by decide), eI28, z_up_n (by decide), eI23, z_up_n (by decide), eI18, z_up_n (by decide)]; exact hmb.1), (by show 0 ≤ (I34 0 14).toInt ∧ (I34 0 14).toInt ≤ 288; rw [eI34, z_up_n (by decide), eI28, z_up_n (by decide), eI23, z_up_n (by decide), eI18, z_up_n (by decide)]; exact hmb.2)⟩ a37 a38 x39 (I 0 0) 3 (by decide) _) (cwV 3 hts gX12_pour_X12_number rfl rfl rfl (by decide +kernel) ⟨Nat.le_of_ble_eq_true rfl, Nat.le_of_ble_eq_true rfl⟩) (z_preV (i := 0) hK hW rfl rfl) rfl rfl hl.1 rfl (lv_room (Nat.le_of_ble_eq_true rfl)) dX12_pour_103 ⟨Nat.le_of_ble_eq_true rfl, Nat.le_of_ble_eq_true rfl⟩) (fun r u1 H locs hp hW hS => ?_)
          obtain ⟨e9, hp⟩ := hp
          rw [e9] at hW
          refine lv_topi (fun x40 ex40 => ?_)
          rw [← ex40, show (3 : Int32).toInt - 3 = 0 by decide] at hp
          have hM41 : x40.toInt = zb_am I34 0 x39.toInt (I 0 0).toInt := zb_f_e hp
          refine z_iast (i := 38) hx hb hK hW hS rfl (z_ix rfl (by omega) (by omega)) dX12_pour_106 (fun H locs hz1 hW hS => ?_)
          obtain ⟨I42, eI42⟩ : ∃ K : z_I, K = z_up I34 38 (I 0 55).toNatClampNeg x40 := ⟨_, rfl⟩
          rw [← eI42] at hW
          have f43 := z_fr_a f35 (show z_wa L_X12_pour_q 38 = true by decide) eI42
          have a44 := z_rg_n a36 (by decide) eI42
          have a45 := z_rg_n a37 (by decide) eI42
          have a46 := z_rg_n a38 (by decide) eI42
          refine lv_aload_n hx hb dX12_pour_107 rfl (lv_at hl 0 rfl) ?_
          refine z_get (T := TX12) (N := 96) (ci := 12) (i := 0) (v := .ref (ad 39)) hx hb hts zj_X12_pour_X12 hown hK hW rfl rfl 62 (by decide) (hts (.fieldLink RX12 133 "PetrolBoardModel" "pourOwner" "[I") (me_s (me_l (me_l (List.mem_of_getElem? (i := 8) rfl))))) (fun _ h => h) rfl dX12_pour_108 ?_
          refine lv_aload_n hx hb dX12_pour_111 rfl (lv_at hl 0 rfl) ?_
          refine z_get (T := TX12) (N := 96) (ci := 12) (i := 0) (v := .int (I 0 55)) hx hb hts zj_X12_pour_X12 hown hK hW rfl rfl 55 (by decide) (hts (.fieldLink RX12 468 "PetrolBoardModel" "pours" "I") (me_s (me_l (me_l (List.mem_of_getElem? (i := 1) rfl))))) (fun _ h => h) (congrArg Value.int (by rw [eI42, z_up_n (by decide), eI34, z_up_n (by decide), eI28, z_up_n (by decide), eI23, z_up_n (by decide), eI18, z_up_n (by decide)])) dX12_pour_112 ?_
          refine lv_aload_n hx hb dX12_pour_115 rfl (lv_at hl 0 rfl) ?_
          refine lv_iload_n hx hb dX12_pour_116 rfl (lv_at hl 3 rfl) ?_
          refine z_ci hW hS hA (va_runV (As := [.int a3]) (rest := [.int (I 0 55), .ref (ad 39)]) ⟨hx, hb, hml, hown, hts⟩ (sx_X12_isCoupon_c l G ad I42 J a3 (fun b hb => by rw [f43 31 b (z_wr_c (by decide))]; exact hIs b hb) _) (cwV 1 hts gX12_pour_X12_isCoupon rfl rfl rfl (by decide +kernel) ⟨Nat.le_of_ble_eq_true rfl, Nat.le_of_ble_eq_true rfl⟩) (z_preV (i := 0) hK hW rfl rfl) rfl rfl hl.1 rfl (lv_room (Nat.le_of_ble_eq_true rfl)) dX12_pour_117 ⟨Nat.le_of_ble_eq_true rfl, Nat.le_of_ble_eq_true rfl⟩) (fun r u1 H locs hp hW hS => ?_)
          obtain ⟨e9, hp⟩ := hp
          rw [e9] at hW
          rcases hp with ⟨rfl, hb47⟩ | ⟨rfl, hb47⟩
          · refine lv_if_eq (tgt := 131) hx hb dX12_pour_120 (by decide) (fun c48 => absurd c48 (by decide)) (fun c48 => ?_)
            refine lv_aload_n hx hb dX12_pour_123 rfl (lv_at hl 0 rfl) ?_
            refine lv_iload_n hx hb dX12_pour_124 rfl (lv_at hl 3 rfl) ?_
            refine z_ci hW hS hA (va_runV (As := [.int a3]) (rest := [.int (I 0 55), .ref (ad 39)]) ⟨hx, hb, hml, hown, hts⟩ (sx_X12_heldBy_c l G ad I42 J  a3 (by have q := hb47; unfold zb_hm at q; omega) _) (cwV 1 hts gX12_pour_X12_heldBy rfl rfl rfl (by decide +kernel) ⟨Nat.le_of_ble_eq_true rfl, Nat.le_of_ble_eq_true rfl⟩) (z_preV (i := 0) hK hW rfl rfl) rfl rfl hl.1 rfl (lv_room (Nat.le_of_ble_eq_true rfl)) dX12_pour_125 ⟨Nat.le_of_ble_eq_true rfl, Nat.le_of_ble_eq_true rfl⟩) (fun r u1 H locs hp hW hS => ?_)
            obtain ⟨e9, hp⟩ := hp
            rw [e9] at hW
            refine lv_topi (fun x49 ex49 => ?_)
            rw [← ex49] at hp
            have hP50 := hp
            refine lv_goto (tgt := 132) hx hb dX12_pour_128 (by decide) ?_
            refine z_iast (i := 39) hx hb hK hW hS rfl (z_ix rfl (by omega) (by omega)) dX12_pour_132 (fun H locs hz1 hW hS => ?_)
            obtain ⟨I51, eI51⟩ : ∃ K : z_I, K = z_up I42 39 (I 0 55).toNatClampNeg x49 := ⟨_, rfl⟩
            rw [← eI51] at hW
            have f52 := z_fr_a f43 (show z_wa L_X12_pour_q 39 = true by decide) eI51
            have a53 := z_rg_n a44 (by decide) eI51
            have a54 := z_rg_n a45 (by decide) eI51
            have a55 := z_rg_n a46 (by decide) eI51
            refine lv_aload_n hx hb dX12_pour_133 rfl (lv_at hl 0 rfl) ?_
            refine z_get (T := TX12) (N := 96) (ci := 12) (i := 0) (v := .ref (ad 40)) hx hb hts zj_X12_pour_X12 hown hK hW rfl rfl 63 (by decide) (hts (.fieldLink RX12 136 "PetrolBoardModel" "pourJudged" "[I") (me_s (me_l (me_l (List.mem_of_getElem? (i := 9) rfl))))) (fun _ h => h) rfl dX12_pour_134 ?_
            refine lv_aload_n hx hb dX12_pour_137 rfl (lv_at hl 0 rfl) ?_
            refine z_get (T := TX12) (N := 96) (ci := 12) (i := 0) (v := .int (I 0 55)) hx hb hts zj_X12_pour_X12 hown hK hW rfl rfl 55 (by decide) (hts (.fieldLink RX12 468 "PetrolBoardModel" "pours" "I") (me_s (me_l (me_l (List.mem_of_getElem? (i := 1) rfl))))) (fun _ h => h) (congrArg Value.int (by rw [eI51, z_up_n (by decide), eI42, z_up_n (by decide), eI34, z_up_n (by decide), eI28, z_up_n (by decide), eI23, z_up_n (by decide), eI18, z_up_n (by decide)])) dX12_pour_138 ?_
            refine lv_iconst (v := (-1)) hx hb dX12_pour_141 (by decide) ?_
            refine z_iast (i := 40) hx hb hK hW hS rfl (z_ix rfl (by omega) (by omega)) dX12_pour_142 (fun H locs hz1 hW hS => ?_)
            obtain ⟨I56, eI56⟩ : ∃ K : z_I, K = z_up I51 40 (I 0 55).toNatClampNeg (-1) := ⟨_, rfl⟩
            rw [← eI56] at hW
            have f57 := z_fr_a f52 (show z_wa L_X12_pour_q 40 = true by decide) eI56
            have a58 := z_rg_n a53 (by decide) eI56
            have a59 := z_rg_n a54 (by decide) eI56
            have a60 := z_rg_n a55 (by decide) eI56
            refine lv_aload_n hx hb dX12_pour_143 rfl (lv_at hl 0 rfl) ?_
            refine z_get (T := TX12) (N := 96) (ci := 12) (i := 0) (v := .ref (ad 42)) hx hb hts zj_X12_pour_X12 hown hK hW rfl rfl 65 (by decide) (hts (.fieldLink RX12 142 "PetrolBoardModel" "pourDyed" "[Z") (me_s (me_l (me_l (List.mem_of_getElem? (i := 10) rfl))))) (fun _ h => h) rfl dX12_pour_144 ?_
            refine lv_aload_n hx hb dX12_pour_147 rfl (lv_at hl 0 rfl) ?_
            refine z_get (T := TX12) (N := 96) (ci := 12) (i := 0) (v := .int (I 0 55)) hx hb hts zj_X12_pour_X12 hown hK hW rfl rfl 55 (by decide) (hts (.fieldLink RX12 468 "PetrolBoardModel" "pours" "I") (me_s (me_l (me_l (List.mem_of_getElem? (i := 1) rfl))))) (fun _ h => h) (congrArg Value.int (by rw [eI56, z_up_n (by decide), eI51, z_up_n (by decide), eI42, z_up_n (by decide), eI34, z_up_n (by decide), eI28, z_up_n (by decide), eI23, z_up_n (by decide), eI18, z_up_n (by decide)])) dX12_pour_148 ?_
            refine lv_aload_n hx hb dX12_pour_151 rfl (lv_at hl 0 rfl) ?_
            refine lv_iload_n hx hb dX12_pour_152 rfl (lv_at hl 2 rfl) ?_
            refine lv_aload_n hx hb dX12_pour_153 rfl (lv_at hl 0 rfl) ?_
            refine z_get (T := TX12) (N := 96) (ci := 12) (i := 0) (v := .int (I 0 0)) hx hb hts zj_X12_pour_X12 hown hK hW rfl rfl 0 (by decide) (hts (.fieldLink RX12 232 "PetrolBoardModel" "today" "I") (me_s (me_l (me_l (List.mem_of_getElem? (i := 6) rfl))))) (fun _ h => h) (congrArg Value.int (by rw [eI56, z_up_n (by decide), eI51, z_up_n (by decide), eI42, z_up_n (by decide), eI34, z_up_n (by decide), eI28, z_up_n (by decide), eI23, z_up_n (by decide), eI18, z_up_n (by decide)])) dX12_pour_154 ?_
            refine lv_aload_n hx hb dX12_pour_157 rfl (lv_at hl 0 rfl) ?_
            refine z_get (T := TX12) (N := 96) (ci := 12) (i := 0) (v := .int (I 0 0)) hx hb hts zj_X12_pour_X12 hown hK hW rfl rfl 0 (by decide) (hts (.fieldLink RX12 232 "PetrolBoardModel" "today" "I") (me_s (me_l (me_l (List.mem_of_getElem? (i := 6) rfl))))) (fun _ h => h) (congrArg Value.int (by rw [eI56, z_up_n (by decide), eI51, z_up_n (by decide), eI42, z_up_n (by decide), eI34, z_up_n (by decide), eI28, z_up_n (by decide), eI23, z_up_n (by decide), eI18, z_up_n (by decide)])) dX12_pour_158 ?_
            refine z_ci hW hS hA (va_runV (As := [.int a2, .int (I 0 0), .int (I 0 0)]) (rest := [.int (I 0 55), .ref (ad 42)]) ⟨hx, hb, hml, hown, hts⟩ (sx_X12_kindOn_r l G ad I56 J ⟨(by show 0 ≤ (I56 0 0).toInt ∧ (I56 0 0).toInt ≤ 719; rw [eI56, z_up_n (by decide), eI51, z_up_n (by decide), eI42, z_up_n (by decide), eI34, z_up_n (by decide), eI28, z_up_n (by decide), eI23, z_up_n (by decide), eI18, z_up_n (by decide)]; exact hma.1), (by show 0 ≤ (I56 0 1).toInt ∧ (I56 0 1).toInt ≤ 30; rw [eI56, z_up_n (by decide), eI51, z_up_n (by decide), eI42, z_up_n (by decide), eI34, z_up_n (by decide), eI28, z_up_n (by decide), eI23, z_up_n (by decide), eI18, z_up_n (by decide)]; exact hma.2.1), (by show 0 ≤ (I56 0 2).toInt ∧ (I56 0 2).toInt ≤ 200; rw [eI56, z_up_n (by decide), eI51, z_up_n (by decide), eI42, z_up_n (by decide), eI34, z_up_n (by decide), eI28, z_up_n (by decide), eI23, z_up_n (by decide), eI18, z_up_n (by decide)]; exact hma.2.2)⟩ a2 (I 0 0) (I 0 0) _) (cwV 3 hts gX12_pour_X12_kindOn rfl rfl rfl (by decide +kernel) ⟨Nat.le_of_ble_eq_true rfl, Nat.le_of_ble_eq_true rfl⟩) (z_preV (i := 0) hK hW rfl rfl) rfl rfl hl.1 rfl (lv_room (Nat.le_of_ble_eq_true rfl)) dX12_pour_161 ⟨Nat.le_of_ble_eq_true rfl, Nat.le_of_ble_eq_true rfl⟩) (fun r u1 H locs hp hW hS => ?_)
            obtain ⟨e9, hp⟩ := hp
            rw [e9] at hW
            refine lv_topi (fun x61 ex61 => ?_)
            have h62 := hp
            rw [← ex61] at h62
            refine lv_iconst (v := 2) hx hb dX12_pour_164 (by decide) ?_
            refine lv_icmp_ne (tgt := 172) hx hb dX12_pour_165 (by decide) (fun c63 => ?_) (fun c63 => ?_)
            · have g64 := z_f_ne rfl z_l2 c63
              have b65 := Int32.toInt_lt x61
              refine lv_iconst (v := 0) hx hb dX12_pour_172 (by decide) ?_
              refine z_zast (i := 42) hx hb hK hW hS rfl (z_ix rfl (by omega) (by omega)) dX12_pour_173 (fun H locs hz1 hW hS => ?_)
              obtain ⟨I66, eI66⟩ : ∃ K : z_I, K = z_up I56 42 (I 0 55).toNatClampNeg (vp_nar .boolean 0) := ⟨_, rfl⟩
              rw [← eI66] at hW
              have f67 := z_fr_a f57 (show z_wa L_X12_pour_q 42 = true by decide) eI66
              have a68 := z_rg_n a58 (by decide) eI66
              have a69 := z_rg_n a59 (by decide) eI66
              have a70 := z_rg_n a60 (by decide) eI66
              refine lv_aload_n hx hb dX12_pour_174 rfl (lv_at hl 0 rfl) ?_
              refine z_get (T := TX12) (N := 96) (ci := 12) (i := 0) (v := .ref (ad 41)) hx hb hts zj_X12_pour_X12 hown hK hW rfl rfl 64 (by decide) (hts (.fieldLink RX12 139 "PetrolBoardModel" "pourCome" "[I") (me_s (me_l (me_l (List.mem_of_getElem? (i := 11) rfl))))) (fun _ h => h) rfl dX12_pour_175 ?_
              refine lv_aload_n hx hb dX12_pour_178 rfl (lv_at hl 0 rfl) ?_
              refine z_get (T := TX12) (N := 96) (ci := 12) (i := 0) (v := .int (I 0 55)) hx hb hts zj_X12_pour_X12 hown hK hW rfl rfl 55 (by decide) (hts (.fieldLink RX12 468 "PetrolBoardModel" "pours" "I") (me_s (me_l (me_l (List.mem_of_getElem? (i := 1) rfl))))) (fun _ h => h) (congrArg Value.int (by rw [eI66, z_up_n (by decide), eI56, z_up_n (by decide), eI51, z_up_n (by decide), eI42, z_up_n (by decide), eI34, z_up_n (by decide), eI28, z_up_n (by decide), eI23, z_up_n (by decide), eI18, z_up_n (by decide)])) dX12_pour_179 ?_
              refine lv_aload_n hx hb dX12_pour_182 rfl (lv_at hl 0 rfl) ?_
              refine z_get (T := TX12) (N := 96) (ci := 12) (i := 0) (v := .int (I 0 56)) hx hb hts zj_X12_pour_X12 hown hK hW rfl rfl 56 (by decide) (hts (.fieldLink RX12 471 "PetrolBoardModel" "comes" "I") (me_s (me_l (me_l (List.mem_of_getElem? (i := 12) rfl))))) (fun _ h => h) (congrArg Value.int (by rw [eI66, z_up_n (by decide), eI56, z_up_n (by decide), eI51, z_up_n (by decide), eI42, z_up_n (by decide), eI34, z_up_n (by decide), eI28, z_up_n (by decide), eI23, z_up_n (by decide), eI18, z_up_n (by decide)])) dX12_pour_183 ?_
              refine z_iast (i := 41) hx hb hK hW hS rfl (z_ix rfl (by omega) (by omega)) dX12_pour_186 (fun H locs hz1 hW hS => ?_)
              obtain ⟨I71, eI71⟩ : ∃ K : z_I, K = z_up I66 41 (I 0 55).toNatClampNeg (I 0 56) := ⟨_, rfl⟩
              rw [← eI71] at hW
              have f72 := z_fr_a f67 (show z_wa L_X12_pour_q 41 = true by decide) eI71
              have a73 := z_rg_n a68 (by decide) eI71
              have a74 := z_rg_n a69 (by decide) eI71
              have a75 := z_rg_n a70 (by decide) eI71
              refine lv_aload_n hx hb dX12_pour_187 rfl (lv_at hl 0 rfl) ?_
              refine lv_dup hx hb dX12_pour_188 rfl ?_
              refine z_get (T := TX12) (N := 96) (ci := 12) (i := 0) (v := .int (I 0 56)) hx hb hts zj_X12_pour_X12 hown hK hW rfl rfl 56 (by decide) (hts (.fieldLink RX12 471 "PetrolBoardModel" "comes" "I") (me_s (me_l (me_l (List.mem_of_getElem? (i := 12) rfl))))) (fun _ h => h) (congrArg Value.int (by rw [eI71, z_up_n (by decide), eI66, z_up_n (by decide), eI56, z_up_n (by decide), eI51, z_up_n (by decide), eI42, z_up_n (by decide), eI34, z_up_n (by decide), eI28, z_up_n (by decide), eI23, z_up_n (by decide), eI18, z_up_n (by decide)])) dX12_pour_189 ?_
              refine lv_iconst (v := 1) hx hb dX12_pour_192 (by decide) ?_
              refine lv_iadd hx hb dX12_pour_193 ?_
              refine lv_topi (fun x76 ex76 => ?_)
              refine z_put (T := TX12) (N := 96) (ci := 12) (i := 0) (v := .int x76) (I1 := z_up I71 0 56 x76) (J1 := J) (P1 := PM ad) hx hb hts zj_X12_pour_X12 tyX12 tyX12_ok nmX12 hown hK hW hS rfl rfl 56 (by decide) (hts (.fieldLink RX12 471 "PetrolBoardModel" "comes" "I") (me_s (me_l (me_l (List.mem_of_getElem? (i := 12) rfl))))) (fun _ h => h) rfl rfl rfl (by first | rfl | exact congrArg _ z_up_s) (fun a b h ty => z_vI h ty) dX12_pour_194 (fun H locs hz1 hW hS => ?_)
              obtain ⟨I77, eI77⟩ : ∃ K : z_I, K = z_up I71 0 56 x76 := ⟨_, rfl⟩
              rw [← eI77] at hW
              have f78 := z_fr_k f72 (show z_wr L_X12_pour_q 0 56 = true by decide) eI77
              have a79 := z_rg_n a73 (by decide) eI77
              have a80 := z_rg_n a74 (by decide) eI77
              have a81 := z_rg_n a75 (by decide) eI77
              refine lv_aload_n hx hb dX12_pour_197 rfl (lv_at hl 0 rfl) ?_
              refine lv_dup hx hb dX12_pour_198 rfl ?_
              refine z_get (T := TX12) (N := 96) (ci := 12) (i := 0) (v := .int (I 0 55)) hx hb hts zj_X12_pour_X12 hown hK hW rfl rfl 55 (by decide) (hts (.fieldLink RX12 468 "PetrolBoardModel" "pours" "I") (me_s (me_l (me_l (List.mem_of_getElem? (i := 1) rfl))))) (fun _ h => h) (congrArg Value.int (by rw [eI77, z_up_k (by decide), eI71, z_up_n (by decide), eI66, z_up_n (by decide), eI56, z_up_n (by decide), eI51, z_up_n (by decide), eI42, z_up_n (by decide), eI34, z_up_n (by decide), eI28, z_up_n (by decide), eI23, z_up_n (by decide), eI18, z_up_n (by decide)])) dX12_pour_199 ?_
              refine lv_iconst (v := 1) hx hb dX12_pour_202 (by decide) ?_
              refine lv_iadd hx hb dX12_pour_203 ?_
              refine lv_topi (fun x82 ex82 => ?_)
              have tx82 : x82.toInt = (I 0 55).toInt + 1 := z_tadd ex82 rfl z_l1 (by omega) (by omega)
              refine z_put (T := TX12) (N := 96) (ci := 12) (i := 0) (v := .int x82) (I1 := z_up I77 0 55 x82) (J1 := J) (P1 := PM ad) hx hb hts zj_X12_pour_X12 tyX12 tyX12_ok nmX12 hown hK hW hS rfl rfl 55 (by decide) (hts (.fieldLink RX12 468 "PetrolBoardModel" "pours" "I") (me_s (me_l (me_l (List.mem_of_getElem? (i := 1) rfl))))) (fun _ h => h) rfl rfl rfl (by first | rfl | exact congrArg _ z_up_s) (fun a b h ty => z_vI h ty) dX12_pour_204 (fun H locs hz1 hW hS => ?_)
              obtain ⟨I83, eI83⟩ : ∃ K : z_I, K = z_up I77 0 55 x82 := ⟨_, rfl⟩
              rw [← eI83] at hW
              have f84 := z_fr_k f78 (show z_wr L_X12_pour_q 0 55 = true by decide) eI83
              have a85 := z_rg_n a79 (by decide) eI83
              have a86 := z_rg_n a80 (by decide) eI83
              have a87 := z_rg_n a81 (by decide) eI83
              refine lv_aload_n hx hb dX12_pour_207 rfl (lv_at hl 0 rfl) ?_
              refine z_get (T := TX12) (N := 96) (ci := 12) (i := 0) (v := .int x82) hx hb hts zj_X12_pour_X12 hown hK hW rfl rfl 55 (by decide) (hts (.fieldLink RX12 468 "PetrolBoardModel" "pours" "I") (me_s (me_l (me_l (List.mem_of_getElem? (i := 1) rfl))))) (fun _ h => h) (congrArg Value.int (by rw [eI83, z_up_s])) dX12_pour_208 ?_
              refine lv_iconst (v := 1) hx hb dX12_pour_211 (by decide) ?_
              refine lv_isub hx hb dX12_pour_212 ?_
              refine lv_topi (fun x88 ex88 => ?_)
              have tx88 : x88.toInt = x82.toInt - 1 := z_tsub ex88 rfl z_l1 (by omega) (by omega)
              exact z_iret hx hb hr hK hS (Nat.le_of_ble_eq_true rfl) (Nat.le_of_ble_eq_true rfl) hlocks dX12_pour_213 (shM, ad, I83, J, PM ad) hW ⟨I83, J, rfl, ⟨(by show 0 ≤ (I83 0 0).toInt ∧ (I83 0 0).toInt ≤ 719; rw [eI83, z_up_k (by decide), eI77, z_up_k (by decide), eI71, z_up_n (by decide), eI66, z_up_n (by decide), eI56, z_up_n (by decide), eI51, z_up_n (by decide), eI42, z_up_n (by decide), eI34, z_up_n (by decide), eI28, z_up_n (by decide), eI23, z_up_n (by decide), eI18, z_up_n (by decide)]; exact hma.1), (by show 0 ≤ (I83 0 1).toInt ∧ (I83 0 1).toInt ≤ 30; rw [eI83, z_up_k (by decide), eI77, z_up_k (by decide), eI71, z_up_n (by decide), eI66, z_up_n (by decide), eI56, z_up_n (by decide), eI51, z_up_n (by decide), eI42, z_up_n (by decide), eI34, z_up_n (by decide), eI28, z_up_n (by decide), eI23, z_up_n (by decide), eI18, z_up_n (by decide)]; exact hma.2.1), (by show 0 ≤ (I83 0 2).toInt ∧ (I83 0 2).toInt ≤ 200; rw [eI83, z_up_k (by decide), eI77, z_up_k (by decide), eI71, z_up_n (by decide), eI66, z_up_n (by decide), eI56, z_up_n (by decide), eI51, z_up_n (by decide), eI42, z_up_n (by decide), eI34, z_up_n (by decide), eI28, z_up_n (by decide), eI23, z_up_n (by decide), eI18, z_up_n (by decide)]; exact hma.2.2)⟩, ⟨(by show 0 ≤ (I83 0 54).toInt ∧ (I83 0 54).toInt ≤ 10; rw [eI83, z_up_k (by decide), eI77, z_up_k (by decide), eI71, z_up_n (by decide), eI66, z_up_n (by decide), eI56, z_up_n (by decide), eI51, z_up_n (by decide), eI42, z_up_n (by decide), eI34, z_up_n (by decide), eI28, z_up_n (by decide), eI23, z_up_n (by decide), eI18, z_up_n (by decide)]; exact hms.1), (by show 0 ≤ (I83 0 55).toInt ∧ (I83 0 55).toInt ≤ 300; rw [eI83, z_up_s]; omega)⟩, a85, ⟨(by show 0 ≤ (I83 0 13).toInt ∧ (I83 0 13).toInt ≤ 12; rw [eI83, z_up_k (by decide), eI77, z_up_k (by decide), eI71, z_up_n (by decide), eI66, z_up_n (by decide), eI56, z_up_n (by decide), eI51, z_up_n (by decide), eI42, z_up_n (by decide), eI34, z_up_n (by decide), eI28, z_up_n (by decide), eI23, z_up_n (by decide), eI18, z_up_n (by decide)]; exact hmb.1), (by show 0 ≤ (I83 0 14).toInt ∧ (I83 0 14).toInt ≤ 288; rw [eI83, z_up_k (by decide), eI77, z_up_k (by decide), eI71, z_up_n (by decide), eI66, z_up_n (by decide), eI56, z_up_n (by decide), eI51, z_up_n (by decide), eI42, z_up_n (by decide), eI34, z_up_n (by decide), eI28, z_up_n (by decide), eI23, z_up_n (by decide), eI18, z_up_n (by decide)]; exact hmb.2)⟩, a86, a87, f84, ⟨(Or.inl ⟨by omega, by omega, (by have q9 : (I83 0 55) = x82 := (by rw [eI83, z_up_s]); show (I83 0 55).toInt = (I 0 55).toInt + 1; rw [q9]; first | done | omega), x40, (vp_nar .boolean 0), x49, (by have q1 : (I34 0 0).toInt = (I 0 0).toInt := (by rw [f35 0 0 (by decide)]); rw [hM41, zb_am_c (fun j => ⟨f35 11 _ (z_wr_c (by decide)), f35 12 _ (z_wr_c (by decide)), f35 13 _ (z_wr_c (by decide)), f35 14 _ (z_wr_c (by decide)), f35 15 _ (z_wr_c (by decide)), f35 16 _ (z_wr_c (by decide))⟩) (f35 0 13 (by decide)), show x39.toInt = (I 0 0).toInt / 30 by omega]), (Or.inr ⟨by decide, by rw [← ((show x61.toInt = z_fm I56 a2 from (by unfold z_fm; rw [f57 0 0 (by decide)]; exact h62)).trans (z_fm_c (a := a2) (fun j => ⟨f57 6 j (z_wr_c (by decide)), f57 7 j (z_wr_c (by decide)), f57 8 j (z_wr_c (by decide)), f57 9 j (z_wr_c (by decide)), f57 10 j (z_wr_c (by decide))⟩) (f57 0 0 (by decide)) (f57 0 2 (by decide))))]; omega⟩), (by unfold zb_OM; rw [if_pos ((zb_hm_c (I := I) (fun j => f43 31 j (z_wr_c (by decide)))).mp hb47), hP50, zb_P_c (fun j => f43 32 j (z_wr_c (by decide)))]), (fun j => by rw [eI83, z_up_n (by decide), eI77, z_up_n (by decide), eI71, z_up_n (by decide), eI66, z_up_n (by decide), eI56, z_up_n (by decide), eI51, z_up_n (by decide), eI42, z_up_n (by decide), eI34, z_up_n (by decide), eI28, z_up_n (by decide), eI23, z_up_n (by decide), eI18, z_up_j]), (fun j => by rw [eI83, z_up_n (by decide), eI77, z_up_n (by decide), eI71, z_up_n (by decide), eI66, z_up_n (by decide), eI56, z_up_n (by decide), eI51, z_up_n (by decide), eI42, z_up_n (by decide), eI34, z_up_n (by decide), eI28, z_up_n (by decide), eI23, z_up_j, eI18, z_up_n (by decide)]), (fun j => by rw [eI83, z_up_n (by decide), eI77, z_up_n (by decide), eI71, z_up_n (by decide), eI66, z_up_n (by decide), eI56, z_up_n (by decide), eI51, z_up_n (by decide), eI42, z_up_n (by decide), eI34, z_up_n (by decide), eI28, z_up_j, eI23, z_up_n (by decide), eI18, z_up_n (by decide)]), (fun j => by rw [eI83, z_up_n (by decide), eI77, z_up_n (by decide), eI71, z_up_n (by decide), eI66, z_up_n (by decide), eI56, z_up_n (by decide), eI51, z_up_n (by decide), eI42, z_up_n (by decide), eI34, z_up_j, eI28, z_up_n (by decide), eI23, z_up_n (by decide), eI18, z_up_n (by decide)]), (fun j => by rw [eI83, z_up_n (by decide), eI77, z_up_n (by decide), eI71, z_up_n (by decide), eI66, z_up_n (by decide), eI56, z_up_n (by decide), eI51, z_up_n (by decide), eI42, z_up_j, eI34, z_up_n (by decide), eI28, z_up_n (by decide), eI23, z_up_n (by decide), eI18, z_up_n (by decide)]), (fun j => by rw [eI83, z_up_n (by decide), eI77, z_up_n (by decide), eI71, z_up_n (by decide), eI66, z_up_n (by decide), eI56, z_up_j, eI51, z_up_n (by decide), eI42, z_up_n (by decide), eI34, z_up_n (by decide), eI28, z_up_n (by decide), eI23, z_up_n (by decide), eI18, z_up_n (by decide)]), (fun j => by rw [eI83, z_up_n (by decide), eI77, z_up_n (by decide), eI71, z_up_n (by decide), eI66, z_up_j, eI56, z_up_n (by decide), eI51, z_up_n (by decide), eI42, z_up_n (by decide), eI34, z_up_n (by decide), eI28, z_up_n (by decide), eI23, z_up_n (by decide), eI18, z_up_n (by decide)]), (fun j => by rw [eI83, z_up_n (by decide), eI77, z_up_n (by decide), eI71, z_up_n (by decide), eI66, z_up_n (by decide), eI56, z_up_n (by decide), eI51, z_up_j, eI42, z_up_n (by decide), eI34, z_up_n (by decide), eI28, z_up_n (by decide), eI23, z_up_n (by decide), eI18, z_up_n (by decide)])⟩), fun _ => ⟨(fun j => by rw [eI83, z_up_n (by decide), eI77, z_up_n (by decide), eI71, z_up_j, eI66, z_up_n (by decide), eI56, z_up_n (by decide), eI51, z_up_n (by decide), eI42, z_up_n (by decide), eI34, z_up_n (by decide), eI28, z_up_n (by decide), eI23, z_up_n (by decide), eI18, z_up_n (by decide)]), (by rw [eI83, z_up_k (by decide), eI77, z_up_s, ex76])⟩, fun q => absurd (by omega) q⟩⟩
            · have g89 := z_f_eq rfl z_l2 c63
              have b90 := Int32.toInt_lt x61
              refine lv_iconst (v := 1) hx hb dX12_pour_168 (by decide) ?_
              refine lv_goto (tgt := 173) hx hb dX12_pour_169 (by decide) ?_
              refine z_zast (i := 42) hx hb hK hW hS rfl (z_ix rfl (by omega) (by omega)) dX12_pour_173 (fun H locs hz1 hW hS => ?_)
              obtain ⟨I91, eI91⟩ : ∃ K : z_I, K = z_up I56 42 (I 0 55).toNatClampNeg (vp_nar .boolean 1) := ⟨_, rfl⟩
              rw [← eI91] at hW
              have f92 := z_fr_a f57 (show z_wa L_X12_pour_q 42 = true by decide) eI91
              have a93 := z_rg_n a58 (by decide) eI91
              have a94 := z_rg_n a59 (by decide) eI91
              have a95 := z_rg_n a60 (by decide) eI91
              refine lv_aload_n hx hb dX12_pour_174 rfl (lv_at hl 0 rfl) ?_
              refine z_get (T := TX12) (N := 96) (ci := 12) (i := 0) (v := .ref (ad 41)) hx hb hts zj_X12_pour_X12 hown hK hW rfl rfl 64 (by decide) (hts (.fieldLink RX12 139 "PetrolBoardModel" "pourCome" "[I") (me_s (me_l (me_l (List.mem_of_getElem? (i := 11) rfl))))) (fun _ h => h) rfl dX12_pour_175 ?_
              refine lv_aload_n hx hb dX12_pour_178 rfl (lv_at hl 0 rfl) ?_
              refine z_get (T := TX12) (N := 96) (ci := 12) (i := 0) (v := .int (I 0 55)) hx hb hts zj_X12_pour_X12 hown hK hW rfl rfl 55 (by decide) (hts (.fieldLink RX12 468 "PetrolBoardModel" "pours" "I") (me_s (me_l (me_l (List.mem_of_getElem? (i := 1) rfl))))) (fun _ h => h) (congrArg Value.int (by rw [eI91, z_up_n (by decide), eI56, z_up_n (by decide), eI51, z_up_n (by decide), eI42, z_up_n (by decide), eI34, z_up_n (by decide), eI28, z_up_n (by decide), eI23, z_up_n (by decide), eI18, z_up_n (by decide)])) dX12_pour_179 ?_
              refine lv_aload_n hx hb dX12_pour_182 rfl (lv_at hl 0 rfl) ?_
              refine z_get (T := TX12) (N := 96) (ci := 12) (i := 0) (v := .int (I 0 56)) hx hb hts zj_X12_pour_X12 hown hK hW rfl rfl 56 (by decide) (hts (.fieldLink RX12 471 "PetrolBoardModel" "comes" "I") (me_s (me_l (me_l (List.mem_of_getElem? (i := 12) rfl))))) (fun _ h => h) (congrArg Value.int (by rw [eI91, z_up_n (by decide), eI56, z_up_n (by decide), eI51, z_up_n (by decide), eI42, z_up_n (by decide), eI34, z_up_n (by decide), eI28, z_up_n (by decide), eI23, z_up_n (by decide), eI18, z_up_n (by decide)])) dX12_pour_183 ?_
              refine z_iast (i := 41) hx hb hK hW hS rfl (z_ix rfl (by omega) (by omega)) dX12_pour_186 (fun H locs hz1 hW hS => ?_)
              obtain ⟨I96, eI96⟩ : ∃ K : z_I, K = z_up I91 41 (I 0 55).toNatClampNeg (I 0 56) := ⟨_, rfl⟩
              rw [← eI96] at hW
              have f97 := z_fr_a f92 (show z_wa L_X12_pour_q 41 = true by decide) eI96
              have a98 := z_rg_n a93 (by decide) eI96
              have a99 := z_rg_n a94 (by decide) eI96
              have a100 := z_rg_n a95 (by decide) eI96
              refine lv_aload_n hx hb dX12_pour_187 rfl (lv_at hl 0 rfl) ?_
              refine lv_dup hx hb dX12_pour_188 rfl ?_
              refine z_get (T := TX12) (N := 96) (ci := 12) (i := 0) (v := .int (I 0 56)) hx hb hts zj_X12_pour_X12 hown hK hW rfl rfl 56 (by decide) (hts (.fieldLink RX12 471 "PetrolBoardModel" "comes" "I") (me_s (me_l (me_l (List.mem_of_getElem? (i := 12) rfl))))) (fun _ h => h) (congrArg Value.int (by rw [eI96, z_up_n (by decide), eI91, z_up_n (by decide), eI56, z_up_n (by decide), eI51, z_up_n (by decide), eI42, z_up_n (by decide), eI34, z_up_n (by decide), eI28, z_up_n (by decide), eI23, z_up_n (by decide), eI18, z_up_n (by decide)])) dX12_pour_189 ?_
              refine lv_iconst (v := 1) hx hb dX12_pour_192 (by decide) ?_
              refine lv_iadd hx hb dX12_pour_193 ?_
              refine lv_topi (fun x101 ex101 => ?_)
              refine z_put (T := TX12) (N := 96) (ci := 12) (i := 0) (v := .int x101) (I1 := z_up I96 0 56 x101) (J1 := J) (P1 := PM ad) hx hb hts zj_X12_pour_X12 tyX12 tyX12_ok nmX12 hown hK hW hS rfl rfl 56 (by decide) (hts (.fieldLink RX12 471 "PetrolBoardModel" "comes" "I") (me_s (me_l (me_l (List.mem_of_getElem? (i := 12) rfl))))) (fun _ h => h) rfl rfl rfl (by first | rfl | exact congrArg _ z_up_s) (fun a b h ty => z_vI h ty) dX12_pour_194 (fun H locs hz1 hW hS => ?_)
              obtain ⟨I102, eI102⟩ : ∃ K : z_I, K = z_up I96 0 56 x101 := ⟨_, rfl⟩
              rw [← eI102] at hW
              have f103 := z_fr_k f97 (show z_wr L_X12_pour_q 0 56 = true by decide) eI102
              have a104 := z_rg_n a98 (by decide) eI102
              have a105 := z_rg_n a99 (by decide) eI102
              have a106 := z_rg_n a100 (by decide) eI102
              refine lv_aload_n hx hb dX12_pour_197 rfl (lv_at hl 0 rfl) ?_
              refine lv_dup hx hb dX12_pour_198 rfl ?_
              refine z_get (T := TX12) (N := 96) (ci := 12) (i := 0) (v := .int (I 0 55)) hx hb hts zj_X12_pour_X12 hown hK hW rfl rfl 55 (by decide) (hts (.fieldLink RX12 468 "PetrolBoardModel" "pours" "I") (me_s (me_l (me_l (List.mem_of_getElem? (i := 1) rfl))))) (fun _ h => h) (congrArg Value.int (by rw [eI102, z_up_k (by decide), eI96, z_up_n (by decide), eI91, z_up_n (by decide), eI56, z_up_n (by decide), eI51, z_up_n (by decide), eI42, z_up_n (by decide), eI34, z_up_n (by decide), eI28, z_up_n (by decide), eI23, z_up_n (by decide), eI18, z_up_n (by decide)])) dX12_pour_199 ?_
              refine lv_iconst (v := 1) hx hb dX12_pour_202 (by decide) ?_
              refine lv_iadd hx hb dX12_pour_203 ?_
              refine lv_topi (fun x107 ex107 => ?_)
              have tx107 : x107.toInt = (I 0 55).toInt + 1 := z_tadd ex107 rfl z_l1 (by omega) (by omega)
              refine z_put (T := TX12) (N := 96) (ci := 12) (i := 0) (v := .int x107) (I1 := z_up I102 0 55 x107) (J1 := J) (P1 := PM ad) hx hb hts zj_X12_pour_X12 tyX12 tyX12_ok nmX12 hown hK hW hS rfl rfl 55 (by decide) (hts (.fieldLink RX12 468 "PetrolBoardModel" "pours" "I") (me_s (me_l (me_l (List.mem_of_getElem? (i := 1) rfl))))) (fun _ h => h) rfl rfl rfl (by first | rfl | exact congrArg _ z_up_s) (fun a b h ty => z_vI h ty) dX12_pour_204 (fun H locs hz1 hW hS => ?_)
              obtain ⟨I108, eI108⟩ : ∃ K : z_I, K = z_up I102 0 55 x107 := ⟨_, rfl⟩
              rw [← eI108] at hW
              have f109 := z_fr_k f103 (show z_wr L_X12_pour_q 0 55 = true by decide) eI108
              have a110 := z_rg_n a104 (by decide) eI108
              have a111 := z_rg_n a105 (by decide) eI108
              have a112 := z_rg_n a106 (by decide) eI108
              refine lv_aload_n hx hb dX12_pour_207 rfl (lv_at hl 0 rfl) ?_
              refine z_get (T := TX12) (N := 96) (ci := 12) (i := 0) (v := .int x107) hx hb hts zj_X12_pour_X12 hown hK hW rfl rfl 55 (by decide) (hts (.fieldLink RX12 468 "PetrolBoardModel" "pours" "I") (me_s (me_l (me_l (List.mem_of_getElem? (i := 1) rfl))))) (fun _ h => h) (congrArg Value.int (by rw [eI108, z_up_s])) dX12_pour_208 ?_
              refine lv_iconst (v := 1) hx hb dX12_pour_211 (by decide) ?_
              refine lv_isub hx hb dX12_pour_212 ?_
              refine lv_topi (fun x113 ex113 => ?_)
              have tx113 : x113.toInt = x107.toInt - 1 := z_tsub ex113 rfl z_l1 (by omega) (by omega)
              exact z_iret hx hb hr hK hS (Nat.le_of_ble_eq_true rfl) (Nat.le_of_ble_eq_true rfl) hlocks dX12_pour_213 (shM, ad, I108, J, PM ad) hW ⟨I108, J, rfl, ⟨(by show 0 ≤ (I108 0 0).toInt ∧ (I108 0 0).toInt ≤ 719; rw [eI108, z_up_k (by decide), eI102, z_up_k (by decide), eI96, z_up_n (by decide), eI91, z_up_n (by decide), eI56, z_up_n (by decide), eI51, z_up_n (by decide), eI42, z_up_n (by decide), eI34, z_up_n (by decide), eI28, z_up_n (by decide), eI23, z_up_n (by decide), eI18, z_up_n (by decide)]; exact hma.1), (by show 0 ≤ (I108 0 1).toInt ∧ (I108 0 1).toInt ≤ 30; rw [eI108, z_up_k (by decide), eI102, z_up_k (by decide), eI96, z_up_n (by decide), eI91, z_up_n (by decide), eI56, z_up_n (by decide), eI51, z_up_n (by decide), eI42, z_up_n (by decide), eI34, z_up_n (by decide), eI28, z_up_n (by decide), eI23, z_up_n (by decide), eI18, z_up_n (by decide)]; exact hma.2.1), (by show 0 ≤ (I108 0 2).toInt ∧ (I108 0 2).toInt ≤ 200; rw [eI108, z_up_k (by decide), eI102, z_up_k (by decide), eI96, z_up_n (by decide), eI91, z_up_n (by decide), eI56, z_up_n (by decide), eI51, z_up_n (by decide), eI42, z_up_n (by decide), eI34, z_up_n (by decide), eI28, z_up_n (by decide), eI23, z_up_n (by decide), eI18, z_up_n (by decide)]; exact hma.2.2)⟩, ⟨(by show 0 ≤ (I108 0 54).toInt ∧ (I108 0 54).toInt ≤ 10; rw [eI108, z_up_k (by decide), eI102, z_up_k (by decide), eI96, z_up_n (by decide), eI91, z_up_n (by decide), eI56, z_up_n (by decide), eI51, z_up_n (by decide), eI42, z_up_n (by decide), eI34, z_up_n (by decide), eI28, z_up_n (by decide), eI23, z_up_n (by decide), eI18, z_up_n (by decide)]; exact hms.1), (by show 0 ≤ (I108 0 55).toInt ∧ (I108 0 55).toInt ≤ 300; rw [eI108, z_up_s]; omega)⟩, a110, ⟨(by show 0 ≤ (I108 0 13).toInt ∧ (I108 0 13).toInt ≤ 12; rw [eI108, z_up_k (by decide), eI102, z_up_k (by decide), eI96, z_up_n (by decide), eI91, z_up_n (by decide), eI56, z_up_n (by decide), eI51, z_up_n (by decide), eI42, z_up_n (by decide), eI34, z_up_n (by decide), eI28, z_up_n (by decide), eI23, z_up_n (by decide), eI18, z_up_n (by decide)]; exact hmb.1), (by show 0 ≤ (I108 0 14).toInt ∧ (I108 0 14).toInt ≤ 288; rw [eI108, z_up_k (by decide), eI102, z_up_k (by decide), eI96, z_up_n (by decide), eI91, z_up_n (by decide), eI56, z_up_n (by decide), eI51, z_up_n (by decide), eI42, z_up_n (by decide), eI34, z_up_n (by decide), eI28, z_up_n (by decide), eI23, z_up_n (by decide), eI18, z_up_n (by decide)]; exact hmb.2)⟩, a111, a112, f109, ⟨(Or.inl ⟨by omega, by omega, (by have q9 : (I108 0 55) = x107 := (by rw [eI108, z_up_s]); show (I108 0 55).toInt = (I 0 55).toInt + 1; rw [q9]; first | done | omega), x40, (vp_nar .boolean 1), x49, (by have q1 : (I34 0 0).toInt = (I 0 0).toInt := (by rw [f35 0 0 (by decide)]); rw [hM41, zb_am_c (fun j => ⟨f35 11 _ (z_wr_c (by decide)), f35 12 _ (z_wr_c (by decide)), f35 13 _ (z_wr_c (by decide)), f35 14 _ (z_wr_c (by decide)), f35 15 _ (z_wr_c (by decide)), f35 16 _ (z_wr_c (by decide))⟩) (f35 0 13 (by decide)), show x39.toInt = (I 0 0).toInt / 30 by omega]), (Or.inl ⟨by decide, by rw [← ((show x61.toInt = z_fm I56 a2 from (by unfold z_fm; rw [f57 0 0 (by decide)]; exact h62)).trans (z_fm_c (a := a2) (fun j => ⟨f57 6 j (z_wr_c (by decide)), f57 7 j (z_wr_c (by decide)), f57 8 j (z_wr_c (by decide)), f57 9 j (z_wr_c (by decide)), f57 10 j (z_wr_c (by decide))⟩) (f57 0 0 (by decide)) (f57 0 2 (by decide))))]; omega⟩), (by unfold zb_OM; rw [if_pos ((zb_hm_c (I := I) (fun j => f43 31 j (z_wr_c (by decide)))).mp hb47), hP50, zb_P_c (fun j => f43 32 j (z_wr_c (by decide)))]), (fun j => by rw [eI108, z_up_n (by decide), eI102, z_up_n (by decide), eI96, z_up_n (by decide), eI91, z_up_n (by decide), eI56, z_up_n (by decide), eI51, z_up_n (by decide), eI42, z_up_n (by decide), eI34, z_up_n (by decide), eI28, z_up_n (by decide), eI23, z_up_n (by decide), eI18, z_up_j]), (fun j => by rw [eI108, z_up_n (by decide), eI102, z_up_n (by decide), eI96, z_up_n (by decide), eI91, z_up_n (by decide), eI56, z_up_n (by decide), eI51, z_up_n (by decide), eI42, z_up_n (by decide), eI34, z_up_n (by decide), eI28, z_up_n (by decide), eI23, z_up_j, eI18, z_up_n (by decide)]), (fun j => by rw [eI108, z_up_n (by decide), eI102, z_up_n (by decide), eI96, z_up_n (by decide), eI91, z_up_n (by decide), eI56, z_up_n (by decide), eI51, z_up_n (by decide), eI42, z_up_n (by decide), eI34, z_up_n (by decide), eI28, z_up_j, eI23, z_up_n (by decide), eI18, z_up_n (by decide)]), (fun j => by rw [eI108, z_up_n (by decide), eI102, z_up_n (by decide), eI96, z_up_n (by decide), eI91, z_up_n (by decide), eI56, z_up_n (by decide), eI51, z_up_n (by decide), eI42, z_up_n (by decide), eI34, z_up_j, eI28, z_up_n (by decide), eI23, z_up_n (by decide), eI18, z_up_n (by decide)]), (fun j => by rw [eI108, z_up_n (by decide), eI102, z_up_n (by decide), eI96, z_up_n (by decide), eI91, z_up_n (by decide), eI56, z_up_n (by decide), eI51, z_up_n (by decide), eI42, z_up_j, eI34, z_up_n (by decide), eI28, z_up_n (by decide), eI23, z_up_n (by decide), eI18, z_up_n (by decide)]), (fun j => by rw [eI108, z_up_n (by decide), eI102, z_up_n (by decide), eI96, z_up_n (by decide), eI91, z_up_n (by decide), eI56, z_up_j, eI51, z_up_n (by decide), eI42, z_up_n (by decide), eI34, z_up_n (by decide), eI28, z_up_n (by decide), eI23, z_up_n (by decide), eI18, z_up_n (by decide)]), (fun j => by rw [eI108, z_up_n (by decide), eI102, z_up_n (by decide), eI96, z_up_n (by decide), eI91, z_up_j, eI56, z_up_n (by decide), eI51, z_up_n (by decide), eI42, z_up_n (by decide), eI34, z_up_n (by decide), eI28, z_up_n (by decide), eI23, z_up_n (by decide), eI18, z_up_n (by decide)]), (fun j => by rw [eI108, z_up_n (by decide), eI102, z_up_n (by decide), eI96, z_up_n (by decide), eI91, z_up_n (by decide), eI56, z_up_n (by decide), eI51, z_up_j, eI42, z_up_n (by decide), eI34, z_up_n (by decide), eI28, z_up_n (by decide), eI23, z_up_n (by decide), eI18, z_up_n (by decide)])⟩), fun _ => ⟨(fun j => by rw [eI108, z_up_n (by decide), eI102, z_up_n (by decide), eI96, z_up_j, eI91, z_up_n (by decide), eI56, z_up_n (by decide), eI51, z_up_n (by decide), eI42, z_up_n (by decide), eI34, z_up_n (by decide), eI28, z_up_n (by decide), eI23, z_up_n (by decide), eI18, z_up_n (by decide)]), (by rw [eI108, z_up_k (by decide), eI102, z_up_s, ex101])⟩, fun q => absurd (by omega) q⟩⟩
          · refine lv_if_eq (tgt := 131) hx hb dX12_pour_120 (by decide) (fun c114 => ?_) (fun c114 => absurd (by decide) c114)
            refine lv_iconst (v := (-1)) hx hb dX12_pour_131 (by decide) ?_
            refine z_iast (i := 39) hx hb hK hW hS rfl (z_ix rfl (by omega) (by omega)) dX12_pour_132 (fun H locs hz1 hW hS => ?_)
            obtain ⟨I115, eI115⟩ : ∃ K : z_I, K = z_up I42 39 (I 0 55).toNatClampNeg (-1) := ⟨_, rfl⟩
            rw [← eI115] at hW
            have f116 := z_fr_a f43 (show z_wa L_X12_pour_q 39 = true by decide) eI115
            have a117 := z_rg_n a44 (by decide) eI115
            have a118 := z_rg_n a45 (by decide) eI115
            have a119 := z_rg_n a46 (by decide) eI115
            refine lv_aload_n hx hb dX12_pour_133 rfl (lv_at hl 0 rfl) ?_
            refine z_get (T := TX12) (N := 96) (ci := 12) (i := 0) (v := .ref (ad 40)) hx hb hts zj_X12_pour_X12 hown hK hW rfl rfl 63 (by decide) (hts (.fieldLink RX12 136 "PetrolBoardModel" "pourJudged" "[I") (me_s (me_l (me_l (List.mem_of_getElem? (i := 9) rfl))))) (fun _ h => h) rfl dX12_pour_134 ?_
            refine lv_aload_n hx hb dX12_pour_137 rfl (lv_at hl 0 rfl) ?_
            refine z_get (T := TX12) (N := 96) (ci := 12) (i := 0) (v := .int (I 0 55)) hx hb hts zj_X12_pour_X12 hown hK hW rfl rfl 55 (by decide) (hts (.fieldLink RX12 468 "PetrolBoardModel" "pours" "I") (me_s (me_l (me_l (List.mem_of_getElem? (i := 1) rfl))))) (fun _ h => h) (congrArg Value.int (by rw [eI115, z_up_n (by decide), eI42, z_up_n (by decide), eI34, z_up_n (by decide), eI28, z_up_n (by decide), eI23, z_up_n (by decide), eI18, z_up_n (by decide)])) dX12_pour_138 ?_
            refine lv_iconst (v := (-1)) hx hb dX12_pour_141 (by decide) ?_
            refine z_iast (i := 40) hx hb hK hW hS rfl (z_ix rfl (by omega) (by omega)) dX12_pour_142 (fun H locs hz1 hW hS => ?_)
            obtain ⟨I120, eI120⟩ : ∃ K : z_I, K = z_up I115 40 (I 0 55).toNatClampNeg (-1) := ⟨_, rfl⟩
            rw [← eI120] at hW
            have f121 := z_fr_a f116 (show z_wa L_X12_pour_q 40 = true by decide) eI120
            have a122 := z_rg_n a117 (by decide) eI120
            have a123 := z_rg_n a118 (by decide) eI120
            have a124 := z_rg_n a119 (by decide) eI120
            refine lv_aload_n hx hb dX12_pour_143 rfl (lv_at hl 0 rfl) ?_
            refine z_get (T := TX12) (N := 96) (ci := 12) (i := 0) (v := .ref (ad 42)) hx hb hts zj_X12_pour_X12 hown hK hW rfl rfl 65 (by decide) (hts (.fieldLink RX12 142 "PetrolBoardModel" "pourDyed" "[Z") (me_s (me_l (me_l (List.mem_of_getElem? (i := 10) rfl))))) (fun _ h => h) rfl dX12_pour_144 ?_
            refine lv_aload_n hx hb dX12_pour_147 rfl (lv_at hl 0 rfl) ?_
            refine z_get (T := TX12) (N := 96) (ci := 12) (i := 0) (v := .int (I 0 55)) hx hb hts zj_X12_pour_X12 hown hK hW rfl rfl 55 (by decide) (hts (.fieldLink RX12 468 "PetrolBoardModel" "pours" "I") (me_s (me_l (me_l (List.mem_of_getElem? (i := 1) rfl))))) (fun _ h => h) (congrArg Value.int (by rw [eI120, z_up_n (by decide), eI115, z_up_n (by decide), eI42, z_up_n (by decide), eI34, z_up_n (by decide), eI28, z_up_n (by decide), eI23, z_up_n (by decide), eI18, z_up_n (by decide)])) dX12_pour_148 ?_
            refine lv_aload_n hx hb dX12_pour_151 rfl (lv_at hl 0 rfl) ?_
            refine lv_iload_n hx hb dX12_pour_152 rfl (lv_at hl 2 rfl) ?_
            refine lv_aload_n hx hb dX12_pour_153 rfl (lv_at hl 0 rfl) ?_
            refine z_get (T := TX12) (N := 96) (ci := 12) (i := 0) (v := .int (I 0 0)) hx hb hts zj_X12_pour_X12 hown hK hW rfl rfl 0 (by decide) (hts (.fieldLink RX12 232 "PetrolBoardModel" "today" "I") (me_s (me_l (me_l (List.mem_of_getElem? (i := 6) rfl))))) (fun _ h => h) (congrArg Value.int (by rw [eI120, z_up_n (by decide), eI115, z_up_n (by decide), eI42, z_up_n (by decide), eI34, z_up_n (by decide), eI28, z_up_n (by decide), eI23, z_up_n (by decide), eI18, z_up_n (by decide)])) dX12_pour_154 ?_
            refine lv_aload_n hx hb dX12_pour_157 rfl (lv_at hl 0 rfl) ?_
            refine z_get (T := TX12) (N := 96) (ci := 12) (i := 0) (v := .int (I 0 0)) hx hb hts zj_X12_pour_X12 hown hK hW rfl rfl 0 (by decide) (hts (.fieldLink RX12 232 "PetrolBoardModel" "today" "I") (me_s (me_l (me_l (List.mem_of_getElem? (i := 6) rfl))))) (fun _ h => h) (congrArg Value.int (by rw [eI120, z_up_n (by decide), eI115, z_up_n (by decide), eI42, z_up_n (by decide), eI34, z_up_n (by decide), eI28, z_up_n (by decide), eI23, z_up_n (by decide), eI18, z_up_n (by decide)])) dX12_pour_158 ?_
            refine z_ci hW hS hA (va_runV (As := [.int a2, .int (I 0 0), .int (I 0 0)]) (rest := [.int (I 0 55), .ref (ad 42)]) ⟨hx, hb, hml, hown, hts⟩ (sx_X12_kindOn_r l G ad I120 J ⟨(by show 0 ≤ (I120 0 0).toInt ∧ (I120 0 0).toInt ≤ 719; rw [eI120, z_up_n (by decide), eI115, z_up_n (by decide), eI42, z_up_n (by decide), eI34, z_up_n (by decide), eI28, z_up_n (by decide), eI23, z_up_n (by decide), eI18, z_up_n (by decide)]; exact hma.1), (by show 0 ≤ (I120 0 1).toInt ∧ (I120 0 1).toInt ≤ 30; rw [eI120, z_up_n (by decide), eI115, z_up_n (by decide), eI42, z_up_n (by decide), eI34, z_up_n (by decide), eI28, z_up_n (by decide), eI23, z_up_n (by decide), eI18, z_up_n (by decide)]; exact hma.2.1), (by show 0 ≤ (I120 0 2).toInt ∧ (I120 0 2).toInt ≤ 200; rw [eI120, z_up_n (by decide), eI115, z_up_n (by decide), eI42, z_up_n (by decide), eI34, z_up_n (by decide), eI28, z_up_n (by decide), eI23, z_up_n (by decide), eI18, z_up_n (by decide)]; exact hma.2.2)⟩ a2 (I 0 0) (I 0 0) _) (cwV 3 hts gX12_pour_X12_kindOn rfl rfl rfl (by decide +kernel) ⟨Nat.le_of_ble_eq_true rfl, Nat.le_of_ble_eq_true rfl⟩) (z_preV (i := 0) hK hW rfl rfl) rfl rfl hl.1 rfl (lv_room (Nat.le_of_ble_eq_true rfl)) dX12_pour_161 ⟨Nat.le_of_ble_eq_true rfl, Nat.le_of_ble_eq_true rfl⟩) (fun r u1 H locs hp hW hS => ?_)
            obtain ⟨e9, hp⟩ := hp
            rw [e9] at hW
            refine lv_topi (fun x125 ex125 => ?_)
            have h126 := hp
            rw [← ex125] at h126
            refine lv_iconst (v := 2) hx hb dX12_pour_164 (by decide) ?_
            refine lv_icmp_ne (tgt := 172) hx hb dX12_pour_165 (by decide) (fun c127 => ?_) (fun c127 => ?_)
            · have g128 := z_f_ne rfl z_l2 c127
              have b129 := Int32.toInt_lt x125
              refine lv_iconst (v := 0) hx hb dX12_pour_172 (by decide) ?_
              refine z_zast (i := 42) hx hb hK hW hS rfl (z_ix rfl (by omega) (by omega)) dX12_pour_173 (fun H locs hz1 hW hS => ?_)
              obtain ⟨I130, eI130⟩ : ∃ K : z_I, K = z_up I120 42 (I 0 55).toNatClampNeg (vp_nar .boolean 0) := ⟨_, rfl⟩
              rw [← eI130] at hW
              have f131 := z_fr_a f121 (show z_wa L_X12_pour_q 42 = true by decide) eI130
              have a132 := z_rg_n a122 (by decide) eI130
              have a133 := z_rg_n a123 (by decide) eI130
              have a134 := z_rg_n a124 (by decide) eI130
              refine lv_aload_n hx hb dX12_pour_174 rfl (lv_at hl 0 rfl) ?_
              refine z_get (T := TX12) (N := 96) (ci := 12) (i := 0) (v := .ref (ad 41)) hx hb hts zj_X12_pour_X12 hown hK hW rfl rfl 64 (by decide) (hts (.fieldLink RX12 139 "PetrolBoardModel" "pourCome" "[I") (me_s (me_l (me_l (List.mem_of_getElem? (i := 11) rfl))))) (fun _ h => h) rfl dX12_pour_175 ?_
              refine lv_aload_n hx hb dX12_pour_178 rfl (lv_at hl 0 rfl) ?_
              refine z_get (T := TX12) (N := 96) (ci := 12) (i := 0) (v := .int (I 0 55)) hx hb hts zj_X12_pour_X12 hown hK hW rfl rfl 55 (by decide) (hts (.fieldLink RX12 468 "PetrolBoardModel" "pours" "I") (me_s (me_l (me_l (List.mem_of_getElem? (i := 1) rfl))))) (fun _ h => h) (congrArg Value.int (by rw [eI130, z_up_n (by decide), eI120, z_up_n (by decide), eI115, z_up_n (by decide), eI42, z_up_n (by decide), eI34, z_up_n (by decide), eI28, z_up_n (by decide), eI23, z_up_n (by decide), eI18, z_up_n (by decide)])) dX12_pour_179 ?_
              refine lv_aload_n hx hb dX12_pour_182 rfl (lv_at hl 0 rfl) ?_
              refine z_get (T := TX12) (N := 96) (ci := 12) (i := 0) (v := .int (I 0 56)) hx hb hts zj_X12_pour_X12 hown hK hW rfl rfl 56 (by decide) (hts (.fieldLink RX12 471 "PetrolBoardModel" "comes" "I") (me_s (me_l (me_l (List.mem_of_getElem? (i := 12) rfl))))) (fun _ h => h) (congrArg Value.int (by rw [eI130, z_up_n (by decide), eI120, z_up_n (by decide), eI115, z_up_n (by decide), eI42, z_up_n (by decide), eI34, z_up_n (by decide), eI28, z_up_n (by decide), eI23, z_up_n (by decide), eI18, z_up_n (by decide)])) dX12_pour_183 ?_
              refine z_iast (i := 41) hx hb hK hW hS rfl (z_ix rfl (by omega) (by omega)) dX12_pour_186 (fun H locs hz1 hW hS => ?_)
              obtain ⟨I135, eI135⟩ : ∃ K : z_I, K = z_up I130 41 (I 0 55).toNatClampNeg (I 0 56) := ⟨_, rfl⟩
              rw [← eI135] at hW
              have f136 := z_fr_a f131 (show z_wa L_X12_pour_q 41 = true by decide) eI135
              have a137 := z_rg_n a132 (by decide) eI135
              have a138 := z_rg_n a133 (by decide) eI135
              have a139 := z_rg_n a134 (by decide) eI135
              refine lv_aload_n hx hb dX12_pour_187 rfl (lv_at hl 0 rfl) ?_
              refine lv_dup hx hb dX12_pour_188 rfl ?_
              refine z_get (T := TX12) (N := 96) (ci := 12) (i := 0) (v := .int (I 0 56)) hx hb hts zj_X12_pour_X12 hown hK hW rfl rfl 56 (by decide) (hts (.fieldLink RX12 471 "PetrolBoardModel" "comes" "I") (me_s (me_l (me_l (List.mem_of_getElem? (i := 12) rfl))))) (fun _ h => h) (congrArg Value.int (by rw [eI135, z_up_n (by decide), eI130, z_up_n (by decide), eI120, z_up_n (by decide), eI115, z_up_n (by decide), eI42, z_up_n (by decide), eI34, z_up_n (by decide), eI28, z_up_n (by decide), eI23, z_up_n (by decide), eI18, z_up_n (by decide)])) dX12_pour_189 ?_
              refine lv_iconst (v := 1) hx hb dX12_pour_192 (by decide) ?_
              refine lv_iadd hx hb dX12_pour_193 ?_
              refine lv_topi (fun x140 ex140 => ?_)
              refine z_put (T := TX12) (N := 96) (ci := 12) (i := 0) (v := .int x140) (I1 := z_up I135 0 56 x140) (J1 := J) (P1 := PM ad) hx hb hts zj_X12_pour_X12 tyX12 tyX12_ok nmX12 hown hK hW hS rfl rfl 56 (by decide) (hts (.fieldLink RX12 471 "PetrolBoardModel" "comes" "I") (me_s (me_l (me_l (List.mem_of_getElem? (i := 12) rfl))))) (fun _ h => h) rfl rfl rfl (by first | rfl | exact congrArg _ z_up_s) (fun a b h ty => z_vI h ty) dX12_pour_194 (fun H locs hz1 hW hS => ?_)
              obtain ⟨I141, eI141⟩ : ∃ K : z_I, K = z_up I135 0 56 x140 := ⟨_, rfl⟩
              rw [← eI141] at hW
              have f142 := z_fr_k f136 (show z_wr L_X12_pour_q 0 56 = true by decide) eI141
              have a143 := z_rg_n a137 (by decide) eI141
              have a144 := z_rg_n a138 (by decide) eI141
              have a145 := z_rg_n a139 (by decide) eI141
              refine lv_aload_n hx hb dX12_pour_197 rfl (lv_at hl 0 rfl) ?_
              refine lv_dup hx hb dX12_pour_198 rfl ?_
              refine z_get (T := TX12) (N := 96) (ci := 12) (i := 0) (v := .int (I 0 55)) hx hb hts zj_X12_pour_X12 hown hK hW rfl rfl 55 (by decide) (hts (.fieldLink RX12 468 "PetrolBoardModel" "pours" "I") (me_s (me_l (me_l (List.mem_of_getElem? (i := 1) rfl))))) (fun _ h => h) (congrArg Value.int (by rw [eI141, z_up_k (by decide), eI135, z_up_n (by decide), eI130, z_up_n (by decide), eI120, z_up_n (by decide), eI115, z_up_n (by decide), eI42, z_up_n (by decide), eI34, z_up_n (by decide), eI28, z_up_n (by decide), eI23, z_up_n (by decide), eI18, z_up_n (by decide)])) dX12_pour_199 ?_
              refine lv_iconst (v := 1) hx hb dX12_pour_202 (by decide) ?_
              refine lv_iadd hx hb dX12_pour_203 ?_
              refine lv_topi (fun x146 ex146 => ?_)
              have tx146 : x146.toInt = (I 0 55).toInt + 1 := z_tadd ex146 rfl z_l1 (by omega) (by omega)
              refine z_put (T := TX12) (N := 96) (ci := 12) (i := 0) (v := .int x146) (I1 := z_up I141 0 55 x146) (J1 := J) (P1 := PM ad) hx hb hts zj_X12_pour_X12 tyX12 tyX12_ok nmX12 hown hK hW hS rfl rfl 55 (by decide) (hts (.fieldLink RX12 468 "PetrolBoardModel" "pours" "I") (me_s (me_l (me_l (List.mem_of_getElem? (i := 1) rfl))))) (fun _ h => h) rfl rfl rfl (by first | rfl | exact congrArg _ z_up_s) (fun a b h ty => z_vI h ty) dX12_pour_204 (fun H locs hz1 hW hS => ?_)
              obtain ⟨I147, eI147⟩ : ∃ K : z_I, K = z_up I141 0 55 x146 := ⟨_, rfl⟩
              rw [← eI147] at hW
              have f148 := z_fr_k f142 (show z_wr L_X12_pour_q 0 55 = true by decide) eI147
              have a149 := z_rg_n a143 (by decide) eI147
              have a150 := z_rg_n a144 (by decide) eI147
              have a151 := z_rg_n a145 (by decide) eI147
              refine lv_aload_n hx hb dX12_pour_207 rfl (lv_at hl 0 rfl) ?_
              refine z_get (T := TX12) (N := 96) (ci := 12) (i := 0) (v := .int x146) hx hb hts zj_X12_pour_X12 hown hK hW rfl rfl 55 (by decide) (hts (.fieldLink RX12 468 "PetrolBoardModel" "pours" "I") (me_s (me_l (me_l (List.mem_of_getElem? (i := 1) rfl))))) (fun _ h => h) (congrArg Value.int (by rw [eI147, z_up_s])) dX12_pour_208 ?_
              refine lv_iconst (v := 1) hx hb dX12_pour_211 (by decide) ?_
              refine lv_isub hx hb dX12_pour_212 ?_
              refine lv_topi (fun x152 ex152 => ?_)
              have tx152 : x152.toInt = x146.toInt - 1 := z_tsub ex152 rfl z_l1 (by omega) (by omega)
              exact z_iret hx hb hr hK hS (Nat.le_of_ble_eq_true rfl) (Nat.le_of_ble_eq_true rfl) hlocks dX12_pour_213 (shM, ad, I147, J, PM ad) hW ⟨I147, J, rfl, ⟨(by show 0 ≤ (I147 0 0).toInt ∧ (I147 0 0).toInt ≤ 719; rw [eI147, z_up_k (by decide), eI141, z_up_k (by decide), eI135, z_up_n (by decide), eI130, z_up_n (by decide), eI120, z_up_n (by decide), eI115, z_up_n (by decide), eI42, z_up_n (by decide), eI34, z_up_n (by decide), eI28, z_up_n (by decide), eI23, z_up_n (by decide), eI18, z_up_n (by decide)]; exact hma.1), (by show 0 ≤ (I147 0 1).toInt ∧ (I147 0 1).toInt ≤ 30; rw [eI147, z_up_k (by decide), eI141, z_up_k (by decide), eI135, z_up_n (by decide), eI130, z_up_n (by decide), eI120, z_up_n (by decide), eI115, z_up_n (by decide), eI42, z_up_n (by decide), eI34, z_up_n (by decide), eI28, z_up_n (by decide), eI23, z_up_n (by decide), eI18, z_up_n (by decide)]; exact hma.2.1), (by show 0 ≤ (I147 0 2).toInt ∧ (I147 0 2).toInt ≤ 200; rw [eI147, z_up_k (by decide), eI141, z_up_k (by decide), eI135, z_up_n (by decide), eI130, z_up_n (by decide), eI120, z_up_n (by decide), eI115, z_up_n (by decide), eI42, z_up_n (by decide), eI34, z_up_n (by decide), eI28, z_up_n (by decide), eI23, z_up_n (by decide), eI18, z_up_n (by decide)]; exact hma.2.2)⟩, ⟨(by show 0 ≤ (I147 0 54).toInt ∧ (I147 0 54).toInt ≤ 10; rw [eI147, z_up_k (by decide), eI141, z_up_k (by decide), eI135, z_up_n (by decide), eI130, z_up_n (by decide), eI120, z_up_n (by decide), eI115, z_up_n (by decide), eI42, z_up_n (by decide), eI34, z_up_n (by decide), eI28, z_up_n (by decide), eI23, z_up_n (by decide), eI18, z_up_n (by decide)]; exact hms.1), (by show 0 ≤ (I147 0 55).toInt ∧ (I147 0 55).toInt ≤ 300; rw [eI147, z_up_s]; omega)⟩, a149, ⟨(by show 0 ≤ (I147 0 13).toInt ∧ (I147 0 13).toInt ≤ 12; rw [eI147, z_up_k (by decide), eI141, z_up_k (by decide), eI135, z_up_n (by decide), eI130, z_up_n (by decide), eI120, z_up_n (by decide), eI115, z_up_n (by decide), eI42, z_up_n (by decide), eI34, z_up_n (by decide), eI28, z_up_n (by decide), eI23, z_up_n (by decide), eI18, z_up_n (by decide)]; exact hmb.1), (by show 0 ≤ (I147 0 14).toInt ∧ (I147 0 14).toInt ≤ 288; rw [eI147, z_up_k (by decide), eI141, z_up_k (by decide), eI135, z_up_n (by decide), eI130, z_up_n (by decide), eI120, z_up_n (by decide), eI115, z_up_n (by decide), eI42, z_up_n (by decide), eI34, z_up_n (by decide), eI28, z_up_n (by decide), eI23, z_up_n (by decide), eI18, z_up_n (by decide)]; exact hmb.2)⟩, a150, a151, f148, ⟨(Or.inl ⟨by omega, by omega, (by have q9 : (I147 0 55) = x146 := (by rw [eI147, z_up_s]); show (I147 0 55).toInt = (I 0 55).toInt + 1; rw [q9]; first | done | omega), x40, (vp_nar .boolean 0), (-1), (by have q1 : (I34 0 0).toInt = (I 0 0).toInt := (by rw [f35 0 0 (by decide)]); rw [hM41, zb_am_c (fun j => ⟨f35 11 _ (z_wr_c (by decide)), f35 12 _ (z_wr_c (by decide)), f35 13 _ (z_wr_c (by decide)), f35 14 _ (z_wr_c (by decide)), f35 15 _ (z_wr_c (by decide)), f35 16 _ (z_wr_c (by decide))⟩) (f35 0 13 (by decide)), show x39.toInt = (I 0 0).toInt / 30 by omega]), (Or.inr ⟨by decide, by rw [← ((show x125.toInt = z_fm I120 a2 from (by unfold z_fm; rw [f121 0 0 (by decide)]; exact h126)).trans (z_fm_c (a := a2) (fun j => ⟨f121 6 j (z_wr_c (by decide)), f121 7 j (z_wr_c (by decide)), f121 8 j (z_wr_c (by decide)), f121 9 j (z_wr_c (by decide)), f121 10 j (z_wr_c (by decide))⟩) (f121 0 0 (by decide)) (f121 0 2 (by decide))))]; omega⟩), (by unfold zb_OM; rw [if_neg (fun q => hb47 ((zb_hm_c (I := I) (fun j => f43 31 j (z_wr_c (by decide)))).mpr q))]; decide), (fun j => by rw [eI147, z_up_n (by decide), eI141, z_up_n (by decide), eI135, z_up_n (by decide), eI130, z_up_n (by decide), eI120, z_up_n (by decide), eI115, z_up_n (by decide), eI42, z_up_n (by decide), eI34, z_up_n (by decide), eI28, z_up_n (by decide), eI23, z_up_n (by decide), eI18, z_up_j]), (fun j => by rw [eI147, z_up_n (by decide), eI141, z_up_n (by decide), eI135, z_up_n (by decide), eI130, z_up_n (by decide), eI120, z_up_n (by decide), eI115, z_up_n (by decide), eI42, z_up_n (by decide), eI34, z_up_n (by decide), eI28, z_up_n (by decide), eI23, z_up_j, eI18, z_up_n (by decide)]), (fun j => by rw [eI147, z_up_n (by decide), eI141, z_up_n (by decide), eI135, z_up_n (by decide), eI130, z_up_n (by decide), eI120, z_up_n (by decide), eI115, z_up_n (by decide), eI42, z_up_n (by decide), eI34, z_up_n (by decide), eI28, z_up_j, eI23, z_up_n (by decide), eI18, z_up_n (by decide)]), (fun j => by rw [eI147, z_up_n (by decide), eI141, z_up_n (by decide), eI135, z_up_n (by decide), eI130, z_up_n (by decide), eI120, z_up_n (by decide), eI115, z_up_n (by decide), eI42, z_up_n (by decide), eI34, z_up_j, eI28, z_up_n (by decide), eI23, z_up_n (by decide), eI18, z_up_n (by decide)]), (fun j => by rw [eI147, z_up_n (by decide), eI141, z_up_n (by decide), eI135, z_up_n (by decide), eI130, z_up_n (by decide), eI120, z_up_n (by decide), eI115, z_up_n (by decide), eI42, z_up_j, eI34, z_up_n (by decide), eI28, z_up_n (by decide), eI23, z_up_n (by decide), eI18, z_up_n (by decide)]), (fun j => by rw [eI147, z_up_n (by decide), eI141, z_up_n (by decide), eI135, z_up_n (by decide), eI130, z_up_n (by decide), eI120, z_up_j, eI115, z_up_n (by decide), eI42, z_up_n (by decide), eI34, z_up_n (by decide), eI28, z_up_n (by decide), eI23, z_up_n (by decide), eI18, z_up_n (by decide)]), (fun j => by rw [eI147, z_up_n (by decide), eI141, z_up_n (by decide), eI135, z_up_n (by decide), eI130, z_up_j, eI120, z_up_n (by decide), eI115, z_up_n (by decide), eI42, z_up_n (by decide), eI34, z_up_n (by decide), eI28, z_up_n (by decide), eI23, z_up_n (by decide), eI18, z_up_n (by decide)]), (fun j => by rw [eI147, z_up_n (by decide), eI141, z_up_n (by decide), eI135, z_up_n (by decide), eI130, z_up_n (by decide), eI120, z_up_n (by decide), eI115, z_up_j, eI42, z_up_n (by decide), eI34, z_up_n (by decide), eI28, z_up_n (by decide), eI23, z_up_n (by decide), eI18, z_up_n (by decide)])⟩), fun _ => ⟨(fun j => by rw [eI147, z_up_n (by decide), eI141, z_up_n (by decide), eI135, z_up_j, eI130, z_up_n (by decide), eI120, z_up_n (by decide), eI115, z_up_n (by decide), eI42, z_up_n (by decide), eI34, z_up_n (by decide), eI28, z_up_n (by decide), eI23, z_up_n (by decide), eI18, z_up_n (by decide)]), (by rw [eI147, z_up_k (by decide), eI141, z_up_s, ex140])⟩, fun q => absurd (by omega) q⟩⟩
            · have g153 := z_f_eq rfl z_l2 c127
              have b154 := Int32.toInt_lt x125
              refine lv_iconst (v := 1) hx hb dX12_pour_168 (by decide) ?_
              refine lv_goto (tgt := 173) hx hb dX12_pour_169 (by decide) ?_
              refine z_zast (i := 42) hx hb hK hW hS rfl (z_ix rfl (by omega) (by omega)) dX12_pour_173 (fun H locs hz1 hW hS => ?_)
              obtain ⟨I155, eI155⟩ : ∃ K : z_I, K = z_up I120 42 (I 0 55).toNatClampNeg (vp_nar .boolean 1) := ⟨_, rfl⟩
              rw [← eI155] at hW
              have f156 := z_fr_a f121 (show z_wa L_X12_pour_q 42 = true by decide) eI155
              have a157 := z_rg_n a122 (by decide) eI155
              have a158 := z_rg_n a123 (by decide) eI155
              have a159 := z_rg_n a124 (by decide) eI155
              refine lv_aload_n hx hb dX12_pour_174 rfl (lv_at hl 0 rfl) ?_
              refine z_get (T := TX12) (N := 96) (ci := 12) (i := 0) (v := .ref (ad 41)) hx hb hts zj_X12_pour_X12 hown hK hW rfl rfl 64 (by decide) (hts (.fieldLink RX12 139 "PetrolBoardModel" "pourCome" "[I") (me_s (me_l (me_l (List.mem_of_getElem? (i := 11) rfl))))) (fun _ h => h) rfl dX12_pour_175 ?_
              refine lv_aload_n hx hb dX12_pour_178 rfl (lv_at hl 0 rfl) ?_
              refine z_get (T := TX12) (N := 96) (ci := 12) (i := 0) (v := .int (I 0 55)) hx hb hts zj_X12_pour_X12 hown hK hW rfl rfl 55 (by decide) (hts (.fieldLink RX12 468 "PetrolBoardModel" "pours" "I") (me_s (me_l (me_l (List.mem_of_getElem? (i := 1) rfl))))) (fun _ h => h) (congrArg Value.int (by rw [eI155, z_up_n (by decide), eI120, z_up_n (by decide), eI115, z_up_n (by decide), eI42, z_up_n (by decide), eI34, z_up_n (by decide), eI28, z_up_n (by decide), eI23, z_up_n (by decide), eI18, z_up_n (by decide)])) dX12_pour_179 ?_
              refine lv_aload_n hx hb dX12_pour_182 rfl (lv_at hl 0 rfl) ?_
              refine z_get (T := TX12) (N := 96) (ci := 12) (i := 0) (v := .int (I 0 56)) hx hb hts zj_X12_pour_X12 hown hK hW rfl rfl 56 (by decide) (hts (.fieldLink RX12 471 "PetrolBoardModel" "comes" "I") (me_s (me_l (me_l (List.mem_of_getElem? (i := 12) rfl))))) (fun _ h => h) (congrArg Value.int (by rw [eI155, z_up_n (by decide), eI120, z_up_n (by decide), eI115, z_up_n (by decide), eI42, z_up_n (by decide), eI34, z_up_n (by decide), eI28, z_up_n (by decide), eI23, z_up_n (by decide), eI18, z_up_n (by decide)])) dX12_pour_183 ?_
              refine z_iast (i := 41) hx hb hK hW hS rfl (z_ix rfl (by omega) (by omega)) dX12_pour_186 (fun H locs hz1 hW hS => ?_)
              obtain ⟨I160, eI160⟩ : ∃ K : z_I, K = z_up I155 41 (I 0 55).toNatClampNeg (I 0 56) := ⟨_, rfl⟩
              rw [← eI160] at hW
              have f161 := z_fr_a f156 (show z_wa L_X12_pour_q 41 = true by decide) eI160
              have a162 := z_rg_n a157 (by decide) eI160
              have a163 := z_rg_n a158 (by decide) eI160
              have a164 := z_rg_n a159 (by decide) eI160
              refine lv_aload_n hx hb dX12_pour_187 rfl (lv_at hl 0 rfl) ?_
              refine lv_dup hx hb dX12_pour_188 rfl ?_
              refine z_get (T := TX12) (N := 96) (ci := 12) (i := 0) (v := .int (I 0 56)) hx hb hts zj_X12_pour_X12 hown hK hW rfl rfl 56 (by decide) (hts (.fieldLink RX12 471 "PetrolBoardModel" "comes" "I") (me_s (me_l (me_l (List.mem_of_getElem? (i := 12) rfl))))) (fun _ h => h) (congrArg Value.int (by rw [eI160, z_up_n (by decide), eI155, z_up_n (by decide), eI120, z_up_n (by decide), eI115, z_up_n (by decide), eI42, z_up_n (by decide), eI34, z_up_n (by decide), eI28, z_up_n (by decide), eI23, z_up_n (by decide), eI18, z_up_n (by decide)])) dX12_pour_189 ?_
              refine lv_iconst (v := 1) hx hb dX12_pour_192 (by decide) ?_
              refine lv_iadd hx hb dX12_pour_193 ?_
              refine lv_topi (fun x165 ex165 => ?_)
              refine z_put (T := TX12) (N := 96) (ci := 12) (i := 0) (v := .int x165) (I1 := z_up I160 0 56 x165) (J1 := J) (P1 := PM ad) hx hb hts zj_X12_pour_X12 tyX12 tyX12_ok nmX12 hown hK hW hS rfl rfl 56 (by decide) (hts (.fieldLink RX12 471 "PetrolBoardModel" "comes" "I") (me_s (me_l (me_l (List.mem_of_getElem? (i := 12) rfl))))) (fun _ h => h) rfl rfl rfl (by first | rfl | exact congrArg _ z_up_s) (fun a b h ty => z_vI h ty) dX12_pour_194 (fun H locs hz1 hW hS => ?_)
              obtain ⟨I166, eI166⟩ : ∃ K : z_I, K = z_up I160 0 56 x165 := ⟨_, rfl⟩
              rw [← eI166] at hW
              have f167 := z_fr_k f161 (show z_wr L_X12_pour_q 0 56 = true by decide) eI166
              have a168 := z_rg_n a162 (by decide) eI166
              have a169 := z_rg_n a163 (by decide) eI166
              have a170 := z_rg_n a164 (by decide) eI166
              refine lv_aload_n hx hb dX12_pour_197 rfl (lv_at hl 0 rfl) ?_
              refine lv_dup hx hb dX12_pour_198 rfl ?_
              refine z_get (T := TX12) (N := 96) (ci := 12) (i := 0) (v := .int (I 0 55)) hx hb hts zj_X12_pour_X12 hown hK hW rfl rfl 55 (by decide) (hts (.fieldLink RX12 468 "PetrolBoardModel" "pours" "I") (me_s (me_l (me_l (List.mem_of_getElem? (i := 1) rfl))))) (fun _ h => h) (congrArg Value.int (by rw [eI166, z_up_k (by decide), eI160, z_up_n (by decide), eI155, z_up_n (by decide), eI120, z_up_n (by decide), eI115, z_up_n (by decide), eI42, z_up_n (by decide), eI34, z_up_n (by decide), eI28, z_up_n (by decide), eI23, z_up_n (by decide), eI18, z_up_n (by decide)])) dX12_pour_199 ?_
              refine lv_iconst (v := 1) hx hb dX12_pour_202 (by decide) ?_
              refine lv_iadd hx hb dX12_pour_203 ?_
              refine lv_topi (fun x171 ex171 => ?_)
              have tx171 : x171.toInt = (I 0 55).toInt + 1 := z_tadd ex171 rfl z_l1 (by omega) (by omega)
              refine z_put (T := TX12) (N := 96) (ci := 12) (i := 0) (v := .int x171) (I1 := z_up I166 0 55 x171) (J1 := J) (P1 := PM ad) hx hb hts zj_X12_pour_X12 tyX12 tyX12_ok nmX12 hown hK hW hS rfl rfl 55 (by decide) (hts (.fieldLink RX12 468 "PetrolBoardModel" "pours" "I") (me_s (me_l (me_l (List.mem_of_getElem? (i := 1) rfl))))) (fun _ h => h) rfl rfl rfl (by first | rfl | exact congrArg _ z_up_s) (fun a b h ty => z_vI h ty) dX12_pour_204 (fun H locs hz1 hW hS => ?_)
              obtain ⟨I172, eI172⟩ : ∃ K : z_I, K = z_up I166 0 55 x171 := ⟨_, rfl⟩
              rw [← eI172] at hW
              have f173 := z_fr_k f167 (show z_wr L_X12_pour_q 0 55 = true by decide) eI172
              have a174 := z_rg_n a168 (by decide) eI172
              have a175 := z_rg_n a169 (by decide) eI172
              have a176 := z_rg_n a170 (by decide) eI172
              refine lv_aload_n hx hb dX12_pour_207 rfl (lv_at hl 0 rfl) ?_
              refine z_get (T := TX12) (N := 96) (ci := 12) (i := 0) (v := .int x171) hx hb hts zj_X12_pour_X12 hown hK hW rfl rfl 55 (by decide) (hts (.fieldLink RX12 468 "PetrolBoardModel" "pours" "I") (me_s (me_l (me_l (List.mem_of_getElem? (i := 1) rfl))))) (fun _ h => h) (congrArg Value.int (by rw [eI172, z_up_s])) dX12_pour_208 ?_
              refine lv_iconst (v := 1) hx hb dX12_pour_211 (by decide) ?_
              refine lv_isub hx hb dX12_pour_212 ?_
              refine lv_topi (fun x177 ex177 => ?_)
              have tx177 : x177.toInt = x171.toInt - 1 := z_tsub ex177 rfl z_l1 (by omega) (by omega)
              exact z_iret hx hb hr hK hS (Nat.le_of_ble_eq_true rfl) (Nat.le_of_ble_eq_true rfl) hlocks dX12_pour_213 (shM, ad, I172, J, PM ad) hW ⟨I172, J, rfl, ⟨(by show 0 ≤ (I172 0 0).toInt ∧ (I172 0 0).toInt ≤ 719; rw [eI172, z_up_k (by decide), eI166, z_up_k (by decide), eI160, z_up_n (by decide), eI155, z_up_n (by decide), eI120, z_up_n (by decide), eI115, z_up_n (by decide), eI42, z_up_n (by decide), eI34, z_up_n (by decide), eI28, z_up_n (by decide), eI23, z_up_n (by decide), eI18, z_up_n (by decide)]; exact hma.1), (by show 0 ≤ (I172 0 1).toInt ∧ (I172 0 1).toInt ≤ 30; rw [eI172, z_up_k (by decide), eI166, z_up_k (by decide), eI160, z_up_n (by decide), eI155, z_up_n (by decide), eI120, z_up_n (by decide), eI115, z_up_n (by decide), eI42, z_up_n (by decide), eI34, z_up_n (by decide), eI28, z_up_n (by decide), eI23, z_up_n (by decide), eI18, z_up_n (by decide)]; exact hma.2.1), (by show 0 ≤ (I172 0 2).toInt ∧ (I172 0 2).toInt ≤ 200; rw [eI172, z_up_k (by decide), eI166, z_up_k (by decide), eI160, z_up_n (by decide), eI155, z_up_n (by decide), eI120, z_up_n (by decide), eI115, z_up_n (by decide), eI42, z_up_n (by decide), eI34, z_up_n (by decide), eI28, z_up_n (by decide), eI23, z_up_n (by decide), eI18, z_up_n (by decide)]; exact hma.2.2)⟩, ⟨(by show 0 ≤ (I172 0 54).toInt ∧ (I172 0 54).toInt ≤ 10; rw [eI172, z_up_k (by decide), eI166, z_up_k (by decide), eI160, z_up_n (by decide), eI155, z_up_n (by decide), eI120, z_up_n (by decide), eI115, z_up_n (by decide), eI42, z_up_n (by decide), eI34, z_up_n (by decide), eI28, z_up_n (by decide), eI23, z_up_n (by decide), eI18, z_up_n (by decide)]; exact hms.1), (by show 0 ≤ (I172 0 55).toInt ∧ (I172 0 55).toInt ≤ 300; rw [eI172, z_up_s]; omega)⟩, a174, ⟨(by show 0 ≤ (I172 0 13).toInt ∧ (I172 0 13).toInt ≤ 12; rw [eI172, z_up_k (by decide), eI166, z_up_k (by decide), eI160, z_up_n (by decide), eI155, z_up_n (by decide), eI120, z_up_n (by decide), eI115, z_up_n (by decide), eI42, z_up_n (by decide), eI34, z_up_n (by decide), eI28, z_up_n (by decide), eI23, z_up_n (by decide), eI18, z_up_n (by decide)]; exact hmb.1), (by show 0 ≤ (I172 0 14).toInt ∧ (I172 0 14).toInt ≤ 288; rw [eI172, z_up_k (by decide), eI166, z_up_k (by decide), eI160, z_up_n (by decide), eI155, z_up_n (by decide), eI120, z_up_n (by decide), eI115, z_up_n (by decide), eI42, z_up_n (by decide), eI34, z_up_n (by decide), eI28, z_up_n (by decide), eI23, z_up_n (by decide), eI18, z_up_n (by decide)]; exact hmb.2)⟩, a175, a176, f173, ⟨(Or.inl ⟨by omega, by omega, (by have q9 : (I172 0 55) = x171 := (by rw [eI172, z_up_s]); show (I172 0 55).toInt = (I 0 55).toInt + 1; rw [q9]; first | done | omega), x40, (vp_nar .boolean 1), (-1), (by have q1 : (I34 0 0).toInt = (I 0 0).toInt := (by rw [f35 0 0 (by decide)]); rw [hM41, zb_am_c (fun j => ⟨f35 11 _ (z_wr_c (by decide)), f35 12 _ (z_wr_c (by decide)), f35 13 _ (z_wr_c (by decide)), f35 14 _ (z_wr_c (by decide)), f35 15 _ (z_wr_c (by decide)), f35 16 _ (z_wr_c (by decide))⟩) (f35 0 13 (by decide)), show x39.toInt = (I 0 0).toInt / 30 by omega]), (Or.inl ⟨by decide, by rw [← ((show x125.toInt = z_fm I120 a2 from (by unfold z_fm; rw [f121 0 0 (by decide)]; exact h126)).trans (z_fm_c (a := a2) (fun j => ⟨f121 6 j (z_wr_c (by decide)), f121 7 j (z_wr_c (by decide)), f121 8 j (z_wr_c (by decide)), f121 9 j (z_wr_c (by decide)), f121 10 j (z_wr_c (by decide))⟩) (f121 0 0 (by decide)) (f121 0 2 (by decide))))]; omega⟩), (by unfold zb_OM; rw [if_neg (fun q => hb47 ((zb_hm_c (I := I) (fun j => f43 31 j (z_wr_c (by decide)))).mpr q))]; decide), (fun j => by rw [eI172, z_up_n (by decide), eI166, z_up_n (by decide), eI160, z_up_n (by decide), eI155, z_up_n (by decide), eI120, z_up_n (by decide), eI115, z_up_n (by decide), eI42, z_up_n (by decide), eI34, z_up_n (by decide), eI28, z_up_n (by decide), eI23, z_up_n (by decide), eI18, z_up_j]), (fun j => by rw [eI172, z_up_n (by decide), eI166, z_up_n (by decide), eI160, z_up_n (by decide), eI155, z_up_n (by decide), eI120, z_up_n (by decide), eI115, z_up_n (by decide), eI42, z_up_n (by decide), eI34, z_up_n (by decide), eI28, z_up_n (by decide), eI23, z_up_j, eI18, z_up_n (by decide)]), (fun j => by rw [eI172, z_up_n (by decide), eI166, z_up_n (by decide), eI160, z_up_n (by decide), eI155, z_up_n (by decide), eI120, z_up_n (by decide), eI115, z_up_n (by decide), eI42, z_up_n (by decide), eI34, z_up_n (by decide), eI28, z_up_j, eI23, z_up_n (by decide), eI18, z_up_n (by decide)]), (fun j => by rw [eI172, z_up_n (by decide), eI166, z_up_n (by decide), eI160, z_up_n (by decide), eI155, z_up_n (by decide), eI120, z_up_n (by decide), eI115, z_up_n (by decide), eI42, z_up_n (by decide), eI34, z_up_j, eI28, z_up_n (by decide), eI23, z_up_n (by decide), eI18, z_up_n (by decide)]), (fun j => by rw [eI172, z_up_n (by decide), eI166, z_up_n (by decide), eI160, z_up_n (by decide), eI155, z_up_n (by decide), eI120, z_up_n (by decide), eI115, z_up_n (by decide), eI42, z_up_j, eI34, z_up_n (by decide), eI28, z_up_n (by decide), eI23, z_up_n (by decide), eI18, z_up_n (by decide)]), (fun j => by rw [eI172, z_up_n (by decide), eI166, z_up_n (by decide), eI160, z_up_n (by decide), eI155, z_up_n (by decide), eI120, z_up_j, eI115, z_up_n (by decide), eI42, z_up_n (by decide), eI34, z_up_n (by decide), eI28, z_up_n (by decide), eI23, z_up_n (by decide), eI18, z_up_n (by decide)]), (fun j => by rw [eI172, z_up_n (by decide), eI166, z_up_n (by decide), eI160, z_up_n (by decide), eI155, z_up_j, eI120, z_up_n (by decide), eI115, z_up_n (by decide), eI42, z_up_n (by decide), eI34, z_up_n (by decide), eI28, z_up_n (by decide), eI23, z_up_n (by decide), eI18, z_up_n (by decide)]), (fun j => by rw [eI172, z_up_n (by decide), eI166, z_up_n (by decide), eI160, z_up_n (by decide), eI155, z_up_n (by decide), eI120, z_up_n (by decide), eI115, z_up_j, eI42, z_up_n (by decide), eI34, z_up_n (by decide), eI28, z_up_n (by decide), eI23, z_up_n (by decide), eI18, z_up_n (by decide)])⟩), fun _ => ⟨(fun j => by rw [eI172, z_up_n (by decide), eI166, z_up_n (by decide), eI160, z_up_j, eI155, z_up_n (by decide), eI120, z_up_n (by decide), eI115, z_up_n (by decide), eI42, z_up_n (by decide), eI34, z_up_n (by decide), eI28, z_up_n (by decide), eI23, z_up_n (by decide), eI18, z_up_n (by decide)]), (by rw [eI172, z_up_k (by decide), eI166, z_up_s, ex165])⟩, fun q => absurd (by omega) q⟩⟩
        · have g178 := z_f_eq rfl z_l300 c16
          refine lv_iconst (v := (-1)) hx hb dX12_pour_37 (by decide) ?_
          exact z_iret hx hb hr hK hS (Nat.le_of_ble_eq_true rfl) (Nat.le_of_ble_eq_true rfl) hlocks dX12_pour_38 (shM, ad, I, J, PM ad) hW ⟨I, J, rfl, ⟨(by show 0 ≤ (I 0 0).toInt ∧ (I 0 0).toInt ≤ 719; exact hma.1), (by show 0 ≤ (I 0 1).toInt ∧ (I 0 1).toInt ≤ 30; exact hma.2.1), (by show 0 ≤ (I 0 2).toInt ∧ (I 0 2).toInt ≤ 200; exact hma.2.2)⟩, ⟨(by show 0 ≤ (I 0 54).toInt ∧ (I 0 54).toInt ≤ 10; exact hms.1), (by show 0 ≤ (I 0 55).toInt ∧ (I 0 55).toInt ≤ 300; exact hms.2)⟩, hApc, ⟨(by show 0 ≤ (I 0 13).toInt ∧ (I 0 13).toInt ≤ 12; exact hmb.1), (by show 0 ≤ (I 0 14).toInt ∧ (I 0 14).toInt ≤ 288; exact hmb.2)⟩, hAtf, hAtm, z_fr_0, ⟨(Or.inr ⟨by omega, by decide, (by show (I 0 55).toInt = (I 0 55).toInt; omega), (fun j => ⟨rfl, rfl, rfl, rfl, rfl, rfl, rfl, rfl⟩)⟩), fun q => absurd q (by omega), fun _ => ⟨fun j => rfl, rfl⟩⟩⟩
      · have h179 := h9
        have z180 := z_l0
        have z181 := z_l99999
        refine lv_if_eq (tgt := 37) hx hb dX12_pour_24 (by decide) (fun c182 => ?_) (fun c182 => absurd (by decide) c182)
        refine lv_iconst (v := (-1)) hx hb dX12_pour_37 (by decide) ?_
        exact z_iret hx hb hr hK hS (Nat.le_of_ble_eq_true rfl) (Nat.le_of_ble_eq_true rfl) hlocks dX12_pour_38 (shM, ad, I, J, PM ad) hW ⟨I, J, rfl, ⟨(by show 0 ≤ (I 0 0).toInt ∧ (I 0 0).toInt ≤ 719; exact hma.1), (by show 0 ≤ (I 0 1).toInt ∧ (I 0 1).toInt ≤ 30; exact hma.2.1), (by show 0 ≤ (I 0 2).toInt ∧ (I 0 2).toInt ≤ 200; exact hma.2.2)⟩, ⟨(by show 0 ≤ (I 0 54).toInt ∧ (I 0 54).toInt ≤ 10; exact hms.1), (by show 0 ≤ (I 0 55).toInt ∧ (I 0 55).toInt ≤ 300; exact hms.2)⟩, hApc, ⟨(by show 0 ≤ (I 0 13).toInt ∧ (I 0 13).toInt ≤ 12; exact hmb.1), (by show 0 ≤ (I 0 14).toInt ∧ (I 0 14).toInt ≤ 288; exact hmb.2)⟩, hAtf, hAtm, z_fr_0, ⟨(Or.inr ⟨by omega, by decide, (by show (I 0 55).toInt = (I 0 55).toInt; omega), (fun j => ⟨rfl, rfl, rfl, rfl, rfl, rfl, rfl, rfl⟩)⟩), fun q => absurd q (by omega), fun _ => ⟨fun j => rfl, rfl⟩⟩⟩
    · have h183 := h5
      have r184 : 0 ≤ (I 0 1).toInt ∧ (I 0 1).toInt ≤ 30 := hma.2.1
      refine lv_if_eq (tgt := 37) hx hb dX12_pour_13 (by decide) (fun c185 => ?_) (fun c185 => absurd (by decide) c185)
      refine lv_iconst (v := (-1)) hx hb dX12_pour_37 (by decide) ?_
      exact z_iret hx hb hr hK hS (Nat.le_of_ble_eq_true rfl) (Nat.le_of_ble_eq_true rfl) hlocks dX12_pour_38 (shM, ad, I, J, PM ad) hW ⟨I, J, rfl, ⟨(by show 0 ≤ (I 0 0).toInt ∧ (I 0 0).toInt ≤ 719; exact hma.1), (by show 0 ≤ (I 0 1).toInt ∧ (I 0 1).toInt ≤ 30; exact hma.2.1), (by show 0 ≤ (I 0 2).toInt ∧ (I 0 2).toInt ≤ 200; exact hma.2.2)⟩, ⟨(by show 0 ≤ (I 0 54).toInt ∧ (I 0 54).toInt ≤ 10; exact hms.1), (by show 0 ≤ (I 0 55).toInt ∧ (I 0 55).toInt ≤ 300; exact hms.2)⟩, hApc, ⟨(by show 0 ≤ (I 0 13).toInt ∧ (I 0 13).toInt ≤ 12; exact hmb.1), (by show 0 ≤ (I 0 14).toInt ∧ (I 0 14).toInt ≤ 288; exact hmb.2)⟩, hAtf, hAtm, z_fr_0, ⟨(Or.inr ⟨by omega, by decide, (by show (I 0 55).toInt = (I 0 55).toInt; omega), (fun j => ⟨rfl, rfl, rfl, rfl, rfl, rfl, rfl, rfl⟩)⟩), fun q => absurd q (by omega), fun _ => ⟨fun j => rfl, rfl⟩⟩⟩
  · have h186 := h1
    have r187 : 0 ≤ (I 0 54).toInt ∧ (I 0 54).toInt ≤ 10 := hms.1
    refine lv_if_eq (tgt := 37) hx hb dX12_pour_5 (by decide) (fun c188 => ?_) (fun c188 => absurd (by decide) c188)
    refine lv_iconst (v := (-1)) hx hb dX12_pour_37 (by decide) ?_
    exact z_iret hx hb hr hK hS (Nat.le_of_ble_eq_true rfl) (Nat.le_of_ble_eq_true rfl) hlocks dX12_pour_38 (shM, ad, I, J, PM ad) hW ⟨I, J, rfl, ⟨(by show 0 ≤ (I 0 0).toInt ∧ (I 0 0).toInt ≤ 719; exact hma.1), (by show 0 ≤ (I 0 1).toInt ∧ (I 0 1).toInt ≤ 30; exact hma.2.1), (by show 0 ≤ (I 0 2).toInt ∧ (I 0 2).toInt ≤ 200; exact hma.2.2)⟩, ⟨(by show 0 ≤ (I 0 54).toInt ∧ (I 0 54).toInt ≤ 10; exact hms.1), (by show 0 ≤ (I 0 55).toInt ∧ (I 0 55).toInt ≤ 300; exact hms.2)⟩, hApc, ⟨(by show 0 ≤ (I 0 13).toInt ∧ (I 0 13).toInt ≤ 12; exact hmb.1), (by show 0 ≤ (I 0 14).toInt ∧ (I 0 14).toInt ≤ 288; exact hmb.2)⟩, hAtf, hAtm, z_fr_0, ⟨(Or.inr ⟨by omega, by decide, (by show (I 0 55).toInt = (I 0 55).toInt; omega), (fun j => ⟨rfl, rfl, rfl, rfl, rfl, rfl, rfl, rfl⟩)⟩), fun q => absurd q (by omega), fun _ => ⟨fun j => rfl, rfl⟩⟩⟩
set_option maxHeartbeats 8000000 in
set_option maxRecDepth 100000 in
theorem sx_X8_counts_u (l : Launch) (G : z_G) (ad : Nat → Nat) (c : z_C) (I : z_I) (a1 : Int32) : z_M l yX8_counts wsX8_counts { frames := 1, cells := 0, slots := 0, locals := 12 } [.int a1] G (shC c, ad, I, JX, PC c ad) (fun r u1 => u1 = (shC c, ad, I, JX, PC c ad) ∧ ((r = 1 ∧ (¬ a1.toInt = 1 ∧ ¬ a1.toInt = 2 ∧ ¬ a1.toInt = 4)) ∨ (r = 0 ∧ ¬ (¬ a1.toInt = 1 ∧ ¬ a1.toInt = 2 ∧ ¬ a1.toInt = 4)))) 0 0 := by
  intro sz
  refine z_headQ (cc := cX8_counts) (maxL := 1) (ret := (some .boolean)) (by decide) rfl (Nat.le_of_ble_eq_true rfl) ?_
  intro p e s m below meth c0 ls hIn hK hsz hW hl
  obtain ⟨hx, hb, hr, hml, hown, hts, hlocks, hname⟩ := hIn
  subst hsz
  have hown : s.vm.findClass RX8 = some m.cls := hown
  have hA : ∀ q : Nat, s.heap.size ≤ q → z_A (shC c, ad, I, JX, PC c ad) s.heap.size q := fun q h => Or.inr h
  generalize hAe : z_A (shC c, ad, I, JX, PC c ad) s.heap.size = A at *
  have hS : va_S A s.heap s.heap [] := va_S.rf
  have hl : lv_has ls 1 [(0, .int a1)] := hl
  refine lv_iload_n hx hb dX8_counts_0 rfl (lv_at hl 0 rfl) ?_
  refine lv_iconst (v := 1) hx hb dX8_counts_1 (by decide) ?_
  refine lv_icmp_eq (tgt := 19) hx hb dX8_counts_2 (by decide) (fun c1 => ?_) (fun c1 => ?_)
  · have g2 := z_f_eq rfl z_l1 c1
    have b3 := Int32.toInt_lt a1
    refine lv_iconst (v := 0) hx hb dX8_counts_19 (by decide) ?_
    exact z_zret hx hb hr (by decide) hK hS (Nat.le_of_ble_eq_true rfl) (Nat.le_of_ble_eq_true rfl) hlocks dX8_counts_20 (shC c, ad, I, JX, PC c ad) hW ⟨rfl, (Or.inr ⟨rfl, by omega⟩)⟩
  · have g4 := z_f_ne rfl z_l1 c1
    have b5 := Int32.toInt_lt a1
    refine lv_iload_n hx hb dX8_counts_5 rfl (lv_at hl 0 rfl) ?_
    refine lv_iconst (v := 2) hx hb dX8_counts_6 (by decide) ?_
    refine lv_icmp_eq (tgt := 19) hx hb dX8_counts_7 (by decide) (fun c6 => ?_) (fun c6 => ?_)
    · have g7 := z_f_eq rfl z_l2 c6
      refine lv_iconst (v := 0) hx hb dX8_counts_19 (by decide) ?_
      exact z_zret hx hb hr (by decide) hK hS (Nat.le_of_ble_eq_true rfl) (Nat.le_of_ble_eq_true rfl) hlocks dX8_counts_20 (shC c, ad, I, JX, PC c ad) hW ⟨rfl, (Or.inr ⟨rfl, by omega⟩)⟩
    · have g8 := z_f_ne rfl z_l2 c6
      refine lv_iload_n hx hb dX8_counts_10 rfl (lv_at hl 0 rfl) ?_
      refine lv_iconst (v := 4) hx hb dX8_counts_11 (by decide) ?_
      refine lv_icmp_eq (tgt := 19) hx hb dX8_counts_12 (by decide) (fun c9 => ?_) (fun c9 => ?_)
      · have g10 := z_f_eq rfl z_l4 c9
        refine lv_iconst (v := 0) hx hb dX8_counts_19 (by decide) ?_
        exact z_zret hx hb hr (by decide) hK hS (Nat.le_of_ble_eq_true rfl) (Nat.le_of_ble_eq_true rfl) hlocks dX8_counts_20 (shC c, ad, I, JX, PC c ad) hW ⟨rfl, (Or.inr ⟨rfl, by omega⟩)⟩
      · have g11 := z_f_ne rfl z_l4 c9
        refine lv_iconst (v := 1) hx hb dX8_counts_15 (by decide) ?_
        refine lv_goto (tgt := 20) hx hb dX8_counts_16 (by decide) ?_
        exact z_zret hx hb hr (by decide) hK hS (Nat.le_of_ble_eq_true rfl) (Nat.le_of_ble_eq_true rfl) hlocks dX8_counts_20 (shC c, ad, I, JX, PC c ad) hW ⟨rfl, (Or.inl ⟨rfl, by omega⟩)⟩
set_option maxHeartbeats 8000000 in
set_option maxRecDepth 100000 in
theorem sx_X8_given_u (l : Launch) (G : z_G) (ad : Nat → Nat) (c : z_C) (I : z_I) (hP : z_iP I) (a1 : Int32) (a2 : Int32) (a3 : Int32) (hTe : ∀ p : Nat, (p : Int) < (I 30 8).toInt → 0 ≤ (I 35 p).toInt ∧ (I 35 p).toInt ≤ 999999) (q2 : 0 ≤ a2.toInt ∧ a2.toInt ≤ a3.toInt ∧ a3.toInt ≤ (I 30 8).toInt) : z_M l yX8_given wsX8_given { frames := 2, cells := 0, slots := 0, locals := 40 } [.ref (ad 30), .int a1, .int a2, .int a3] G (shC c, ad, I, JX, PC c ad) (fun r u1 => u1 = (shC c, ad, I, JX, PC c ad) ∧ (r.toInt = zu_s (zu_f I a1.toInt) a3.toNatClampNeg - zu_s (zu_f I a1.toInt) a2.toNatClampNeg ∧ 0 ≤ r.toInt ∧ r.toInt ≤ 299999700)) 0 0 := by
  intro sz
  refine z_headQ (cc := cX8_given) (maxL := 6) (ret := (some .int)) (by decide) rfl (Nat.le_of_ble_eq_true rfl) ?_
  intro p e s m below meth c0 ls hIn hK hsz hW hl
  obtain ⟨hx, hb, hr, hml, hown, hts, hlocks, hname⟩ := hIn
  subst hsz
  have hown : s.vm.findClass RX8 = some m.cls := hown
  have hA : ∀ q : Nat, s.heap.size ≤ q → z_A (shC c, ad, I, JX, PC c ad) s.heap.size q := fun q h => Or.inr h
  generalize hAe : z_A (shC c, ad, I, JX, PC c ad) s.heap.size = A at *
  have hS : va_S A s.heap s.heap [] := va_S.rf
  have hl : lv_has ls 6 [(0, .ref (ad 30)), (1, .int a1), (2, .int a2), (3, .int a3)] := hl
  have nP9 : 0 ≤ (I 30 8).toInt ∧ (I 30 8).toInt ≤ 300 := hP
  refine lv_iconst (v := 0) hx hb dX8_given_0 (by decide) ?_
  refine lv_istore (lv' := [(4, .int 0), (0, .ref (ad 30)), (1, .int a1), (2, .int a2), (3, .int a3)]) hx hb dX8_given_1 hl (by decide) rfl (fun ls hl => ?_)
  refine lv_iload_n hx hb dX8_given_3 rfl (lv_at hl 3 rfl) ?_
  refine lv_iconst (v := 0) hx hb dX8_given_4 (by decide) ?_
  refine va_mmax (x := a2) (y := 0) hx hb (hml.trans hl.1.symm) hown (hts (.methodLink RX8 50 Lib.Math.max.name) (me_s (me_l (List.mem_of_getElem? (i := 0) rfl)))) (hts (.static Lib.Math.max.name) (me_s (me_l (List.mem_of_getElem? (i := 1) rfl)))) (hts (.initialized "java/lang/Math") (me_s (me_l (List.mem_of_getElem? (i := 2) rfl)))) (hts (.code Lib.Math.max.name Lib.Math.max.code 2 (some .int)) (me_s (me_l (List.mem_of_getElem? (i := 3) rfl)))) (Nat.le_of_ble_eq_true rfl) (Nat.le_of_ble_eq_true rfl) (Nat.le_of_ble_eq_true rfl) (Nat.le_of_ble_eq_true rfl) dX8_given_5 ?_
  refine lv_topi (fun x1 ex1 => ?_)
  have tx1 := z_tmmax ex1 rfl z_l0
  refine lv_istore (lv' := [(5, .int x1), (4, .int 0), (0, .ref (ad 30)), (1, .int a1), (2, .int a2), (3, .int a3)]) hx hb dX8_given_8 hl (by decide) rfl (fun ls hl => ?_)
  have lp2 : ∀ (f : Nat) (y3 : Int32) (y4 : Int32) (H : Heap) (locs : List Loc) (ls : Array Slot), (2147483647 < y3.toInt + (f : Int)) → (0 ≤ y3.toInt) → (y3.toInt ≤ 300) → (0 ≤ y4.toInt) → (y4.toInt ≤ 299999700) → (x1.toInt ≤ y3.toInt) → (y4.toInt = zu_s (zu_f I a1.toInt) y3.toNatClampNeg - zu_s (zu_f I a1.toInt) a2.toNatClampNeg ∧ 0 ≤ y4.toInt ∧ y4.toInt ≤ 999999 * y3.toInt ∧ a2.toInt ≤ y3.toInt ∧ y3.toInt ≤ a3.toInt) → z_W G A (shC c, ad, I, JX, PC c ad) H → va_S A s.heap H locs → lv_has ls 6 [(5, .int y3), (4, .int y4), (0, .ref (ad 30)), (1, .int a1), (2, .int a2), (3, .int a3)] → W p l e (headSpec wsX8_given { frames := 2, cells := 0, slots := 0, locals := 40 }).room s m ([.ref (ad 30), .int a1, .int a2, .int a3] : List Value).toArray below meth c0 H locs 0 0 (MQ below (va_Qi (fun (r : Int32) (u1 : z_U) => u1 = (shC c, ad, I, JX, PC c ad) ∧ (r.toInt = zu_s (zu_f I a1.toInt) a3.toNatClampNeg - zu_s (zu_f I a1.toInt) a2.toNatClampNeg ∧ 0 ≤ r.toInt ∧ r.toInt ≤ 299999700)) (z_B G A) A) ([.ref (ad 30), .int a1, .int a2, .int a3] : List Value).toArray s 0 0 A) (F0 m 10 ls []) := by
    intro f
    induction f with
    | zero => intro y3 y4 H locs ls lp2m lp2l5 lp2u5 lp2l4 lp2u4 lp2z lp2B hW hS hl; exact absurd lp2m (by have := Int32.toInt_lt y3; have := Int32.le_toInt y3; omega)
    | succ f lp2ih =>
      intro y3 y4 H locs ls lp2m lp2l5 lp2u5 lp2l4 lp2u4 lp2z lp2B hW hS hl
      refine lv_iload hx hb dX8_given_10 (lv_at hl 0 rfl) ?_
      refine lv_iload_n hx hb dX8_given_12 rfl (lv_at hl 5 rfl) ?_
      refine lv_icmp_ge (tgt := 66) hx hb dX8_given_13 (by decide) (fun c5 => ?_) (fun c5 => ?_)
      · have g6 := z_f_ge rfl rfl c5
        refine lv_iload hx hb dX8_given_66 (lv_at hl 1 rfl) ?_
        exact z_iret hx hb hr hK hS (Nat.le_of_ble_eq_true rfl) (Nat.le_of_ble_eq_true rfl) hlocks dX8_given_68 (shC c, ad, I, JX, PC c ad) hW ⟨rfl, (by have q1 := z_clt (x := y3) rfl (by omega); have q2 := z_clt (x := a3) rfl (by omega); have b9 := lp2B.1; rw [show y3.toNatClampNeg = a3.toNatClampNeg by omega] at b9; exact ⟨b9, by omega, by omega⟩)⟩
      · have g7 := z_f_nge rfl rfl c5
        refine lv_iload hx hb dX8_given_16 (lv_at hl 0 rfl) ?_
        refine lv_sipush (v := 300) hx hb dX8_given_18 (by decide) ?_
        refine lv_icmp_ge (tgt := 66) hx hb dX8_given_21 (by decide) (fun c8 => (by have g := z_f_ge rfl z_l300 c8; omega)) (fun c8 => ?_)
        have g9 := z_f_nge rfl z_l300 c8
        refine lv_aload_n hx hb dX8_given_24 rfl (lv_at hl 2 rfl) ?_
        refine z_get (T := TX8) (N := 9) (ci := 8) (i := 30) (v := .ref (ad 31)) hx hb hts zj_X8_given_X8 hown hK hW rfl rfl 0 (by decide) (hts (.fieldLink RX8 9 "PetrolBoard$Pours" "station" "[I") (me_s (me_l (List.mem_of_getElem? (i := 4) rfl)))) (fun _ h => h) rfl dX8_given_25 ?_
        refine lv_iload hx hb dX8_given_28 (lv_at hl 0 rfl) ?_
        refine z_iald (i := 31) hx hb hK hW rfl (z_ix rfl (by omega) (by omega)) dX8_given_30 ?_
        refine lv_topi (fun x10 ex10 => ?_)
        have hv11 : (I 31 y3.toNatClampNeg).toInt = x10.toInt := by rw [ex10]
        have hz12 := z_clt (x := y3) rfl (by omega)
        refine lv_iload_n hx hb dX8_given_31 rfl (lv_at hl 3 rfl) ?_
        refine lv_icmp_ne (tgt := 60) hx hb dX8_given_32 (by decide) (fun c13 => ?_) (fun c13 => ?_)
        · have g14 := z_f_ne rfl rfl c13
          have b15 := Int32.toInt_lt x10
          have b16 := Int32.toInt_lt a1
          obtain ⟨x17, ex17⟩ : ∃ y : Int32, y = y3 + 1 := ⟨_, rfl⟩
          have tx17 : x17.toInt = y3.toInt + 1 := z_tadd ex17 rfl z_l1 (by omega) (by omega)
          refine lv_iinc (v := x17) (lv' := [(5, .int x17), (4, .int y4), (0, .ref (ad 30)), (1, .int a1), (2, .int a2), (3, .int a3)]) hx hb dX8_given_60 hl (k := 0) rfl (by rw [ex17]; rfl) (by decide) rfl (fun ls hl => ?_)
          refine lv_goto (tgt := 10) hx hb dX8_given_63 (by decide) ?_
          exact lp2ih x17 y4 _ _ _ (by omega) (by omega) (by omega) (by omega) (by omega) (by omega) (by have c9 := z_clt (x := y3) rfl (by omega); exact ⟨by rw [show x17.toNatClampNeg = y3.toNatClampNeg + 1 from z_cln (by omega) (by omega), zu_s_s, zu_f_n (by omega)]; have q9 := lp2B.1; omega, by omega, by omega, by omega, by omega⟩) hW hS (lv_sub hl [0, 1, 2, 3, 4, 5] rfl)
        · have g18 := z_f_eq rfl rfl c13
          have b19 := Int32.toInt_lt x10
          have b20 := Int32.toInt_lt a1
          refine lv_aload_n hx hb dX8_given_35 rfl (lv_at hl 2 rfl) ?_
          refine z_get (T := TX8) (N := 9) (ci := 8) (i := 30) (v := .ref (ad 36)) hx hb hts zj_X8_given_X8 hown hK hW rfl rfl 5 (by decide) (hts (.fieldLink RX8 27 "PetrolBoard$Pours" "verdict" "[I") (me_s (me_l (List.mem_of_getElem? (i := 5) rfl)))) (fun _ h => h) rfl dX8_given_36 ?_
          refine lv_iload hx hb dX8_given_39 (lv_at hl 0 rfl) ?_
          refine z_iald (i := 36) hx hb hK hW rfl (z_ix rfl (by omega) (by omega)) dX8_given_41 ?_
          refine lv_topi (fun x21 ex21 => ?_)
          have hv22 : (I 36 y3.toNatClampNeg).toInt = x21.toInt := by rw [ex21]
          have hz23 := z_clt (x := y3) rfl (by omega)
          refine z_ci hW hS hA (va_runS (As := [.int x21]) (rest := []) ⟨hx, hb, hml, hown, hts⟩ (sx_X8_counts_u l G ad c I  x21 _) (va_cwS 1 hts gX8_given_X8_counts rfl rfl rfl (by decide +kernel) ⟨Nat.le_of_ble_eq_true rfl, Nat.le_of_ble_eq_true rfl⟩) (z_preS hK hW) rfl rfl hl.1 rfl (lv_room (Nat.le_of_ble_eq_true rfl)) dX8_given_42 ⟨Nat.le_of_ble_eq_true rfl, Nat.le_of_ble_eq_true rfl⟩) (fun r u1 H locs hp hW hS => ?_)
          obtain ⟨e9, hp⟩ := hp
          rw [e9] at hW
          rcases hp with ⟨rfl, hb24⟩ | ⟨rfl, hb24⟩
          · refine lv_if_eq (tgt := 60) hx hb dX8_given_45 (by decide) (fun c25 => absurd c25 (by decide)) (fun c25 => ?_)
            refine lv_iload hx hb dX8_given_48 (lv_at hl 1 rfl) ?_
            refine lv_aload_n hx hb dX8_given_50 rfl (lv_at hl 2 rfl) ?_
            refine z_get (T := TX8) (N := 9) (ci := 8) (i := 30) (v := .ref (ad 35)) hx hb hts zj_X8_given_X8 hown hK hW rfl rfl 4 (by decide) (hts (.fieldLink RX8 24 "PetrolBoard$Pours" "tenths" "[I") (me_s (me_l (List.mem_of_getElem? (i := 6) rfl)))) (fun _ h => h) rfl dX8_given_51 ?_
            refine lv_iload hx hb dX8_given_54 (lv_at hl 0 rfl) ?_
            refine z_iald (i := 35) hx hb hK hW rfl (z_ix rfl (by omega) (by omega)) dX8_given_56 ?_
            refine lv_topi (fun x26 ex26 => ?_)
            have hv27 : (I 35 y3.toNatClampNeg).toInt = x26.toInt := by rw [ex26]
            have hz28 := z_clt (x := y3) rfl (by omega)
            have hu29 := hTe y3.toNatClampNeg (by omega)
            refine lv_iadd hx hb dX8_given_57 ?_
            refine lv_topi (fun x30 ex30 => ?_)
            have tx30 : x30.toInt = y4.toInt + x26.toInt := z_tadd ex30 rfl rfl (by omega) (by omega)
            refine lv_istore (lv' := [(4, .int x30), (5, .int y3), (0, .ref (ad 30)), (1, .int a1), (2, .int a2), (3, .int a3)]) hx hb dX8_given_58 hl (by decide) rfl (fun ls hl => ?_)
            obtain ⟨x31, ex31⟩ : ∃ y : Int32, y = y3 + 1 := ⟨_, rfl⟩
            have tx31 : x31.toInt = y3.toInt + 1 := z_tadd ex31 rfl z_l1 (by omega) (by omega)
            refine lv_iinc (v := x31) (lv' := [(5, .int x31), (4, .int x30), (0, .ref (ad 30)), (1, .int a1), (2, .int a2), (3, .int a3)]) hx hb dX8_given_60 hl (k := 1) rfl (by rw [ex31]; rfl) (by decide) rfl (fun ls hl => ?_)
            refine lv_goto (tgt := 10) hx hb dX8_given_63 (by decide) ?_
            exact lp2ih x31 x30 _ _ _ (by omega) (by omega) (by omega) (by omega) (by omega) (by omega) (by have c9 := z_clt (x := y3) rfl (by omega); exact ⟨by rw [show x31.toNatClampNeg = y3.toNatClampNeg + 1 from z_cln (by omega) (by omega), zu_s_s, zu_f_y (by omega)]; have q9 := lp2B.1; omega, by omega, by omega, by omega, by omega⟩) hW hS (lv_sub hl [0, 1, 2, 3, 4, 5] rfl)
          · refine lv_if_eq (tgt := 60) hx hb dX8_given_45 (by decide) (fun c32 => ?_) (fun c32 => absurd (by decide) c32)
            obtain ⟨x33, ex33⟩ : ∃ y : Int32, y = y3 + 1 := ⟨_, rfl⟩
            have tx33 : x33.toInt = y3.toInt + 1 := z_tadd ex33 rfl z_l1 (by omega) (by omega)
            refine lv_iinc (v := x33) (lv' := [(5, .int x33), (4, .int y4), (0, .ref (ad 30)), (1, .int a1), (2, .int a2), (3, .int a3)]) hx hb dX8_given_60 hl (k := 0) rfl (by rw [ex33]; rfl) (by decide) rfl (fun ls hl => ?_)
            refine lv_goto (tgt := 10) hx hb dX8_given_63 (by decide) ?_
            exact lp2ih x33 y4 _ _ _ (by omega) (by omega) (by omega) (by omega) (by omega) (by omega) (by have c9 := z_clt (x := y3) rfl (by omega); exact ⟨by rw [show x33.toNatClampNeg = y3.toNatClampNeg + 1 from z_cln (by omega) (by omega), zu_s_s, zu_f_n (by omega)]; have q9 := lp2B.1; omega, by omega, by omega, by omega, by omega⟩) hW hS (lv_sub hl [0, 1, 2, 3, 4, 5] rfl)
  exact lp2 4294967296 x1 (0) _ _ _ (z_m0u _) (by omega) (by omega) (by rw [z_l0]; omega) (by rw [z_l0]; omega) (by omega) ⟨by rw [show x1.toNatClampNeg = a2.toNatClampNeg from congrArg Int.toNat (show x1.toInt = a2.toInt by omega)]; have q0 := z_l0; omega, by have q0 := z_l0; omega, by have q0 := z_l0; omega, by omega, by omega⟩ hW hS (lv_sub hl [0, 1, 2, 3, 4, 5] rfl)
set_option maxHeartbeats 8000000 in
set_option maxRecDepth 100000 in
theorem sx_X11_inBehind_u (l : Launch) (G : z_G) (ad : Nat → Nat) (c : z_C) (I : z_I) (hO : z_iO I) (hB : z_iB I) (hP : z_iP I) (k : Nat) (a2 : Int32) (a3 : Int32) (hk : k < c.1) (hc : z_okc c) (h10 : c.1 ≤ 10) (hon : (I 21 2).toInt = (c.2.1 : Int)) (hmo : ∀ j, j < c.2.1 → 0 ≤ (I (200 + 5 * j) 0).toInt) (hab : ∀ (t : Int) (q : Nat), 0 ≤ t → q < c.2.1 → 0 ≤ zi_ax c I t q ∧ zi_ax c I t q ≤ 999999) (hTe : ∀ p : Nat, (p : Int) < (I 30 8).toInt → 0 ≤ (I 35 p).toInt ∧ (I 35 p).toInt ≤ 999999) (hD : zu_D I k) (hM : zu_M I k) (q3 : 0 ≤ a3.toInt ∧ a3.toInt + 1 < (I (100 + 8 * k) 4).toInt) (hS0 : z_iS c I) : z_MS l yX11_inBehind wsX11_inBehind { frames := 4, cells := 0, slots := 0, locals := 86 } [.ref (ad 0), .ref (ad (100 + 8 * k)), .int a2, .int a3] G (shC c, ad, I, JX, PC c ad) (fun r u1 => u1 = (shC c, ad, I, JX, PC c ad) ∧ (r.toInt = zu_I c I k a2.toInt a3.toNatClampNeg ∧ -1100000000 ≤ r.toInt ∧ r.toInt ≤ 1100000000)) 0 0 := sorry
set_option maxHeartbeats 8000000 in
set_option maxRecDepth 100000 in
theorem sx_X11_in_u (l : Launch) (G : z_G) (ad : Nat → Nat) (c : z_C) (I : z_I) (hO : z_iO I) (hB : z_iB I) (hP : z_iP I) (a1 : Int32) (a2 : Int32) (hc : z_okc c) (h10 : c.1 ≤ 10) (hon : (I 21 2).toInt = (c.2.1 : Int)) (hmo : ∀ j, j < c.2.1 → 0 ≤ (I (200 + 5 * j) 0).toInt) (hsn : (I 0 8).toInt = (c.1 : Int)) (hab : ∀ (t : Int) (q : Nat), 0 ≤ t → q < c.2.1 → 0 ≤ zi_ax c I t q ∧ zi_ax c I t q ≤ 999999) (hTe : ∀ p : Nat, (p : Int) < (I 30 8).toInt → 0 ≤ (I 35 p).toInt ∧ (I 35 p).toInt ≤ 999999) (hDa : ∀ k, k < c.1 → zu_D I k ∧ zu_M I k) (hS0 : z_iS c I) : z_MS l yX11_in wsX11_in { frames := 5, cells := 0, slots := 0, locals := 111 } [.ref (ad 0), .int a1, .int a2] G (shC c, ad, I, JX, PC c ad) (fun r u1 => u1 = (shC c, ad, I, JX, PC c ad) ∧ ((((0 ≤ a1.toInt ∧ a1.toInt < (I 0 8).toInt) ∧ 0 ≤ a2.toInt ∧ a2.toInt + 1 < (I (100 + 8 * a1.toNatClampNeg) 4).toInt) ∧ r.toInt = zu_I c I a1.toNatClampNeg a1.toInt a2.toNatClampNeg) ∨ (¬ ((0 ≤ a1.toInt ∧ a1.toInt < (I 0 8).toInt) ∧ 0 ≤ a2.toInt ∧ a2.toInt + 1 < (I (100 + 8 * a1.toNatClampNeg) 4).toInt) ∧ r.toInt = -2000000000))) 0 0 := by
  intro sz
  refine z_headS (cc := cX11_in) (maxL := 4) (ret := (some .int)) (by decide) rfl (Nat.le_of_ble_eq_true rfl) ?_
  intro p e s m below meth c0 ls hIn hK hsz hW hl hSt
  obtain ⟨hx, hb, hr, hml, hown, hts, hlocks, hname⟩ := hIn
  subst hsz
  have hown : s.vm.findClass RX11 = some m.cls := hown
  have hA : ∀ q : Nat, s.heap.size ≤ q → z_A (shC c, ad, I, JX, PC c ad) s.heap.size q := fun q h => Or.inr h
  generalize hAe : z_A (shC c, ad, I, JX, PC c ad) s.heap.size = A at *
  have hS : va_S A s.heap s.heap [] := va_S.rf
  have hl : lv_has ls 4 [(0, .ref (ad 0)), (1, .int a1), (2, .int a2)] := hl
  refine lv_aload_n hx hb dX11_in_0 rfl (lv_at hl 0 rfl) ?_
  refine lv_iload_n hx hb dX11_in_1 rfl (lv_at hl 1 rfl) ?_
  refine z_cq hW hS hA (va_runV (As := [.int a1]) (rest := []) ⟨hx, hb, hml, hown, hts⟩ (sx_X11_stationAt_e l G ad c I ⟨(by show 0 ≤ (I 0 0).toInt ∧ (I 0 0).toInt ≤ 719; exact hB.1), (by show 0 ≤ (I 0 8).toInt ∧ (I 0 8).toInt ≤ 10; exact hB.2)⟩ a1 hc h10 hsn _) (cwV 1 hts gX11_in_X11_stationAt rfl rfl rfl (by decide +kernel) ⟨Nat.le_of_ble_eq_true rfl, Nat.le_of_ble_eq_true rfl⟩) (z_preV (i := 0) hK hW rfl rfl) rfl rfl hl.1 rfl (lv_room (Nat.le_of_ble_eq_true rfl)) dX11_in_2 ⟨Nat.le_of_ble_eq_true rfl, Nat.le_of_ble_eq_true rfl⟩) (fun r u1 H locs hp hW hS => ?_)
  obtain ⟨e9, hp⟩ := hp
  rw [e9] at hW
  rcases hp with ⟨rfl, h2⟩ | ⟨k1, hk1, ek1, h3, rfl⟩
  · refine W.eq (g2 := F0 m 5 ls (.null :: [])) rfl ?_
    refine lv_astore_nN (lv' := [(3, .null), (0, .ref (ad 0)), (1, .int a1), (2, .int a2)]) hx hb dX11_in_5 rfl hl (by decide) rfl (fun ls hl => ?_)
    refine lv_aload_nN hx hb dX11_in_6 rfl (lv_at hl 0 rfl) ?_
    refine lv_ifnullN (tgt := 24) hx hb dX11_in_7 (by decide) ?_
    refine lv_ldc (v := (-2000000000)) hx hb hown (hts (.constant RX11 241 (-2000000000)) (me_s (me_l (me_l (me_l (me_l (me_l (me_l (List.mem_of_getElem? (i := 1) rfl))))))))) dX11_in_24 ?_
    exact z_iret hx hb hr hK hS (Nat.le_of_ble_eq_true rfl) (Nat.le_of_ble_eq_true rfl) hlocks dX11_in_26 (shC c, ad, I, JX, PC c ad) hW ⟨rfl, (Or.inr ⟨by omega, by decide⟩)⟩
  · refine W.eq (g2 := F0 m 5 ls (.ref (ad (100 + 8 * k1)) :: [])) rfl ?_
    refine lv_astore_n (lv' := [(3, .ref (ad (100 + 8 * k1))), (0, .ref (ad 0)), (1, .int a1), (2, .int a2)]) hx hb dX11_in_5 rfl hl (by decide) rfl (fun ls hl => ?_)
    refine lv_aload_n hx hb dX11_in_6 rfl (lv_at hl 0 rfl) ?_
    refine lv_ifnull hx hb dX11_in_7 ?_
    refine lv_iload_n hx hb dX11_in_10 rfl (lv_at hl 3 rfl) ?_
    refine lv_if_lt (tgt := 24) hx hb dX11_in_11 (by decide) (fun c4 => ?_) (fun c4 => ?_)
    · have g5 := z_f_lt rfl z_l0 c4
      have b6 := Int32.toInt_lt a2
      refine lv_ldc (v := (-2000000000)) hx hb hown (hts (.constant RX11 241 (-2000000000)) (me_s (me_l (me_l (me_l (me_l (me_l (me_l (List.mem_of_getElem? (i := 1) rfl))))))))) dX11_in_24 ?_
      exact z_iret hx hb hr hK hS (Nat.le_of_ble_eq_true rfl) (Nat.le_of_ble_eq_true rfl) hlocks dX11_in_26 (shC c, ad, I, JX, PC c ad) hW ⟨rfl, (Or.inr ⟨by rw [ek1]; omega, by decide⟩)⟩
    · have g7 := z_f_nlt rfl z_l0 c4
      have b8 := Int32.toInt_lt a2
      refine lv_iload_n hx hb dX11_in_14 rfl (lv_at hl 3 rfl) ?_
      refine lv_aload_n hx hb dX11_in_15 rfl (lv_at hl 0 rfl) ?_
      have r9 : 0 ≤ (I (100 + 8 * k1) 4).toInt ∧ (I (100 + 8 * k1) 4).toInt ≤ 30 := (hS0 k1 hk1)
      refine z_get (T := TX10) (N := 10) (ci := 10) (i := (100 + 8 * k1)) (v := .int (I (100 + 8 * k1) 4)) hx hb hts zj_X11_in_X10 hown hK hW (z_ss0 hk1 h10) rfl 4 (by decide) (hts (.fieldLink RX11 238 "PetrolBoard$Station" "dips" "I") (me_s (me_l (me_l (me_l (me_l (me_l (me_l (List.mem_of_getElem? (i := 0) rfl))))))))) (fun _ h => h) rfl dX11_in_16 ?_
      refine lv_iconst (v := 1) hx hb dX11_in_19 (by decide) ?_
      refine lv_isub hx hb dX11_in_20 ?_
      refine lv_topi (fun x10 ex10 => ?_)
      have tx10 : x10.toInt = (I (100 + 8 * k1) 4).toInt - 1 := z_tsub ex10 rfl z_l1 (by omega) (by omega)
      refine lv_icmp_lt (tgt := 27) hx hb dX11_in_21 (by decide) (fun c11 => ?_) (fun c11 => ?_)
      · have g12 := z_f_lt rfl rfl c11
        refine lv_aload_n hx hb dX11_in_27 rfl (lv_at hl 1 rfl) ?_
        refine lv_aload_n hx hb dX11_in_28 rfl (lv_at hl 0 rfl) ?_
        refine lv_iload_n hx hb dX11_in_29 rfl (lv_at hl 2 rfl) ?_
        refine lv_iload_n hx hb dX11_in_30 rfl (lv_at hl 3 rfl) ?_
        refine z_ci hW hS hA (va_runV (As := [.ref (ad (100 + 8 * k1)), .int a1, .int a2]) (rest := []) ⟨hx, hb, hml, hown, hts⟩ (sx_X11_inBehind_u l G ad c I (by show 0 ≤ (I 21 2).toInt ∧ (I 21 2).toInt ≤ 12; exact hO) ⟨(by show 0 ≤ (I 0 0).toInt ∧ (I 0 0).toInt ≤ 719; exact hB.1), (by show 0 ≤ (I 0 8).toInt ∧ (I 0 8).toInt ≤ 10; exact hB.2)⟩ (by show 0 ≤ (I 30 8).toInt ∧ (I 30 8).toInt ≤ 300; exact hP) k1 a1 a2 hk1 hc h10 hon hmo hab hTe (hDa k1 hk1).1 (hDa k1 hk1).2 (by omega) hS0 _) (cwV 3 hts gX11_in_X11_inBehind rfl rfl rfl (by decide +kernel) ⟨Nat.le_of_ble_eq_true rfl, Nat.le_of_ble_eq_true rfl⟩) (z_preVS (i := 0) hK hW hS hA hSt rfl rfl) rfl rfl hl.1 rfl (lv_room (Nat.le_of_ble_eq_true rfl)) dX11_in_31 ⟨Nat.le_of_ble_eq_true rfl, Nat.le_of_ble_eq_true rfl⟩) (fun r u1 H locs hp hW hS => ?_)
        obtain ⟨e9, hp⟩ := hp
        rw [e9] at hW
        refine lv_topi (fun x13 ex13 => ?_)
        rw [← ex13] at hp
        have hI14 := hp
        exact z_iret hx hb hr hK hS (Nat.le_of_ble_eq_true rfl) (Nat.le_of_ble_eq_true rfl) hlocks dX11_in_34 (shC c, ad, I, JX, PC c ad) hW ⟨rfl, (Or.inl ⟨by rw [ek1]; omega, by rw [ek1]; exact hI14.1⟩)⟩
      · have g15 := z_f_nlt rfl rfl c11
        refine lv_ldc (v := (-2000000000)) hx hb hown (hts (.constant RX11 241 (-2000000000)) (me_s (me_l (me_l (me_l (me_l (me_l (me_l (List.mem_of_getElem? (i := 1) rfl))))))))) dX11_in_24 ?_
        exact z_iret hx hb hr hK hS (Nat.le_of_ble_eq_true rfl) (Nat.le_of_ble_eq_true rfl) hlocks dX11_in_26 (shC c, ad, I, JX, PC c ad) hW ⟨rfl, (Or.inr ⟨by rw [ek1]; omega, by decide⟩)⟩
set_option maxHeartbeats 8000000 in
set_option maxRecDepth 100000 in
theorem sx_X12_inOf_u (l : Launch) (G : z_G) (ad : Nat → Nat) (I : z_I) (J : z_J) (hms : z_ims I) (hma : z_ima I) (hAgm : z_rg 43 0 30 I) (hmb : z_imb I) (hAtf : z_rg 11 0 288 I) (hAtm : z_rg 12 0 24 I) (a1 : Int32) (a2 : Int32) (hab : ∀ (t : Int) (q : Nat), 0 ≤ t → q < (I 0 13).toNatClampNeg → 0 ≤ zi_am I t q ∧ zi_am I t q ≤ 999999) (hTe : ∀ p : Nat, (p : Int) < (I 0 55).toInt → 0 ≤ (I 38 p).toInt ∧ (I 38 p).toInt ≤ 999999) (hGv : ∀ s : Nat, s < 10 → ∀ g : Nat, (g : Int) < (I 43 s).toInt → 0 ≤ (I 45 (30 * s + g)).toInt ∧ (I 45 (30 * s + g)).toInt ≤ 100000) (hDm : ∀ s : Nat, s < 10 → ∀ k : Nat, (k : Int) < (I 47 s).toInt → 0 ≤ (I 49 (30 * s + k)).toInt ∧ (I 49 (30 * s + k)).toInt ≤ 719) (q1 : 0 ≤ a1.toInt ∧ a1.toInt ≤ 9) (q2 : (0 ≤ a2.toInt ∧ a2.toInt ≤ 28) ∧ a2.toInt + 1 < (I 47 a1.toNatClampNeg).toInt) : z_Ml l yX12_inOf wsX12_inOf { frames := 3, cells := 0, slots := 0, locals := 62 } [.ref (ad 0), .int a1, .int a2] G (shM, ad, I, J, PM ad) (fun r u1 => u1 = (shM, ad, I, J, PM ad) ∧ (r.toInt = zu_J I a1.toNatClampNeg a2.toNatClampNeg ∧ -1100000000 ≤ r.toInt ∧ r.toInt ≤ 1100000000)) 0 0 := sorry
set_option maxHeartbeats 8000000 in
set_option maxRecDepth 100000 in
theorem sx_X12_in_u (l : Launch) (G : z_G) (ad : Nat → Nat) (I : z_I) (J : z_J) (hms : z_ims I) (hma : z_ima I) (hAgm : z_rg 43 0 30 I) (hAdm : z_rg 47 0 30 I) (hmb : z_imb I) (hAtf : z_rg 11 0 288 I) (hAtm : z_rg 12 0 24 I) (a1 : Int32) (a2 : Int32) (hab : ∀ (t : Int) (q : Nat), 0 ≤ t → q < (I 0 13).toNatClampNeg → 0 ≤ zi_am I t q ∧ zi_am I t q ≤ 999999) (hTe : ∀ p : Nat, (p : Int) < (I 0 55).toInt → 0 ≤ (I 38 p).toInt ∧ (I 38 p).toInt ≤ 999999) (hGv : ∀ s : Nat, s < 10 → ∀ g : Nat, (g : Int) < (I 43 s).toInt → 0 ≤ (I 45 (30 * s + g)).toInt ∧ (I 45 (30 * s + g)).toInt ≤ 100000) (hDm : ∀ s : Nat, s < 10 → ∀ k : Nat, (k : Int) < (I 47 s).toInt → 0 ≤ (I 49 (30 * s + k)).toInt ∧ (I 49 (30 * s + k)).toInt ≤ 719) : z_M l yX12_in wsX12_in { frames := 4, cells := 0, slots := 0, locals := 89 } [.ref (ad 0), .int a1, .int a2] G (shM, ad, I, J, PM ad) (fun r u1 => u1 = (shM, ad, I, J, PM ad) ∧ ((((0 ≤ a1.toInt ∧ a1.toInt < (I 0 54).toInt) ∧ 0 ≤ a2.toInt ∧ a2.toInt + 1 < (I 47 a1.toNatClampNeg).toInt) ∧ r.toInt = zu_J I a1.toNatClampNeg a2.toNatClampNeg) ∨ (¬ ((0 ≤ a1.toInt ∧ a1.toInt < (I 0 54).toInt) ∧ 0 ≤ a2.toInt ∧ a2.toInt + 1 < (I 47 a1.toNatClampNeg).toInt) ∧ r.toInt = -2000000000))) 0 0 := by
  intro sz
  refine z_headQ (cc := cX12_in) (maxL := 3) (ret := (some .int)) (by decide) rfl (Nat.le_of_ble_eq_true rfl) ?_
  intro p e s m below meth c0 ls hIn hK hsz hW hl
  obtain ⟨hx, hb, hr, hml, hown, hts, hlocks, hname⟩ := hIn
  subst hsz
  have hown : s.vm.findClass RX12 = some m.cls := hown
  have hA : ∀ q : Nat, s.heap.size ≤ q → z_A (shM, ad, I, J, PM ad) s.heap.size q := fun q h => Or.inr h
  generalize hAe : z_A (shM, ad, I, J, PM ad) s.heap.size = A at *
  have hS : va_S A s.heap s.heap [] := va_S.rf
  have hl : lv_has ls 3 [(0, .ref (ad 0)), (1, .int a1), (2, .int a2)] := hl
  refine lv_aload_n hx hb dX12_in_0 rfl (lv_at hl 0 rfl) ?_
  refine lv_iload_n hx hb dX12_in_1 rfl (lv_at hl 1 rfl) ?_
  refine z_ci hW hS hA (va_runV (As := [.int a1]) (rest := []) ⟨hx, hb, hml, hown, hts⟩ (sx_X12_isStation_e l G ad I J ⟨(by show 0 ≤ (I 0 54).toInt ∧ (I 0 54).toInt ≤ 10; exact hms.1), (by show 0 ≤ (I 0 55).toInt ∧ (I 0 55).toInt ≤ 300; exact hms.2)⟩ a1 _) (cwV 1 hts gX12_in_X12_isStation rfl rfl rfl (by decide +kernel) ⟨Nat.le_of_ble_eq_true rfl, Nat.le_of_ble_eq_true rfl⟩) (z_preV (i := 0) hK hW rfl rfl) rfl rfl hl.1 rfl (lv_room (Nat.le_of_ble_eq_true rfl)) dX12_in_2 ⟨Nat.le_of_ble_eq_true rfl, Nat.le_of_ble_eq_true rfl⟩) (fun r u1 H locs hp hW hS => ?_)
  obtain ⟨e9, hp⟩ := hp
  rw [e9] at hW
  rcases hp with ⟨rfl, h1⟩ | ⟨rfl, h1⟩
  · have h2 := h1
    have r3 : 0 ≤ (I 0 54).toInt ∧ (I 0 54).toInt ≤ 10 := hms.1
    refine lv_if_eq (tgt := 34) hx hb dX12_in_5 (by decide) (fun c4 => absurd c4 (by decide)) (fun c4 => ?_)
    refine lv_iload_n hx hb dX12_in_8 rfl (lv_at hl 2 rfl) ?_
    refine lv_if_lt (tgt := 34) hx hb dX12_in_9 (by decide) (fun c5 => ?_) (fun c5 => ?_)
    · have g6 := z_f_lt rfl z_l0 c5
      have b7 := Int32.toInt_lt a2
      refine lv_ldcw (v := (-2000000000)) hx hb hown (hts (.constant RX12 482 (-2000000000)) (me_s (me_l (me_l (List.mem_of_getElem? (i := 1) rfl))))) dX12_in_34 ?_
      exact z_iret hx hb hr hK hS (Nat.le_of_ble_eq_true rfl) (Nat.le_of_ble_eq_true rfl) hlocks dX12_in_37 (shM, ad, I, J, PM ad) hW ⟨rfl, (Or.inr ⟨by omega, by decide⟩)⟩
    · have g8 := z_f_nlt rfl z_l0 c5
      have b9 := Int32.toInt_lt a2
      refine lv_iload_n hx hb dX12_in_12 rfl (lv_at hl 2 rfl) ?_
      refine lv_aload_n hx hb dX12_in_13 rfl (lv_at hl 0 rfl) ?_
      refine z_get (T := TX12) (N := 96) (ci := 12) (i := 0) (v := .ref (ad 47)) hx hb hts zj_X12_in_X12 hown hK hW rfl rfl 70 (by decide) (hts (.fieldLink RX12 157 "PetrolBoardModel" "dipMany" "[I") (me_s (me_l (me_l (List.mem_of_getElem? (i := 0) rfl))))) (fun _ h => h) rfl dX12_in_14 ?_
      refine lv_iload_n hx hb dX12_in_17 rfl (lv_at hl 1 rfl) ?_
      refine z_iald (i := 47) hx hb hK hW rfl (z_ix rfl (by omega) (by omega)) dX12_in_18 ?_
      refine lv_topi (fun x10 ex10 => ?_)
      have h11 : 0 ≤ x10.toInt ∧ x10.toInt ≤ 30 := by rw [ex10]; exact hAdm _
      have hv12 : (I 47 a1.toNatClampNeg).toInt = x10.toInt := by rw [ex10]
      refine lv_iconst (v := 1) hx hb dX12_in_19 (by decide) ?_
      refine lv_isub hx hb dX12_in_20 ?_
      refine lv_topi (fun x13 ex13 => ?_)
      have tx13 : x13.toInt = x10.toInt - 1 := z_tsub ex13 rfl z_l1 (by omega) (by omega)
      refine lv_icmp_ge (tgt := 34) hx hb dX12_in_21 (by decide) (fun c14 => ?_) (fun c14 => ?_)
      · have g15 := z_f_ge rfl rfl c14
        refine lv_ldcw (v := (-2000000000)) hx hb hown (hts (.constant RX12 482 (-2000000000)) (me_s (me_l (me_l (List.mem_of_getElem? (i := 1) rfl))))) dX12_in_34 ?_
        exact z_iret hx hb hr hK hS (Nat.le_of_ble_eq_true rfl) (Nat.le_of_ble_eq_true rfl) hlocks dX12_in_37 (shM, ad, I, J, PM ad) hW ⟨rfl, (Or.inr ⟨by omega, by decide⟩)⟩
      · have g16 := z_f_nge rfl rfl c14
        refine lv_aload_n hx hb dX12_in_24 rfl (lv_at hl 0 rfl) ?_
        refine lv_iload_n hx hb dX12_in_25 rfl (lv_at hl 1 rfl) ?_
        refine lv_iload_n hx hb dX12_in_26 rfl (lv_at hl 2 rfl) ?_
        refine z_cl hW hS hA (va_runV (As := [.int a1, .int a2]) (rest := []) ⟨hx, hb, hml, hown, hts⟩ (sx_X12_inOf_u l G ad I J ⟨(by show 0 ≤ (I 0 54).toInt ∧ (I 0 54).toInt ≤ 10; exact hms.1), (by show 0 ≤ (I 0 55).toInt ∧ (I 0 55).toInt ≤ 300; exact hms.2)⟩ ⟨(by show 0 ≤ (I 0 0).toInt ∧ (I 0 0).toInt ≤ 719; exact hma.1), (by show 0 ≤ (I 0 1).toInt ∧ (I 0 1).toInt ≤ 30; exact hma.2.1), (by show 0 ≤ (I 0 2).toInt ∧ (I 0 2).toInt ≤ 200; exact hma.2.2)⟩ hAgm ⟨(by show 0 ≤ (I 0 13).toInt ∧ (I 0 13).toInt ≤ 12; exact hmb.1), (by show 0 ≤ (I 0 14).toInt ∧ (I 0 14).toInt ≤ 288; exact hmb.2)⟩ hAtf hAtm a1 a2 hab hTe hGv hDm (by omega) (by omega) _) (cwV 2 hts gX12_in_X12_inOf rfl rfl rfl (by decide +kernel) ⟨Nat.le_of_ble_eq_true rfl, Nat.le_of_ble_eq_true rfl⟩) (z_preV (i := 0) hK hW rfl rfl) rfl rfl hl.1 rfl (lv_room (Nat.le_of_ble_eq_true rfl)) dX12_in_27 ⟨Nat.le_of_ble_eq_true rfl, Nat.le_of_ble_eq_true rfl⟩) (fun r u1 H locs hp hW hS => ?_)
        obtain ⟨e9, hp⟩ := hp
        rw [e9] at hW
        refine lv_topl (fun w17 ew17 => ?_)
        rw [← ew17] at hp
        have hJ18 := hp
        refine lv_l2i (v := w17.toInt32) hx hb dX12_in_30 rfl ?_
        refine lv_topi (fun x19 ex19 => ?_)
        have tx19 : x19.toInt = w17.toInt := z_tl2i ex19 rfl (by omega)
        refine lv_goto (tgt := 37) hx hb dX12_in_31 (by decide) ?_
        exact z_iret hx hb hr hK hS (Nat.le_of_ble_eq_true rfl) (Nat.le_of_ble_eq_true rfl) hlocks dX12_in_37 (shM, ad, I, J, PM ad) hW ⟨rfl, (Or.inl ⟨by omega, by have j9 := hJ18.1; omega⟩)⟩
  · have h20 := h1
    have r21 : 0 ≤ (I 0 54).toInt ∧ (I 0 54).toInt ≤ 10 := hms.1
    refine lv_if_eq (tgt := 34) hx hb dX12_in_5 (by decide) (fun c22 => ?_) (fun c22 => absurd (by decide) c22)
    refine lv_ldcw (v := (-2000000000)) hx hb hown (hts (.constant RX12 482 (-2000000000)) (me_s (me_l (me_l (List.mem_of_getElem? (i := 1) rfl))))) dX12_in_34 ?_
    exact z_iret hx hb hr hK hS (Nat.le_of_ble_eq_true rfl) (Nat.le_of_ble_eq_true rfl) hlocks dX12_in_37 (shM, ad, I, J, PM ad) hW ⟨rfl, (Or.inr ⟨by omega, by decide⟩)⟩

end SG60zi
