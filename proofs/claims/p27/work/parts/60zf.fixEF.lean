set_option maxHeartbeats 8000000 in
set_option maxRecDepth 100000 in
theorem sx_X0_ownerOf_c_q2 (l : Launch) (G : z_G) (ad : Nat → Nat) (c : z_C) (I : z_I) (hC : z_iC I) (a1 : Int32) : z_M l yX0_ownerOf wsX0_ownerOf { frames := 2, cells := 0, slots := 0, locals := 34 } [.ref (ad 26), .int a1] G (shC c, ad, I, JX, PC c ad) (fun r u1 => u1 = (shC c, ad, I, JX, PC c ad) ∧ ((¬ zb_hx I a1.toInt ∧ r.toInt = -1) ∨ (zb_hx I a1.toInt ∧ r.toInt = zb_O I a1.toInt))) 0 0 := by
  intro sz
  refine z_headQ (cc := cX0_ownerOf) (maxL := 3) (ret := (some .int)) (by decide) rfl (Nat.le_of_ble_eq_true rfl) ?_
  intro p e s m below meth c0 ls hIn hK hsz hW hl
  obtain ⟨hx, hb, hr, hml, hown, hts, hlocks, hname⟩ := hIn
  subst hsz
  have hown : s.vm.findClass RX0 = some m.cls := hown
  have hA : ∀ q : Nat, s.heap.size ≤ q → z_A (shC c, ad, I, JX, PC c ad) s.heap.size q := fun q h => Or.inr h
  generalize hAe : z_A (shC c, ad, I, JX, PC c ad) s.heap.size = A at *
  have hS : va_S A s.heap s.heap [] := va_S.rf
  have hl : lv_has ls 3 [(0, .ref (ad 26)), (1, .int a1)] := hl
  have nC9 : 0 ≤ (I 26 4).toInt ∧ (I 26 4).toInt ≤ 512 := hC
  refine lv_aload_n hx hb dX0_ownerOf_0 rfl (lv_at hl 0 rfl) ?_
  refine lv_iload_n hx hb dX0_ownerOf_1 rfl (lv_at hl 1 rfl) ?_
  refine z_ci hW hS hA (va_runV (As := [.int a1]) (rest := []) ⟨hx, hb, hml, hown, hts⟩ (sx_X0_has_c l G ad c I  a1 _) (cwV 1 hts gX0_ownerOf_X0_has rfl rfl rfl (by decide +kernel) ⟨Nat.le_of_ble_eq_true rfl, Nat.le_of_ble_eq_true rfl⟩) (z_preV (i := 26) hK hW rfl rfl) rfl rfl hl.1 rfl (lv_room (Nat.le_of_ble_eq_true rfl)) dX0_ownerOf_2 ⟨Nat.le_of_ble_eq_true rfl, Nat.le_of_ble_eq_true rfl⟩) (fun r u1 H locs hp hW hS => ?_)
  obtain ⟨e9, hp⟩ := hp
  rw [e9] at hW
  rcases hp with ⟨rfl, hb1⟩ | ⟨rfl, hb1⟩
  · refine lv_if_ne (tgt := 10) hx hb dX0_ownerOf_5 (by decide) (fun c2 => ?_) (fun c2 => absurd c2 (by decide))
    refine lv_aload_n hx hb dX0_ownerOf_10 rfl (lv_at hl 0 rfl) ?_
    refine lv_iload_n hx hb dX0_ownerOf_11 rfl (lv_at hl 1 rfl) ?_
    refine z_ci hW hS hA (va_runV (As := [.int a1]) (rest := []) ⟨hx, hb, hml, hown, hts⟩ (sx_X0_lentAs_c l G ad c I (by show 0 ≤ (I 26 4).toInt ∧ (I 26 4).toInt ≤ 512; exact hC) a1 _) (cwV 1 hts gX0_ownerOf_X0_lentAs rfl rfl rfl (by decide +kernel) ⟨Nat.le_of_ble_eq_true rfl, Nat.le_of_ble_eq_true rfl⟩) (z_preV (i := 26) hK hW rfl rfl) rfl rfl hl.1 rfl (lv_room (Nat.le_of_ble_eq_true rfl)) dX0_ownerOf_12 ⟨Nat.le_of_ble_eq_true rfl, Nat.le_of_ble_eq_true rfl⟩) (fun r u1 H locs hp hW hS => ?_)
    obtain ⟨e9, hp⟩ := hp
    rw [e9] at hW
    refine lv_topi (fun x3 ex3 => ?_)
    rw [← ex3] at hp
    have hP4 := hp
    refine lv_istore_n (lv' := [(2, .int x3), (0, .ref (ad 26)), (1, .int a1)]) hx hb dX0_ownerOf_15 rfl hl (by decide) rfl (fun ls hl => ?_)
    refine lv_iload_n hx hb dX0_ownerOf_16 rfl (lv_at hl 0 rfl) ?_
    refine lv_if_lt (tgt := 36) hx hb dX0_ownerOf_17 (by decide) (fun c5 => ?_) (fun c5 => ?_)
    · have g6 := z_f_lt rfl z_l0 c5
      have b7 := Int32.toInt_lt x3
      refine lv_iload_n hx hb dX0_ownerOf_36 rfl (lv_at hl 2 rfl) ?_
      refine z_ci hW hS hA (va_runS (As := [.int a1]) (rest := []) ⟨hx, hb, hml, hown, hts⟩ (sx_X0_holderOf_c l G ad c I a1 (by have q := hb1.1; omega) _) (va_cwS 1 hts gX0_ownerOf_X0_holderOf rfl rfl rfl (by decide +kernel) ⟨Nat.le_of_ble_eq_true rfl, Nat.le_of_ble_eq_true rfl⟩) (z_preS hK hW) rfl rfl hl.1 rfl (lv_room (Nat.le_of_ble_eq_true rfl)) dX0_ownerOf_37 ⟨Nat.le_of_ble_eq_true rfl, Nat.le_of_ble_eq_true rfl⟩) (fun r u1 H locs hp hW hS => ?_)
      obtain ⟨e9, hp⟩ := hp
      rw [e9] at hW
      refine lv_topi (fun x8 ex8 => ?_)
      rw [← ex8] at hp
      have hP9 := hp
      exact z_iret hx hb hr hK hS (Nat.le_of_ble_eq_true rfl) (Nat.le_of_ble_eq_true rfl) hlocks dX0_ownerOf_40 (shC c, ad, I, JX, PC c ad) hW ⟨rfl, (Or.inr ⟨hb1, by unfold zb_O; have q1 := zb_K_b (I := I) (a := a1.toInt) (I 26 4).toNatClampNeg; have q2 := z_clt (x := (I 26 4)) rfl (by omega); rw [if_pos (by omega)]; omega⟩)⟩
    · have g10 := z_f_nlt rfl z_l0 c5
      have b11 := Int32.toInt_lt x3
      refine lv_iload_n hx hb dX0_ownerOf_20 rfl (lv_at hl 0 rfl) ?_
      refine lv_sipush (v := 512) hx hb dX0_ownerOf_21 (by decide) ?_
      refine lv_icmp_ge (tgt := 36) hx hb dX0_ownerOf_24 (by decide) (fun c12 => ?_) (fun c12 => ?_)
      · have g13 := z_f_ge rfl z_l512 c12
        refine lv_iload_n hx hb dX0_ownerOf_36 rfl (lv_at hl 2 rfl) ?_
        refine z_ci hW hS hA (va_runS (As := [.int a1]) (rest := []) ⟨hx, hb, hml, hown, hts⟩ (sx_X0_holderOf_c l G ad c I a1 (by have q := hb1.1; omega) _) (va_cwS 1 hts gX0_ownerOf_X0_holderOf rfl rfl rfl (by decide +kernel) ⟨Nat.le_of_ble_eq_true rfl, Nat.le_of_ble_eq_true rfl⟩) (z_preS hK hW) rfl rfl hl.1 rfl (lv_room (Nat.le_of_ble_eq_true rfl)) dX0_ownerOf_37 ⟨Nat.le_of_ble_eq_true rfl, Nat.le_of_ble_eq_true rfl⟩) (fun r u1 H locs hp hW hS => ?_)
        obtain ⟨e9, hp⟩ := hp
        rw [e9] at hW
        refine lv_topi (fun x14 ex14 => ?_)
        rw [← ex14] at hp
        have hP15 := hp
        exact z_iret hx hb hr hK hS (Nat.le_of_ble_eq_true rfl) (Nat.le_of_ble_eq_true rfl) hlocks dX0_ownerOf_40 (shC c, ad, I, JX, PC c ad) hW ⟨rfl, (Or.inr ⟨hb1, by unfold zb_O; have q1 := zb_K_b (I := I) (a := a1.toInt) (I 26 4).toNatClampNeg; have q2 := z_clt (x := (I 26 4)) rfl (by omega); rw [if_pos (by omega)]; omega⟩)⟩
      · have g16 := z_f_nge rfl z_l512 c12
        refine lv_aload_n hx hb dX0_ownerOf_27 rfl (lv_at hl 1 rfl) ?_
        refine z_get (T := TX0) (N := 5) (ci := 0) (i := 26) (v := .ref (ad 29)) hx hb hts zj_X0_ownerOf_X0 hown hK hW rfl rfl 2 (by decide) (hts (.fieldLink RX0 18 "PetrolBoard$Coupons" "lentTo" "[I") (me_s (me_l (List.mem_of_getElem? (i := 0) rfl)))) (fun _ h => h) rfl dX0_ownerOf_28 ?_
        refine lv_iload_n hx hb dX0_ownerOf_31 rfl (lv_at hl 0 rfl) ?_
        refine z_iald (i := 29) hx hb hK hW rfl (z_ix rfl (by omega) (by omega)) dX0_ownerOf_32 ?_
        refine lv_topi (fun x17 ex17 => ?_)
        have hx19 : x3.toInt = zb_K I a1.toInt (I 26 4).toNatClampNeg := by omega
        have hv18 : (I 29 (zb_K I a1.toInt (I 26 4).toNatClampNeg).toNat).toInt = x17.toInt := by rw [ex17]; show _ = (I 29 x3.toInt.toNat).toInt; rw [hx19]
        refine lv_goto (tgt := 40) hx hb dX0_ownerOf_33 (by decide) ?_
        exact z_iret hx hb hr hK hS (Nat.le_of_ble_eq_true rfl) (Nat.le_of_ble_eq_true rfl) hlocks dX0_ownerOf_40 (shC c, ad, I, JX, PC c ad) hW ⟨rfl, (Or.inr ⟨hb1, by unfold zb_O; rw [if_neg (by omega)]; omega⟩)⟩
  · refine lv_if_ne (tgt := 10) hx hb dX0_ownerOf_5 (by decide) (fun c20 => absurd (by decide) c20) (fun c20 => ?_)
    refine lv_iconst (v := (-1)) hx hb dX0_ownerOf_8 (by decide) ?_
    exact z_iret hx hb hr hK hS (Nat.le_of_ble_eq_true rfl) (Nat.le_of_ble_eq_true rfl) hlocks dX0_ownerOf_9 (shC c, ad, I, JX, PC c ad) hW ⟨rfl, (Or.inl ⟨hb1, by decide⟩)⟩
set_option maxHeartbeats 8000000 in
set_option maxRecDepth 100000 in
theorem sx_X12_granted_g_q (l : Launch) (G : z_G) (ad : Nat → Nat) (I : z_I) (J : z_J) (hma : z_ima I) (hmb : z_imb I) (hmj : z_imj I) (hAtf : z_rg 11 0 288 I) (hAtm : z_rg 12 0 24 I) (hAjw : z_rg 59 0 29 I) (hNd : z_Nd I) (hAsf : z_rg 19 0 6200 I) (hAst : z_rg 20 0 6200 I) (hAsc : z_rg 18 (-1) 6199 I) (hEx : z_Ex I) (FF : Nat → Nat) (RS : Nat → List zm_row) (a1 : Int32) (q1 : 0 ≤ a1.toInt ∧ a1.toInt ≤ 59) (hb9 : zn_c I a1.toNatClampNeg) (hWm : zw_W I FF RS) : z_M l yX12_granted wsX12_granted { frames := 5, cells := 0, slots := 0, locals := 108 } [.ref (ad 0), .int a1] G (shM, ad, I, J, PM ad) (fun r u1 => ∃ (I1 : z_I) (J1 : z_J), u1 = (shM, ad, I1, J1, PM ad) ∧ z_ima I1 ∧ z_imb I1 ∧ z_imj I1 ∧ z_rg 11 0 288 I1 ∧ z_rg 12 0 24 I1 ∧ z_rg 59 0 29 I1 ∧ z_Nd I1 ∧ z_rg 19 0 6200 I1 ∧ z_rg 20 0 6200 I1 ∧ z_rg 18 (-1) 6199 I1 ∧ z_Ex I1 ∧ z_fr L_X12_granted_g I1 I ∧ zn_M I RS (I 59 a1.toNatClampNeg) (I 63 a1.toNatClampNeg) (I 65 a1.toNatClampNeg) (I 60 a1.toNatClampNeg) (I 61 a1.toNatClampNeg) (I 62 a1.toNatClampNeg) r.toInt) 0 0 := by
  intro sz
  refine z_headQ (cc := cX12_granted) (maxL := 3) (ret := (some .int)) (by decide) rfl (Nat.le_of_ble_eq_true rfl) ?_
  intro p e s m below meth c0 ls hIn hK hsz hW hl
  obtain ⟨hx, hb, hr, hml, hown, hts, hlocks, hname⟩ := hIn
  subst hsz
  have hown : s.vm.findClass RX12 = some m.cls := hown
  have hA : ∀ q : Nat, s.heap.size ≤ q → z_A (shM, ad, I, J, PM ad) s.heap.size q := fun q h => Or.inr h
  generalize hAe : z_A (shM, ad, I, J, PM ad) s.heap.size = A at *
  have hS : va_S A s.heap s.heap [] := va_S.rf
  have hl : lv_has ls 3 [(0, .ref (ad 0)), (1, .int a1)] := hl
  obtain ⟨hTT9, hkd9, hsz9⟩ := id hWm
  have nH9 := hma.2.1
  refine lv_aload_n hx hb dX12_granted_0 rfl (lv_at hl 0 rfl) ?_
  obtain ⟨bb1, bb2, bb3, bb4, bb5⟩ := hb9
  refine z_get (T := TX12) (N := 96) (ci := 12) (i := 0) (v := .ref (ad 63)) hx hb hts zj_X12_granted_X12 hown hK hW rfl rfl 88 (by decide) (hts (.fieldLink RX12 205 "PetrolBoardModel" "jDay" "[I") (me_s (me_l (me_l (List.mem_of_getElem? (i := 0) rfl))))) (fun _ h => h) rfl dX12_granted_1 ?_
  refine lv_iload_n hx hb dX12_granted_4 rfl (lv_at hl 1 rfl) ?_
  refine z_iald (i := 63) hx hb hK hW rfl (z_ix rfl (by omega) (by omega)) dX12_granted_5 ?_
  refine lv_topi (fun x1 ex1 => ?_)
  have hr2 : (I 63 a1.toNatClampNeg) = x1 := ex1.symm
  have hv3 : (I 63 a1.toNatClampNeg).toInt = x1.toInt := congrArg Int32.toInt hr2
  refine lv_bipush (v := 30) hx hb dX12_granted_6 (by decide) ?_
  refine lv_idiv hx hb dX12_granted_8 (by decide) ?_
  refine lv_topi (fun x4 ex4 => ?_)
  have tx4 := z_tdiv ex4 rfl z_l30 (by decide)
  refine lv_istore_n (lv' := [(2, .int x4), (0, .ref (ad 0)), (1, .int a1)]) hx hb dX12_granted_9 rfl hl (by decide) rfl (fun ls hl => ?_)
  refine lv_aload_n hx hb dX12_granted_10 rfl (lv_at hl 1 rfl) ?_
  refine lv_aload_n hx hb dX12_granted_11 rfl (lv_at hl 1 rfl) ?_
  refine z_get (T := TX12) (N := 96) (ci := 12) (i := 0) (v := .ref (ad 59)) hx hb hts zj_X12_granted_X12 hown hK hW rfl rfl 84 (by decide) (hts (.fieldLink RX12 193 "PetrolBoardModel" "jWho" "[I") (me_s (me_l (me_l (List.mem_of_getElem? (i := 1) rfl))))) (fun _ h => h) rfl dX12_granted_12 ?_
  refine lv_iload_n hx hb dX12_granted_15 rfl (lv_at hl 2 rfl) ?_
  refine z_iald (i := 59) hx hb hK hW rfl (z_ix rfl (by omega) (by omega)) dX12_granted_16 ?_
  refine lv_topi (fun x5 ex5 => ?_)
  have h6 : 0 ≤ x5.toInt ∧ x5.toInt ≤ 29 := by rw [ex5]; exact hAjw _
  have hr7 : (I 59 a1.toNatClampNeg) = x5 := ex5.symm
  have hv8 : (I 59 a1.toNatClampNeg).toInt = x5.toInt := congrArg Int32.toInt hr7
  refine lv_aload_n hx hb dX12_granted_17 rfl (lv_at hl 1 rfl) ?_
  refine lv_aload_n hx hb dX12_granted_18 rfl (lv_at hl 1 rfl) ?_
  refine z_get (T := TX12) (N := 96) (ci := 12) (i := 0) (v := .ref (ad 59)) hx hb hts zj_X12_granted_X12 hown hK hW rfl rfl 84 (by decide) (hts (.fieldLink RX12 193 "PetrolBoardModel" "jWho" "[I") (me_s (me_l (me_l (List.mem_of_getElem? (i := 1) rfl))))) (fun _ h => h) rfl dX12_granted_19 ?_
  refine lv_iload_n hx hb dX12_granted_22 rfl (lv_at hl 2 rfl) ?_
  refine z_iald (i := 59) hx hb hK hW rfl (z_ix rfl (by omega) (by omega)) dX12_granted_23 ?_
  refine z_topi (v := x5) ex5.symm ?_
  refine lv_aload_n hx hb dX12_granted_24 rfl (lv_at hl 1 rfl) ?_
  refine z_get (T := TX12) (N := 96) (ci := 12) (i := 0) (v := .ref (ad 63)) hx hb hts zj_X12_granted_X12 hown hK hW rfl rfl 88 (by decide) (hts (.fieldLink RX12 205 "PetrolBoardModel" "jDay" "[I") (me_s (me_l (me_l (List.mem_of_getElem? (i := 0) rfl))))) (fun _ h => h) rfl dX12_granted_25 ?_
  refine lv_iload_n hx hb dX12_granted_28 rfl (lv_at hl 2 rfl) ?_
  refine z_iald (i := 63) hx hb hK hW rfl (z_ix rfl (by omega) (by omega)) dX12_granted_29 ?_
  refine z_topi (v := x1) ex1.symm ?_
  refine lv_aload_n hx hb dX12_granted_30 rfl (lv_at hl 1 rfl) ?_
  refine z_get (T := TX12) (N := 96) (ci := 12) (i := 0) (v := .ref (ad 65)) hx hb hts zj_X12_granted_X12 hown hK hW rfl rfl 90 (by decide) (hts (.fieldLink RX12 211 "PetrolBoardModel" "jAsked" "[I") (me_s (me_l (me_l (List.mem_of_getElem? (i := 2) rfl))))) (fun _ h => h) rfl dX12_granted_31 ?_
  refine lv_iload_n hx hb dX12_granted_34 rfl (lv_at hl 2 rfl) ?_
  refine z_iald (i := 65) hx hb hK hW rfl (z_ix rfl (by omega) (by omega)) dX12_granted_35 ?_
  refine lv_topi (fun x9 ex9 => ?_)
  have hr10 : (I 65 a1.toNatClampNeg) = x9 := ex9.symm
  have hv11 : (I 65 a1.toNatClampNeg).toInt = x9.toInt := congrArg Int32.toInt hr10
  refine z_ci hW hS hA (va_runV (As := [.int x5, .int x1, .int x9]) (rest := [.int x5, .ref (ad 0)]) ⟨hx, hb, hml, hown, hts⟩ (sx_X12_kindOn_r l G ad I J ⟨(by show 0 ≤ (I 0 0).toInt ∧ (I 0 0).toInt ≤ 719; exact hma.1), (by show 0 ≤ (I 0 1).toInt ∧ (I 0 1).toInt ≤ 30; exact hma.2.1), (by show 0 ≤ (I 0 2).toInt ∧ (I 0 2).toInt ≤ 200; exact hma.2.2)⟩ x5 x1 x9 _) (cwV 3 hts gX12_granted_X12_kindOn rfl rfl rfl (by decide +kernel) ⟨Nat.le_of_ble_eq_true rfl, Nat.le_of_ble_eq_true rfl⟩) (z_preV (i := 0) hK hW rfl rfl) rfl rfl hl.1 rfl (lv_room (Nat.le_of_ble_eq_true rfl)) dX12_granted_36 ⟨Nat.le_of_ble_eq_true rfl, Nat.le_of_ble_eq_true rfl⟩) (fun r u1 H locs hp hW hS => ?_)
  obtain ⟨e9, hp⟩ := hp
  rw [e9] at hW
  refine lv_topi (fun x12 ex12 => ?_)
  have h13 := hp
  rw [← ex12] at h13
  refine lv_iload_n hx hb dX12_granted_39 rfl (lv_at hl 0 rfl) ?_
  refine lv_aload_n hx hb dX12_granted_40 rfl (lv_at hl 1 rfl) ?_
  refine z_get (T := TX12) (N := 96) (ci := 12) (i := 0) (v := .ref (ad 60)) hx hb hts zj_X12_granted_X12 hown hK hW rfl rfl 85 (by decide) (hts (.fieldLink RX12 196 "PetrolBoardModel" "jMiles" "[I") (me_s (me_l (me_l (List.mem_of_getElem? (i := 3) rfl))))) (fun _ h => h) rfl dX12_granted_41 ?_
  refine lv_iload_n hx hb dX12_granted_44 rfl (lv_at hl 2 rfl) ?_
  refine z_iald (i := 60) hx hb hK hW rfl (z_ix rfl (by omega) (by omega)) dX12_granted_45 ?_
  refine lv_topi (fun x14 ex14 => ?_)
  have hr15 : (I 60 a1.toNatClampNeg) = x14 := ex14.symm
  have hv16 : (I 60 a1.toNatClampNeg).toInt = x14.toInt := congrArg Int32.toInt hr15
  refine lv_aload_n hx hb dX12_granted_46 rfl (lv_at hl 1 rfl) ?_
  refine z_get (T := TX12) (N := 96) (ci := 12) (i := 0) (v := .ref (ad 61)) hx hb hts zj_X12_granted_X12 hown hK hW rfl rfl 86 (by decide) (hts (.fieldLink RX12 199 "PetrolBoardModel" "jPeople" "[I") (me_s (me_l (me_l (List.mem_of_getElem? (i := 4) rfl))))) (fun _ h => h) rfl dX12_granted_47 ?_
  refine lv_iload_n hx hb dX12_granted_50 rfl (lv_at hl 2 rfl) ?_
  refine z_iald (i := 61) hx hb hK hW rfl (z_ix rfl (by omega) (by omega)) dX12_granted_51 ?_
  refine lv_topi (fun x17 ex17 => ?_)
  have hr18 : (I 61 a1.toNatClampNeg) = x17 := ex17.symm
  have hv19 : (I 61 a1.toNatClampNeg).toInt = x17.toInt := congrArg Int32.toInt hr18
  refine lv_aload_n hx hb dX12_granted_52 rfl (lv_at hl 1 rfl) ?_
  refine z_get (T := TX12) (N := 96) (ci := 12) (i := 0) (v := .ref (ad 62)) hx hb hts zj_X12_granted_X12 hown hK hW rfl rfl 87 (by decide) (hts (.fieldLink RX12 202 "PetrolBoardModel" "jReason" "[I") (me_s (me_l (me_l (List.mem_of_getElem? (i := 5) rfl))))) (fun _ h => h) rfl dX12_granted_53 ?_
  refine lv_iload_n hx hb dX12_granted_56 rfl (lv_at hl 2 rfl) ?_
  refine z_iald (i := 62) hx hb hK hW rfl (z_ix rfl (by omega) (by omega)) dX12_granted_57 ?_
  refine lv_topi (fun x20 ex20 => ?_)
  have hr21 : (I 62 a1.toNatClampNeg) = x20 := ex20.symm
  have hv22 : (I 62 a1.toNatClampNeg).toInt = x20.toInt := congrArg Int32.toInt hr21
  refine z_cv hW hS hA (va_runV (As := [.int x5, .int x12, .int x4, .int x14, .int x17, .int x20]) (rest := []) ⟨hx, hb, hml, hown, hts⟩ (sx_X12_asked_x l G ad I J x5 x12 x4 x14 x17 x20 (by have nH9 := hma.2.1; omega) _) (cwV 6 hts gX12_granted_X12_asked rfl rfl rfl (by decide +kernel) ⟨Nat.le_of_ble_eq_true rfl, Nat.le_of_ble_eq_true rfl⟩) (z_preV (i := 0) hK hW rfl rfl) rfl rfl hl.1 rfl (lv_room (Nat.le_of_ble_eq_true rfl)) dX12_granted_58 ⟨Nat.le_of_ble_eq_true rfl, Nat.le_of_ble_eq_true rfl⟩) (fun u1 H locs hp hW hS => ?_)
  obtain ⟨I23, J25, e9, fI23, hp⟩ := hp
  rw [e9] at hW
  have f24 := z_fr_sub (L := L_X12_granted_g) z_fr_0 fI23 (by decide)
  have k26 : 0 ≤ (I23 0 0).toInt ∧ (I23 0 0).toInt ≤ 719 := by rw [fI23 0 0 (by decide)]; exact (by show 0 ≤ (I 0 0).toInt ∧ (I 0 0).toInt ≤ 719; exact hma.1)
  have k27 : 0 ≤ (I23 0 1).toInt ∧ (I23 0 1).toInt ≤ 30 := by rw [fI23 0 1 (by decide)]; exact (by show 0 ≤ (I 0 1).toInt ∧ (I 0 1).toInt ≤ 30; exact hma.2.1)
  have k28 : 0 ≤ (I23 0 2).toInt ∧ (I23 0 2).toInt ≤ 200 := by rw [fI23 0 2 (by decide)]; exact (by show 0 ≤ (I 0 2).toInt ∧ (I 0 2).toInt ≤ 200; exact hma.2.2)
  have k29 : 0 ≤ (I23 0 13).toInt ∧ (I23 0 13).toInt ≤ 12 := by rw [fI23 0 13 (by decide)]; exact (by show 0 ≤ (I 0 13).toInt ∧ (I 0 13).toInt ≤ 12; exact hmb.1)
  have k30 : 0 ≤ (I23 0 14).toInt ∧ (I23 0 14).toInt ≤ 288 := by rw [fI23 0 14 (by decide)]; exact (by show 0 ≤ (I 0 14).toInt ∧ (I 0 14).toInt ≤ 288; exact hmb.2)
  have k31 : 0 ≤ (I23 0 83).toInt ∧ (I23 0 83).toInt ≤ 60 := by rw [fI23 0 83 (by decide)]; exact (by show 0 ≤ (I 0 83).toInt ∧ (I 0 83).toInt ≤ 60; exact hmj)
  have hk32 := hp
  have hA9 : zw_A J25 = (zn_B I (I 59 a1.toNatClampNeg) (I 63 a1.toNatClampNeg) (I 65 a1.toNatClampNeg) (I 60 a1.toNatClampNeg) (I 61 a1.toNatClampNeg) (I 62 a1.toNatClampNeg)) := by
    rw [hk32, hr7, hr2, hr10, hr15, hr18, hr21]
    show zv_A _ _ _ _ _ _ _ = zv_A _ _ _ _ _ _ _
    rw [h13, show x4.toInt = x1.toInt / 30 by omega]
  have hsz := hsz9 x5.toNatClampNeg (by have := z_clt (x := x5) rfl (by omega); omega)
  have hkd := hkd9 x5.toInt x1.toInt x9.toInt
  have hbA : zv_bA (zw_A J25) := by rw [hA9, hr7, hr2, hr10, hr15, hr18, hr21]; exact zv_A_b (by omega) (by omega) (by omega) (by omega) (by omega) (by omega) (by omega)
  refine lv_aload_n hx hb dX12_granted_61 rfl (lv_at hl 1 rfl) ?_
  refine lv_aload_n hx hb dX12_granted_62 rfl (lv_at hl 1 rfl) ?_
  refine lv_iload_n hx hb dX12_granted_63 rfl (lv_at hl 0 rfl) ?_
  refine lv_aload_n hx hb dX12_granted_64 rfl (lv_at hl 1 rfl) ?_
  refine z_get (T := TX12) (N := 96) (ci := 12) (i := 0) (v := .ref (ad 65)) hx hb hts zj_X12_granted_X12 hown hK hW rfl rfl 90 (by decide) (hts (.fieldLink RX12 211 "PetrolBoardModel" "jAsked" "[I") (me_s (me_l (me_l (List.mem_of_getElem? (i := 2) rfl))))) (fun _ h => h) rfl dX12_granted_65 ?_
  refine lv_iload_n hx hb dX12_granted_68 rfl (lv_at hl 2 rfl) ?_
  refine z_iald (i := 65) hx hb hK hW rfl (z_ix rfl (by omega) (by omega)) dX12_granted_69 ?_
  refine lv_topi (fun x33 ex33 => ?_)
  have hr34 : (I 65 a1.toNatClampNeg) = x33 := (by rw [← f24 65 _ (z_wr_c (by decide))]; exact ex33.symm)
  have hv35 : (I 65 a1.toNatClampNeg).toInt = x33.toInt := congrArg Int32.toInt hr34
  refine z_ci hW hS hA (va_runV (As := [.int x4, .int x33]) (rest := [.ref (ad 0)]) ⟨hx, hb, hml, hown, hts⟩ (sx_X12_inForce_x l G ad I23 J25 ⟨(by show 0 ≤ (I23 0 13).toInt ∧ (I23 0 13).toInt ≤ 12; exact k29), (by show 0 ≤ (I23 0 14).toInt ∧ (I23 0 14).toInt ≤ 288; exact k30)⟩ x4 x33 _) (cwV 2 hts gX12_granted_X12_inForce rfl rfl rfl (by decide +kernel) ⟨Nat.le_of_ble_eq_true rfl, Nat.le_of_ble_eq_true rfl⟩) (z_preV (i := 0) hK hW rfl rfl) rfl rfl hl.1 rfl (lv_room (Nat.le_of_ble_eq_true rfl)) dX12_granted_70 ⟨Nat.le_of_ble_eq_true rfl, Nat.le_of_ble_eq_true rfl⟩) (fun r u1 H locs hp hW hS => ?_)
  obtain ⟨e9, hp⟩ := hp
  rw [e9] at hW
  refine lv_topi (fun x36 ex36 => ?_)
  rw [← ex36] at hp
  obtain ⟨hB38, h37⟩ := hp
  have hB39 : zi_B (zi_km I) (zi_kt I) x4.toInt x33.toInt (I 0 13).toNatClampNeg x36.toInt := by rw [show (I 0 13) = (I23 0 13) from (f24 0 13 (by decide)).symm]; exact zi_B_c (fun j _ => ⟨by unfold zi_km; rw [f24 13 j (z_wr_c (by decide))], by unfold zi_kt; rw [f24 14 j (z_wr_c (by decide))]⟩) hB38
  refine lv_iconst (v := 1) hx hb dX12_granted_73 (by decide) ?_
  refine z_ci hW hS hA (va_runV (As := [.int x36, .int 1]) (rest := []) ⟨hx, hb, hml, hown, hts⟩ (sx_X12_first_x l G ad I23 J25 ⟨(by show 0 ≤ (I23 0 13).toInt ∧ (I23 0 13).toInt ≤ 12; exact k29), (by show 0 ≤ (I23 0 14).toInt ∧ (I23 0 14).toInt ≤ 288; exact k30)⟩ (z_rg_fr hAtf fI23 (by decide)) (z_rg_fr hAtm fI23 (by decide)) (z_Nd_fr hNd fI23 (by decide)) (z_rg_fr hAsf fI23 (by decide)) (z_rg_fr hAst fI23 (by decide)) (z_rg_fr hAsc fI23 (by decide)) (z_Ex_fr hEx fI23 (by decide)) (RS x36.toNatClampNeg) (FF x36.toNatClampNeg) x36 1 (by omega) (by decide) (fun h0 => zw_T_c (hTT9 x36.toNatClampNeg (by have cz9 := z_clt (x := x36) rfl h0; have cx9 := z_clt (x := I 0 13) rfl hmb.1.1; rcases hB39 with ⟨z1, _⟩ | ⟨q9, z1, z2, _⟩ <;> omega)) (fun j => ⟨f24 11 j (z_wr_c (by decide)), f24 12 j (z_wr_c (by decide))⟩) (fun j => ⟨f24 15 j (z_wr_c (by decide)), f24 16 j (z_wr_c (by decide)), f24 17 j (z_wr_c (by decide)), f24 18 j (z_wr_c (by decide)), f24 19 j (z_wr_c (by decide)), f24 20 j (z_wr_c (by decide))⟩) (fun j => ⟨f24 21 j (z_wr_c (by decide)), f24 22 j (z_wr_c (by decide)), f24 23 j (z_wr_c (by decide))⟩)) hbA _) (cwV 2 hts gX12_granted_X12_first rfl rfl rfl (by decide +kernel) ⟨Nat.le_of_ble_eq_true rfl, Nat.le_of_ble_eq_true rfl⟩) (z_preV (i := 0) hK hW rfl rfl) rfl rfl hl.1 rfl (lv_room (Nat.le_of_ble_eq_true rfl)) dX12_granted_74 ⟨Nat.le_of_ble_eq_true rfl, Nat.le_of_ble_eq_true rfl⟩) (fun r u1 H locs hp hW hS => ?_)
  obtain ⟨I40, J42, e9, hI40mb, hI40Atf, hI40Atm, hI40Nd, hI40Asf, hI40Ast, hI40Asc, hI40Ex, fI40, hp⟩ := hp
  rw [e9] at hW
  have f41 := z_fr_sub (L := L_X12_granted_g) f24 fI40 (by decide)
  have k43 : 0 ≤ (I40 0 0).toInt ∧ (I40 0 0).toInt ≤ 719 := by rw [fI40 0 0 (by decide)]; exact (by show 0 ≤ (I23 0 0).toInt ∧ (I23 0 0).toInt ≤ 719; exact k26)
  have k44 : 0 ≤ (I40 0 1).toInt ∧ (I40 0 1).toInt ≤ 30 := by rw [fI40 0 1 (by decide)]; exact (by show 0 ≤ (I23 0 1).toInt ∧ (I23 0 1).toInt ≤ 30; exact k27)
  have k45 : 0 ≤ (I40 0 2).toInt ∧ (I40 0 2).toInt ≤ 200 := by rw [fI40 0 2 (by decide)]; exact (by show 0 ≤ (I23 0 2).toInt ∧ (I23 0 2).toInt ≤ 200; exact k28)
  have k46 : 0 ≤ (I40 0 83).toInt ∧ (I40 0 83).toInt ≤ 60 := by rw [fI40 0 83 (by decide)]; exact (by show 0 ≤ (I23 0 83).toInt ∧ (I23 0 83).toInt ≤ 60; exact k31)
  refine lv_topi (fun x47 ex47 => ?_)
  rw [← ex47] at hp
  obtain ⟨hf48, hg49, ha50⟩ := hp
  exact z_iret hx hb hr hK hS (Nat.le_of_ble_eq_true rfl) (Nat.le_of_ble_eq_true rfl) hlocks dX12_granted_77 (shM, ad, I40, J42, PM ad) hW ⟨I40, J42, rfl, ⟨(by show 0 ≤ (I40 0 0).toInt ∧ (I40 0 0).toInt ≤ 719; exact k43), (by show 0 ≤ (I40 0 1).toInt ∧ (I40 0 1).toInt ≤ 30; exact k44), (by show 0 ≤ (I40 0 2).toInt ∧ (I40 0 2).toInt ≤ 200; exact k45)⟩, ⟨(by show 0 ≤ (I40 0 13).toInt ∧ (I40 0 13).toInt ≤ 12; exact hI40mb.1), (by show 0 ≤ (I40 0 14).toInt ∧ (I40 0 14).toInt ≤ 288; exact hI40mb.2)⟩, (by show 0 ≤ (I40 0 83).toInt ∧ (I40 0 83).toInt ≤ 60; exact k46), hI40Atf, hI40Atm, (z_rg_fr (z_rg_fr hAjw fI23 (by decide)) fI40 (by decide)), hI40Nd, hI40Asf, hI40Ast, hI40Asc, hI40Ex, f41, (by by_cases q : x36.toInt < 0; (· exact ⟨x36.toInt, (show zi_B (zi_km I) (zi_kt I) ((I 63 a1.toNatClampNeg).toInt / 30) (I 65 a1.toNatClampNeg).toInt (I 0 13).toNatClampNeg _ by rw [show (I 63 a1.toNatClampNeg).toInt / 30 = x4.toInt by omega, hr34]; exact hB39), Or.inl ⟨by omega, hf48 q⟩⟩); (· exact ⟨x36.toInt, (show zi_B (zi_km I) (zi_kt I) ((I 63 a1.toNatClampNeg).toInt / 30) (I 65 a1.toNatClampNeg).toInt (I 0 13).toNatClampNeg _ by rw [show (I 63 a1.toNatClampNeg).toInt / 30 = x4.toInt by omega, hr34]; exact hB39), Or.inr ⟨x36.toNatClampNeg, by have cz9 := z_clt (x := x36) rfl (by omega); omega, by have cz9 := z_clt (x := x36) rfl (by omega); rcases hB39 with ⟨z1, _⟩ | ⟨q9, z1, z2, _⟩ <;> omega, by rw [hg49 (by omega), show (300 : Int) + (1 : Int32).toInt = 301 by decide, hA9]⟩⟩))⟩
set_option maxHeartbeats 8000000 in
set_option maxRecDepth 100000 in
theorem sx_X11_ask_g_q (l : Launch) (G : z_G) (ad : Nat → Nat) (c : z_C) (I : z_I) (hO : z_iO I) (hH : z_iH I) (hJ : z_iJ I) (hB : z_iB I) (SS : Nat → List zp_T) (a1 : Int32) (a2 : Int32) (a3 : Int32) (a4 : Int32) (a5 : Int32) (a6 : Int32) (hc : z_okc c) (h10 : c.1 ≤ 10) (hWu : zv_W c I SS) : z_M l yX11_ask wsX11_ask { frames := 6, cells := 0, slots := 0, locals := 160 } [.ref (ad 0), .int a1, .int a2, .int a3, .int a4, .int a5, .int a6] G (shC c, ad, I, JX, PC c ad) (fun r u1 => ∃ I1 : z_I, u1 = (shC c, ad, I1, JX, PC c ad) ∧ z_iO I1 ∧ z_iH I1 ∧ z_iJ I1 ∧ z_iB I1 ∧ z_fr L_X11_ask_g I1 I ∧ (((0 ≤ a1.toInt ∧ a1.toInt < (I 1 5).toInt ∧ 1 ≤ a2.toInt ∧ a2.toInt ≤ 500 ∧ 1 ≤ a3.toInt ∧ a3.toInt ≤ 8 ∧ 0 ≤ a4.toInt ∧ a4.toInt ≤ 4 ∧ (I 0 0).toInt ≤ a5.toInt ∧ a5.toInt ≤ 719 ∧ 0 ≤ a6.toInt ∧ a6.toInt ≤ 99 ∧ a6.toInt / 10 ≠ a6.toInt % 10 ∧ (I 60 9).toInt < 60) ∧ r.toInt = (I 60 9).toInt ∧ (I1 60 9).toInt = (I 60 9).toInt + 1 ∧ ∃ gr : Int32, zn_X c I SS a1 a5 (I 0 0) a2 a3 a4 gr.toInt ∧ zn_rX I1 I (I 60 9).toNatClampNeg a1 a2 a3 a4 a5 a6 (I 0 0) gr gr) ∨ (¬ (0 ≤ a1.toInt ∧ a1.toInt < (I 1 5).toInt ∧ 1 ≤ a2.toInt ∧ a2.toInt ≤ 500 ∧ 1 ≤ a3.toInt ∧ a3.toInt ≤ 8 ∧ 0 ≤ a4.toInt ∧ a4.toInt ≤ 4 ∧ (I 0 0).toInt ≤ a5.toInt ∧ a5.toInt ≤ 719 ∧ 0 ≤ a6.toInt ∧ a6.toInt ≤ 99 ∧ a6.toInt / 10 ≠ a6.toInt % 10 ∧ (I 60 9).toInt < 60) ∧ r.toInt = -1 ∧ (I1 60 9).toInt = (I 60 9).toInt ∧ zn_sX I1 I))) 0 0 := sorry
set_option maxHeartbeats 8000000 in
set_option maxRecDepth 100000 in
theorem sx_X12_ask_g_q (l : Launch) (G : z_G) (ad : Nat → Nat) (I : z_I) (J : z_J) (hma : z_ima I) (hmb : z_imb I) (hmj : z_imj I) (hAtf : z_rg 11 0 288 I) (hAtm : z_rg 12 0 24 I) (hAjw : z_rg 59 0 29 I) (hNd : z_Nd I) (hAsf : z_rg 19 0 6200 I) (hAst : z_rg 20 0 6200 I) (hAsc : z_rg 18 (-1) 6199 I) (hEx : z_Ex I) (FF : Nat → Nat) (RS : Nat → List zm_row) (a1 : Int32) (a2 : Int32) (a3 : Int32) (a4 : Int32) (a5 : Int32) (a6 : Int32) (hWm : zw_W I FF RS) : z_M l yX12_ask wsX12_ask { frames := 6, cells := 0, slots := 0, locals := 130 } [.ref (ad 0), .int a1, .int a2, .int a3, .int a4, .int a5, .int a6] G (shM, ad, I, J, PM ad) (fun r u1 => ∃ (I1 : z_I) (J1 : z_J), u1 = (shM, ad, I1, J1, PM ad) ∧ z_ima I1 ∧ z_imb I1 ∧ z_imj I1 ∧ z_rg 11 0 288 I1 ∧ z_rg 12 0 24 I1 ∧ z_rg 59 0 29 I1 ∧ z_Nd I1 ∧ z_rg 19 0 6200 I1 ∧ z_rg 20 0 6200 I1 ∧ z_rg 18 (-1) 6199 I1 ∧ z_Ex I1 ∧ z_fr L_X12_ask_g I1 I ∧ (((0 ≤ a1.toInt ∧ a1.toInt < (I 0 1).toInt ∧ 1 ≤ a2.toInt ∧ a2.toInt ≤ 500 ∧ 1 ≤ a3.toInt ∧ a3.toInt ≤ 8 ∧ 0 ≤ a4.toInt ∧ a4.toInt ≤ 4 ∧ (I 0 0).toInt ≤ a5.toInt ∧ a5.toInt ≤ 719 ∧ 0 ≤ a6.toInt ∧ a6.toInt ≤ 99 ∧ a6.toInt / 10 ≠ a6.toInt % 10 ∧ (I 0 83).toInt < 60) ∧ r.toInt = (I 0 83).toInt ∧ (I1 0 83).toInt = (I 0 83).toInt + 1 ∧ ∃ gr : Int32, zn_M I RS a1 a5 (I 0 0) a2 a3 a4 gr.toInt ∧ zn_rM I1 I (I 0 83).toNatClampNeg a1 a2 a3 a4 a5 a6 (I 0 0) gr gr) ∨ (¬ (0 ≤ a1.toInt ∧ a1.toInt < (I 0 1).toInt ∧ 1 ≤ a2.toInt ∧ a2.toInt ≤ 500 ∧ 1 ≤ a3.toInt ∧ a3.toInt ≤ 8 ∧ 0 ≤ a4.toInt ∧ a4.toInt ≤ 4 ∧ (I 0 0).toInt ≤ a5.toInt ∧ a5.toInt ≤ 719 ∧ 0 ≤ a6.toInt ∧ a6.toInt ≤ 99 ∧ a6.toInt / 10 ≠ a6.toInt % 10 ∧ (I 0 83).toInt < 60) ∧ r.toInt = -1 ∧ (I1 0 83).toInt = (I 0 83).toInt ∧ zn_sM I1 I))) 0 0 := by
  intro sz
  refine z_headQ (cc := cX12_ask) (maxL := 8) (ret := (some .int)) (by decide) rfl (Nat.le_of_ble_eq_true rfl) ?_
  intro p e s m below meth c0 ls hIn hK hsz hW hl
  obtain ⟨hx, hb, hr, hml, hown, hts, hlocks, hname⟩ := hIn
  subst hsz
  have hown : s.vm.findClass RX12 = some m.cls := hown
  have hA : ∀ q : Nat, s.heap.size ≤ q → z_A (shM, ad, I, J, PM ad) s.heap.size q := fun q h => Or.inr h
  generalize hAe : z_A (shM, ad, I, J, PM ad) s.heap.size = A at *
  have hS : va_S A s.heap s.heap [] := va_S.rf
  have hl : lv_has ls 8 [(0, .ref (ad 0)), (1, .int a1), (2, .int a2), (3, .int a3), (4, .int a4), (5, .int a5), (6, .int a6)] := hl
  refine lv_aload_n hx hb dX12_ask_0 rfl (lv_at hl 0 rfl) ?_
  refine lv_iload_n hx hb dX12_ask_1 rfl (lv_at hl 1 rfl) ?_
  refine z_ci hW hS hA (va_runV (As := [.int a1]) (rest := []) ⟨hx, hb, hml, hown, hts⟩ (sx_X12_isHolder_e l G ad I J ⟨(by show 0 ≤ (I 0 0).toInt ∧ (I 0 0).toInt ≤ 719; exact hma.1), (by show 0 ≤ (I 0 1).toInt ∧ (I 0 1).toInt ≤ 30; exact hma.2.1), (by show 0 ≤ (I 0 2).toInt ∧ (I 0 2).toInt ≤ 200; exact hma.2.2)⟩ a1 _) (cwV 1 hts gX12_ask_X12_isHolder rfl rfl rfl (by decide +kernel) ⟨Nat.le_of_ble_eq_true rfl, Nat.le_of_ble_eq_true rfl⟩) (z_preV (i := 0) hK hW rfl rfl) rfl rfl hl.1 rfl (lv_room (Nat.le_of_ble_eq_true rfl)) dX12_ask_2 ⟨Nat.le_of_ble_eq_true rfl, Nat.le_of_ble_eq_true rfl⟩) (fun r u1 H locs hp hW hS => ?_)
  obtain ⟨e9, hp⟩ := hp
  rw [e9] at hW
  rcases hp with ⟨rfl, h1⟩ | ⟨rfl, h1⟩
  · have h2 := h1
    have r3 : 0 ≤ (I 0 1).toInt ∧ (I 0 1).toInt ≤ 30 := hma.2.1
    refine lv_if_eq (tgt := 87) hx hb dX12_ask_5 (by decide) (fun c4 => absurd c4 (by decide)) (fun c4 => ?_)
    refine lv_iload_n hx hb dX12_ask_8 rfl (lv_at hl 2 rfl) ?_
    refine lv_iconst (v := 1) hx hb dX12_ask_9 (by decide) ?_
    refine lv_sipush (v := 500) hx hb dX12_ask_10 (by decide) ?_
    refine z_ci hW hS hA (va_runS (As := [.int a2, .int 1, .int 500]) (rest := []) ⟨hx, hb, hml, hown, hts⟩ (sx_X12_within_e l G ad I J  a2 1 500 _) (va_cwS 3 hts gX12_ask_X12_within rfl rfl rfl (by decide +kernel) ⟨Nat.le_of_ble_eq_true rfl, Nat.le_of_ble_eq_true rfl⟩) (z_preS hK hW) rfl rfl hl.1 rfl (lv_room (Nat.le_of_ble_eq_true rfl)) dX12_ask_13 ⟨Nat.le_of_ble_eq_true rfl, Nat.le_of_ble_eq_true rfl⟩) (fun r u1 H locs hp hW hS => ?_)
    obtain ⟨e9, hp⟩ := hp
    rw [e9] at hW
    rcases hp with ⟨rfl, h5⟩ | ⟨rfl, h5⟩
    · have h6 := h5
      have z7 := z_l1
      have z8 := z_l500
      refine lv_if_eq (tgt := 87) hx hb dX12_ask_16 (by decide) (fun c9 => absurd c9 (by decide)) (fun c9 => ?_)
      refine lv_iload_n hx hb dX12_ask_19 rfl (lv_at hl 3 rfl) ?_
      refine lv_iconst (v := 1) hx hb dX12_ask_20 (by decide) ?_
      refine lv_bipush (v := 8) hx hb dX12_ask_21 (by decide) ?_
      refine z_ci hW hS hA (va_runS (As := [.int a3, .int 1, .int 8]) (rest := []) ⟨hx, hb, hml, hown, hts⟩ (sx_X12_within_e l G ad I J  a3 1 8 _) (va_cwS 3 hts gX12_ask_X12_within rfl rfl rfl (by decide +kernel) ⟨Nat.le_of_ble_eq_true rfl, Nat.le_of_ble_eq_true rfl⟩) (z_preS hK hW) rfl rfl hl.1 rfl (lv_room (Nat.le_of_ble_eq_true rfl)) dX12_ask_23 ⟨Nat.le_of_ble_eq_true rfl, Nat.le_of_ble_eq_true rfl⟩) (fun r u1 H locs hp hW hS => ?_)
      obtain ⟨e9, hp⟩ := hp
      rw [e9] at hW
      rcases hp with ⟨rfl, h11⟩ | ⟨rfl, h11⟩
      · have h12 := h11
        have z13 := z_l1
        have z14 := z_l8
        refine lv_if_eq (tgt := 87) hx hb dX12_ask_26 (by decide) (fun c15 => absurd c15 (by decide)) (fun c15 => ?_)
        refine lv_iload hx hb dX12_ask_29 (lv_at hl 4 rfl) ?_
        refine lv_iconst (v := 0) hx hb dX12_ask_31 (by decide) ?_
        refine lv_iconst (v := 4) hx hb dX12_ask_32 (by decide) ?_
        refine z_ci hW hS hA (va_runS (As := [.int a4, .int 0, .int 4]) (rest := []) ⟨hx, hb, hml, hown, hts⟩ (sx_X12_within_e l G ad I J  a4 0 4 _) (va_cwS 3 hts gX12_ask_X12_within rfl rfl rfl (by decide +kernel) ⟨Nat.le_of_ble_eq_true rfl, Nat.le_of_ble_eq_true rfl⟩) (z_preS hK hW) rfl rfl hl.1 rfl (lv_room (Nat.le_of_ble_eq_true rfl)) dX12_ask_33 ⟨Nat.le_of_ble_eq_true rfl, Nat.le_of_ble_eq_true rfl⟩) (fun r u1 H locs hp hW hS => ?_)
        obtain ⟨e9, hp⟩ := hp
        rw [e9] at hW
        rcases hp with ⟨rfl, h16⟩ | ⟨rfl, h16⟩
        · have h17 := h16
          have z18 := z_l0
          have z19 := z_l4
          refine lv_if_eq (tgt := 87) hx hb dX12_ask_36 (by decide) (fun c20 => absurd c20 (by decide)) (fun c20 => ?_)
          refine lv_iload hx hb dX12_ask_39 (lv_at hl 5 rfl) ?_
          refine lv_aload_n hx hb dX12_ask_41 rfl (lv_at hl 0 rfl) ?_
          have r21 : 0 ≤ (I 0 0).toInt ∧ (I 0 0).toInt ≤ 719 := hma.1
          refine z_get (T := TX12) (N := 96) (ci := 12) (i := 0) (v := .int (I 0 0)) hx hb hts zj_X12_ask_X12 hown hK hW rfl rfl 0 (by decide) (hts (.fieldLink RX12 232 "PetrolBoardModel" "today" "I") (me_s (me_l (me_l (List.mem_of_getElem? (i := 0) rfl))))) (fun _ h => h) rfl dX12_ask_42 ?_
          refine lv_sipush (v := 719) hx hb dX12_ask_45 (by decide) ?_
          refine z_ci hW hS hA (va_runS (As := [.int a5, .int (I 0 0), .int 719]) (rest := []) ⟨hx, hb, hml, hown, hts⟩ (sx_X12_within_e l G ad I J  a5 (I 0 0) 719 _) (va_cwS 3 hts gX12_ask_X12_within rfl rfl rfl (by decide +kernel) ⟨Nat.le_of_ble_eq_true rfl, Nat.le_of_ble_eq_true rfl⟩) (z_preS hK hW) rfl rfl hl.1 rfl (lv_room (Nat.le_of_ble_eq_true rfl)) dX12_ask_48 ⟨Nat.le_of_ble_eq_true rfl, Nat.le_of_ble_eq_true rfl⟩) (fun r u1 H locs hp hW hS => ?_)
          obtain ⟨e9, hp⟩ := hp
          rw [e9] at hW
          rcases hp with ⟨rfl, h22⟩ | ⟨rfl, h22⟩
          · have h23 := h22
            have z24 := z_l719
            refine lv_if_eq (tgt := 87) hx hb dX12_ask_51 (by decide) (fun c25 => absurd c25 (by decide)) (fun c25 => ?_)
            refine lv_iload hx hb dX12_ask_54 (lv_at hl 6 rfl) ?_
            refine lv_iconst (v := 0) hx hb dX12_ask_56 (by decide) ?_
            refine lv_bipush (v := 99) hx hb dX12_ask_57 (by decide) ?_
            refine z_ci hW hS hA (va_runS (As := [.int a6, .int 0, .int 99]) (rest := []) ⟨hx, hb, hml, hown, hts⟩ (sx_X12_within_e l G ad I J  a6 0 99 _) (va_cwS 3 hts gX12_ask_X12_within rfl rfl rfl (by decide +kernel) ⟨Nat.le_of_ble_eq_true rfl, Nat.le_of_ble_eq_true rfl⟩) (z_preS hK hW) rfl rfl hl.1 rfl (lv_room (Nat.le_of_ble_eq_true rfl)) dX12_ask_59 ⟨Nat.le_of_ble_eq_true rfl, Nat.le_of_ble_eq_true rfl⟩) (fun r u1 H locs hp hW hS => ?_)
            obtain ⟨e9, hp⟩ := hp
            rw [e9] at hW
            rcases hp with ⟨rfl, h26⟩ | ⟨rfl, h26⟩
            · have h27 := h26
              have z28 := z_l0
              have z29 := z_l99
              refine lv_if_eq (tgt := 87) hx hb dX12_ask_62 (by decide) (fun c30 => absurd c30 (by decide)) (fun c30 => ?_)
              refine lv_iload hx hb dX12_ask_65 (lv_at hl 6 rfl) ?_
              refine lv_bipush (v := 10) hx hb dX12_ask_67 (by decide) ?_
              refine lv_idiv hx hb dX12_ask_69 (by decide) ?_
              refine lv_topi (fun x31 ex31 => ?_)
              have tx31 := z_tdiv ex31 rfl z_l10 (by decide)
              refine lv_iload hx hb dX12_ask_70 (lv_at hl 6 rfl) ?_
              refine lv_bipush (v := 10) hx hb dX12_ask_72 (by decide) ?_
              refine lv_irem hx hb dX12_ask_74 (by decide) ?_
              refine lv_topi (fun x32 ex32 => ?_)
              have tx32 := z_trem ex32 rfl z_l10 (by decide)
              refine lv_icmp_eq (tgt := 87) hx hb dX12_ask_75 (by decide) (fun c33 => ?_) (fun c33 => ?_)
              · have g34 := z_f_eq rfl rfl c33
                refine lv_iconst (v := (-1)) hx hb dX12_ask_87 (by decide) ?_
                exact z_iret hx hb hr hK hS (Nat.le_of_ble_eq_true rfl) (Nat.le_of_ble_eq_true rfl) hlocks dX12_ask_88 (shM, ad, I, J, PM ad) hW ⟨I, J, rfl, ⟨(by show 0 ≤ (I 0 0).toInt ∧ (I 0 0).toInt ≤ 719; exact hma.1), (by show 0 ≤ (I 0 1).toInt ∧ (I 0 1).toInt ≤ 30; exact hma.2.1), (by show 0 ≤ (I 0 2).toInt ∧ (I 0 2).toInt ≤ 200; exact hma.2.2)⟩, ⟨(by show 0 ≤ (I 0 13).toInt ∧ (I 0 13).toInt ≤ 12; exact hmb.1), (by show 0 ≤ (I 0 14).toInt ∧ (I 0 14).toInt ≤ 288; exact hmb.2)⟩, (by show 0 ≤ (I 0 83).toInt ∧ (I 0 83).toInt ≤ 60; exact hmj), hAtf, hAtm, hAjw, hNd, hAsf, hAst, hAsc, hEx, z_fr_0, (Or.inr ⟨by omega, by decide, (by show (I 0 83).toInt = (I 0 83).toInt; omega), (fun j => ⟨rfl, rfl, rfl, rfl, rfl, rfl, rfl, rfl, rfl⟩)⟩)⟩
              · have g35 := z_f_ne rfl rfl c33
                refine lv_aload_n hx hb dX12_ask_78 rfl (lv_at hl 0 rfl) ?_
                have r36 : 0 ≤ (I 0 83).toInt ∧ (I 0 83).toInt ≤ 60 := hmj
                refine z_get (T := TX12) (N := 96) (ci := 12) (i := 0) (v := .int (I 0 83)) hx hb hts zj_X12_ask_X12 hown hK hW rfl rfl 83 (by decide) (hts (.fieldLink RX12 505 "PetrolBoardModel" "journeys" "I") (me_s (me_l (me_l (List.mem_of_getElem? (i := 1) rfl))))) (fun _ h => h) rfl dX12_ask_79 ?_
                refine lv_bipush (v := 60) hx hb dX12_ask_82 (by decide) ?_
                refine lv_icmp_ne (tgt := 89) hx hb dX12_ask_84 (by decide) (fun c37 => ?_) (fun c37 => ?_)
                · have g38 := z_f_ne rfl z_l60 c37
                  refine lv_aload_n hx hb dX12_ask_89 rfl (lv_at hl 0 rfl) ?_
                  refine z_get (T := TX12) (N := 96) (ci := 12) (i := 0) (v := .int (I 0 83)) hx hb hts zj_X12_ask_X12 hown hK hW rfl rfl 83 (by decide) (hts (.fieldLink RX12 505 "PetrolBoardModel" "journeys" "I") (me_s (me_l (me_l (List.mem_of_getElem? (i := 1) rfl))))) (fun _ h => h) rfl dX12_ask_90 ?_
                  refine lv_istore (lv' := [(7, .int (I 0 83)), (0, .ref (ad 0)), (1, .int a1), (2, .int a2), (3, .int a3), (4, .int a4), (5, .int a5), (6, .int a6)]) hx hb dX12_ask_93 hl (by decide) rfl (fun ls hl => ?_)
                  refine lv_aload_n hx hb dX12_ask_95 rfl (lv_at hl 1 rfl) ?_
                  refine z_get (T := TX12) (N := 96) (ci := 12) (i := 0) (v := .ref (ad 59)) hx hb hts zj_X12_ask_X12 hown hK hW rfl rfl 84 (by decide) (hts (.fieldLink RX12 193 "PetrolBoardModel" "jWho" "[I") (me_s (me_l (me_l (List.mem_of_getElem? (i := 2) rfl))))) (fun _ h => h) rfl dX12_ask_96 ?_
                  refine lv_iload hx hb dX12_ask_99 (lv_at hl 0 rfl) ?_
                  refine lv_iload_n hx hb dX12_ask_101 rfl (lv_at hl 2 rfl) ?_
                  refine z_iast (i := 59) hx hb hK hW hS rfl (z_ix rfl (by omega) (by omega)) dX12_ask_102 (fun H locs hz1 hW hS => ?_)
                  obtain ⟨I39, eI39⟩ : ∃ K : z_I, K = z_up I 59 (I 0 83).toNatClampNeg a1 := ⟨_, rfl⟩
                  rw [← eI39] at hW
                  have f40 := z_fr_a z_fr_0 (show z_wa L_X12_ask_g 59 = true by decide) eI39
                  have a41 := z_rg_n hAtf (by decide) eI39
                  have a42 := z_rg_n hAtm (by decide) eI39
                  have a43 := z_rg_a hAjw (by omega) eI39
                  have a44 := z_Nd_n hNd (by decide) eI39
                  have a45 := z_rg_n hAsf (by decide) eI39
                  have a46 := z_rg_n hAst (by decide) eI39
                  have a47 := z_rg_n hAsc (by decide) eI39
                  have a48 := z_Ex_n hEx (by decide) eI39
                  refine lv_aload_n hx hb dX12_ask_103 rfl (lv_at hl 1 rfl) ?_
                  refine z_get (T := TX12) (N := 96) (ci := 12) (i := 0) (v := .ref (ad 60)) hx hb hts zj_X12_ask_X12 hown hK hW rfl rfl 85 (by decide) (hts (.fieldLink RX12 196 "PetrolBoardModel" "jMiles" "[I") (me_s (me_l (me_l (List.mem_of_getElem? (i := 3) rfl))))) (fun _ h => h) rfl dX12_ask_104 ?_
                  refine lv_iload hx hb dX12_ask_107 (lv_at hl 0 rfl) ?_
                  refine lv_iload_n hx hb dX12_ask_109 rfl (lv_at hl 3 rfl) ?_
                  refine z_iast (i := 60) hx hb hK hW hS rfl (z_ix rfl (by omega) (by omega)) dX12_ask_110 (fun H locs hz1 hW hS => ?_)
                  obtain ⟨I49, eI49⟩ : ∃ K : z_I, K = z_up I39 60 (I 0 83).toNatClampNeg a2 := ⟨_, rfl⟩
                  rw [← eI49] at hW
                  have f50 := z_fr_a f40 (show z_wa L_X12_ask_g 60 = true by decide) eI49
                  have a51 := z_rg_n a41 (by decide) eI49
                  have a52 := z_rg_n a42 (by decide) eI49
                  have a53 := z_rg_n a43 (by decide) eI49
                  have a54 := z_Nd_n a44 (by decide) eI49
                  have a55 := z_rg_n a45 (by decide) eI49
                  have a56 := z_rg_n a46 (by decide) eI49
                  have a57 := z_rg_n a47 (by decide) eI49
                  have a58 := z_Ex_n a48 (by decide) eI49
                  refine lv_aload_n hx hb dX12_ask_111 rfl (lv_at hl 1 rfl) ?_
                  refine z_get (T := TX12) (N := 96) (ci := 12) (i := 0) (v := .ref (ad 61)) hx hb hts zj_X12_ask_X12 hown hK hW rfl rfl 86 (by decide) (hts (.fieldLink RX12 199 "PetrolBoardModel" "jPeople" "[I") (me_s (me_l (me_l (List.mem_of_getElem? (i := 4) rfl))))) (fun _ h => h) rfl dX12_ask_112 ?_
                  refine lv_iload hx hb dX12_ask_115 (lv_at hl 0 rfl) ?_
                  refine lv_iload_n hx hb dX12_ask_117 rfl (lv_at hl 4 rfl) ?_
                  refine z_iast (i := 61) hx hb hK hW hS rfl (z_ix rfl (by omega) (by omega)) dX12_ask_118 (fun H locs hz1 hW hS => ?_)
                  obtain ⟨I59, eI59⟩ : ∃ K : z_I, K = z_up I49 61 (I 0 83).toNatClampNeg a3 := ⟨_, rfl⟩
                  rw [← eI59] at hW
                  have f60 := z_fr_a f50 (show z_wa L_X12_ask_g 61 = true by decide) eI59
                  have a61 := z_rg_n a51 (by decide) eI59
                  have a62 := z_rg_n a52 (by decide) eI59
                  have a63 := z_rg_n a53 (by decide) eI59
                  have a64 := z_Nd_n a54 (by decide) eI59
                  have a65 := z_rg_n a55 (by decide) eI59
                  have a66 := z_rg_n a56 (by decide) eI59
                  have a67 := z_rg_n a57 (by decide) eI59
                  have a68 := z_Ex_n a58 (by decide) eI59
                  refine lv_aload_n hx hb dX12_ask_119 rfl (lv_at hl 1 rfl) ?_
                  refine z_get (T := TX12) (N := 96) (ci := 12) (i := 0) (v := .ref (ad 62)) hx hb hts zj_X12_ask_X12 hown hK hW rfl rfl 87 (by decide) (hts (.fieldLink RX12 202 "PetrolBoardModel" "jReason" "[I") (me_s (me_l (me_l (List.mem_of_getElem? (i := 5) rfl))))) (fun _ h => h) rfl dX12_ask_120 ?_
                  refine lv_iload hx hb dX12_ask_123 (lv_at hl 0 rfl) ?_
                  refine lv_iload hx hb dX12_ask_125 (lv_at hl 5 rfl) ?_
                  refine z_iast (i := 62) hx hb hK hW hS rfl (z_ix rfl (by omega) (by omega)) dX12_ask_127 (fun H locs hz1 hW hS => ?_)
                  obtain ⟨I69, eI69⟩ : ∃ K : z_I, K = z_up I59 62 (I 0 83).toNatClampNeg a4 := ⟨_, rfl⟩
                  rw [← eI69] at hW
                  have f70 := z_fr_a f60 (show z_wa L_X12_ask_g 62 = true by decide) eI69
                  have a71 := z_rg_n a61 (by decide) eI69
                  have a72 := z_rg_n a62 (by decide) eI69
                  have a73 := z_rg_n a63 (by decide) eI69
                  have a74 := z_Nd_n a64 (by decide) eI69
                  have a75 := z_rg_n a65 (by decide) eI69
                  have a76 := z_rg_n a66 (by decide) eI69
                  have a77 := z_rg_n a67 (by decide) eI69
                  have a78 := z_Ex_n a68 (by decide) eI69
                  refine lv_aload_n hx hb dX12_ask_128 rfl (lv_at hl 1 rfl) ?_
                  refine z_get (T := TX12) (N := 96) (ci := 12) (i := 0) (v := .ref (ad 63)) hx hb hts zj_X12_ask_X12 hown hK hW rfl rfl 88 (by decide) (hts (.fieldLink RX12 205 "PetrolBoardModel" "jDay" "[I") (me_s (me_l (me_l (List.mem_of_getElem? (i := 6) rfl))))) (fun _ h => h) rfl dX12_ask_129 ?_
                  refine lv_iload hx hb dX12_ask_132 (lv_at hl 0 rfl) ?_
                  refine lv_iload hx hb dX12_ask_134 (lv_at hl 6 rfl) ?_
                  refine z_iast (i := 63) hx hb hK hW hS rfl (z_ix rfl (by omega) (by omega)) dX12_ask_136 (fun H locs hz1 hW hS => ?_)
                  obtain ⟨I79, eI79⟩ : ∃ K : z_I, K = z_up I69 63 (I 0 83).toNatClampNeg a5 := ⟨_, rfl⟩
                  rw [← eI79] at hW
                  have f80 := z_fr_a f70 (show z_wa L_X12_ask_g 63 = true by decide) eI79
                  have a81 := z_rg_n a71 (by decide) eI79
                  have a82 := z_rg_n a72 (by decide) eI79
                  have a83 := z_rg_n a73 (by decide) eI79
                  have a84 := z_Nd_n a74 (by decide) eI79
                  have a85 := z_rg_n a75 (by decide) eI79
                  have a86 := z_rg_n a76 (by decide) eI79
                  have a87 := z_rg_n a77 (by decide) eI79
                  have a88 := z_Ex_n a78 (by decide) eI79
                  refine lv_aload_n hx hb dX12_ask_137 rfl (lv_at hl 1 rfl) ?_
                  refine z_get (T := TX12) (N := 96) (ci := 12) (i := 0) (v := .ref (ad 64)) hx hb hts zj_X12_ask_X12 hown hK hW rfl rfl 89 (by decide) (hts (.fieldLink RX12 208 "PetrolBoardModel" "jWay" "[I") (me_s (me_l (me_l (List.mem_of_getElem? (i := 7) rfl))))) (fun _ h => h) rfl dX12_ask_138 ?_
                  refine lv_iload hx hb dX12_ask_141 (lv_at hl 0 rfl) ?_
                  refine lv_iload hx hb dX12_ask_143 (lv_at hl 7 rfl) ?_
                  refine z_iast (i := 64) hx hb hK hW hS rfl (z_ix rfl (by omega) (by omega)) dX12_ask_145 (fun H locs hz1 hW hS => ?_)
                  obtain ⟨I89, eI89⟩ : ∃ K : z_I, K = z_up I79 64 (I 0 83).toNatClampNeg a6 := ⟨_, rfl⟩
                  rw [← eI89] at hW
                  have f90 := z_fr_a f80 (show z_wa L_X12_ask_g 64 = true by decide) eI89
                  have a91 := z_rg_n a81 (by decide) eI89
                  have a92 := z_rg_n a82 (by decide) eI89
                  have a93 := z_rg_n a83 (by decide) eI89
                  have a94 := z_Nd_n a84 (by decide) eI89
                  have a95 := z_rg_n a85 (by decide) eI89
                  have a96 := z_rg_n a86 (by decide) eI89
                  have a97 := z_rg_n a87 (by decide) eI89
                  have a98 := z_Ex_n a88 (by decide) eI89
                  refine lv_aload_n hx hb dX12_ask_146 rfl (lv_at hl 1 rfl) ?_
                  refine z_get (T := TX12) (N := 96) (ci := 12) (i := 0) (v := .ref (ad 65)) hx hb hts zj_X12_ask_X12 hown hK hW rfl rfl 90 (by decide) (hts (.fieldLink RX12 211 "PetrolBoardModel" "jAsked" "[I") (me_s (me_l (me_l (List.mem_of_getElem? (i := 8) rfl))))) (fun _ h => h) rfl dX12_ask_147 ?_
                  refine lv_iload hx hb dX12_ask_150 (lv_at hl 0 rfl) ?_
                  refine lv_aload_n hx hb dX12_ask_152 rfl (lv_at hl 1 rfl) ?_
                  refine z_get (T := TX12) (N := 96) (ci := 12) (i := 0) (v := .int (I 0 0)) hx hb hts zj_X12_ask_X12 hown hK hW rfl rfl 0 (by decide) (hts (.fieldLink RX12 232 "PetrolBoardModel" "today" "I") (me_s (me_l (me_l (List.mem_of_getElem? (i := 0) rfl))))) (fun _ h => h) (congrArg Value.int (by rw [eI89, z_up_n (by decide), eI79, z_up_n (by decide), eI69, z_up_n (by decide), eI59, z_up_n (by decide), eI49, z_up_n (by decide), eI39, z_up_n (by decide)])) dX12_ask_153 ?_
                  refine z_iast (i := 65) hx hb hK hW hS rfl (z_ix rfl (by omega) (by omega)) dX12_ask_156 (fun H locs hz1 hW hS => ?_)
                  obtain ⟨I99, eI99⟩ : ∃ K : z_I, K = z_up I89 65 (I 0 83).toNatClampNeg (I 0 0) := ⟨_, rfl⟩
                  rw [← eI99] at hW
                  have f100 := z_fr_a f90 (show z_wa L_X12_ask_g 65 = true by decide) eI99
                  have a101 := z_rg_n a91 (by decide) eI99
                  have a102 := z_rg_n a92 (by decide) eI99
                  have a103 := z_rg_n a93 (by decide) eI99
                  have a104 := z_Nd_n a94 (by decide) eI99
                  have a105 := z_rg_n a95 (by decide) eI99
                  have a106 := z_rg_n a96 (by decide) eI99
                  have a107 := z_rg_n a97 (by decide) eI99
                  have a108 := z_Ex_n a98 (by decide) eI99
                  refine lv_aload_n hx hb dX12_ask_157 rfl (lv_at hl 1 rfl) ?_
                  refine z_get (T := TX12) (N := 96) (ci := 12) (i := 0) (v := .ref (ad 66)) hx hb hts zj_X12_ask_X12 hown hK hW rfl rfl 91 (by decide) (hts (.fieldLink RX12 214 "PetrolBoardModel" "jGranted" "[I") (me_s (me_l (me_l (List.mem_of_getElem? (i := 9) rfl))))) (fun _ h => h) rfl dX12_ask_158 ?_
                  refine lv_iload hx hb dX12_ask_161 (lv_at hl 0 rfl) ?_
                  refine lv_aload_n hx hb dX12_ask_163 rfl (lv_at hl 1 rfl) ?_
                  refine lv_iload hx hb dX12_ask_164 (lv_at hl 0 rfl) ?_
                  refine z_ci hW hS hA (va_runV (As := [.int (I 0 83)]) (rest := [.int (I 0 83), .ref (ad 66)]) ⟨hx, hb, hml, hown, hts⟩ (sx_X12_granted_g l G ad I99 J ⟨(by show 0 ≤ (I99 0 0).toInt ∧ (I99 0 0).toInt ≤ 719; rw [eI99, z_up_n (by decide), eI89, z_up_n (by decide), eI79, z_up_n (by decide), eI69, z_up_n (by decide), eI59, z_up_n (by decide), eI49, z_up_n (by decide), eI39, z_up_n (by decide)]; exact hma.1), (by show 0 ≤ (I99 0 1).toInt ∧ (I99 0 1).toInt ≤ 30; rw [eI99, z_up_n (by decide), eI89, z_up_n (by decide), eI79, z_up_n (by decide), eI69, z_up_n (by decide), eI59, z_up_n (by decide), eI49, z_up_n (by decide), eI39, z_up_n (by decide)]; exact hma.2.1), (by show 0 ≤ (I99 0 2).toInt ∧ (I99 0 2).toInt ≤ 200; rw [eI99, z_up_n (by decide), eI89, z_up_n (by decide), eI79, z_up_n (by decide), eI69, z_up_n (by decide), eI59, z_up_n (by decide), eI49, z_up_n (by decide), eI39, z_up_n (by decide)]; exact hma.2.2)⟩ ⟨(by show 0 ≤ (I99 0 13).toInt ∧ (I99 0 13).toInt ≤ 12; rw [eI99, z_up_n (by decide), eI89, z_up_n (by decide), eI79, z_up_n (by decide), eI69, z_up_n (by decide), eI59, z_up_n (by decide), eI49, z_up_n (by decide), eI39, z_up_n (by decide)]; exact hmb.1), (by show 0 ≤ (I99 0 14).toInt ∧ (I99 0 14).toInt ≤ 288; rw [eI99, z_up_n (by decide), eI89, z_up_n (by decide), eI79, z_up_n (by decide), eI69, z_up_n (by decide), eI59, z_up_n (by decide), eI49, z_up_n (by decide), eI39, z_up_n (by decide)]; exact hmb.2)⟩ (by show 0 ≤ (I99 0 83).toInt ∧ (I99 0 83).toInt ≤ 60; rw [eI99, z_up_n (by decide), eI89, z_up_n (by decide), eI79, z_up_n (by decide), eI69, z_up_n (by decide), eI59, z_up_n (by decide), eI49, z_up_n (by decide), eI39, z_up_n (by decide)]; exact hmj) a101 a102 a103 a104 a105 a106 a107 a108 FF RS (I 0 83) (by omega) ⟨by rw [f100 0 1 (by decide), eI99, z_up_n (by decide), eI89, z_up_n (by decide), eI79, z_up_n (by decide), eI69, z_up_n (by decide), eI59, z_up_n (by decide), eI49, z_up_n (by decide), eI39, z_up_s]; omega, by rw [eI99, z_up_n (by decide), eI89, z_up_n (by decide), eI79, z_up_s]; omega, by rw [eI99, z_up_n (by decide), eI89, z_up_n (by decide), eI79, z_up_n (by decide), eI69, z_up_n (by decide), eI59, z_up_n (by decide), eI49, z_up_s]; omega, by rw [eI99, z_up_n (by decide), eI89, z_up_n (by decide), eI79, z_up_n (by decide), eI69, z_up_n (by decide), eI59, z_up_s]; omega, by rw [eI99, z_up_n (by decide), eI89, z_up_n (by decide), eI79, z_up_n (by decide), eI69, z_up_s]; omega⟩ (zw_W_c hWm (f100 0 13 (by decide)) (fun t F R h => zw_T_c h (fun j => ⟨f100 11 j (z_wr_c (by decide)), f100 12 j (z_wr_c (by decide))⟩) (fun j => ⟨f100 15 j (z_wr_c (by decide)), f100 16 j (z_wr_c (by decide)), f100 17 j (z_wr_c (by decide)), f100 18 j (z_wr_c (by decide)), f100 19 j (z_wr_c (by decide)), f100 20 j (z_wr_c (by decide))⟩) (fun j => ⟨f100 21 j (z_wr_c (by decide)), f100 22 j (z_wr_c (by decide)), f100 23 j (z_wr_c (by decide))⟩)) (fun j => ⟨f100 6 j (z_wr_c (by decide)), f100 7 j (z_wr_c (by decide)), f100 8 j (z_wr_c (by decide)), f100 9 j (z_wr_c (by decide)), f100 10 j (z_wr_c (by decide))⟩) (f100 0 2 (by decide)) (f100 0 1 (by decide)) (fun j => ⟨f100 1 j (z_wr_c (by decide)), f100 2 j (z_wr_c (by decide))⟩)) _) (cwV 1 hts gX12_ask_X12_granted rfl rfl rfl (by decide +kernel) ⟨Nat.le_of_ble_eq_true rfl, Nat.le_of_ble_eq_true rfl⟩) (z_preV (i := 0) hK hW rfl rfl) rfl rfl hl.1 rfl (lv_room (Nat.le_of_ble_eq_true rfl)) dX12_ask_166 ⟨Nat.le_of_ble_eq_true rfl, Nat.le_of_ble_eq_true rfl⟩) (fun r u1 H locs hp hW hS => ?_)
                  obtain ⟨I109, J111, e9, hI109ma, hI109mb, hI109mj, hI109Atf, hI109Atm, hI109Ajw, hI109Nd, hI109Asf, hI109Ast, hI109Asc, hI109Ex, fI109, hp⟩ := hp
                  rw [e9] at hW
                  have f110 := z_fr_sub (L := L_X12_ask_g) f100 fI109 (by decide)
                  have k112 : (I109 0 0).toInt = (I 0 0).toInt := by rw [fI109 0 0 (by decide), eI99, z_up_n (by decide), eI89, z_up_n (by decide), eI79, z_up_n (by decide), eI69, z_up_n (by decide), eI59, z_up_n (by decide), eI49, z_up_n (by decide), eI39, z_up_n (by decide)]
                  have k113 : (I109 0 83).toInt = (I 0 83).toInt := by rw [fI109 0 83 (by decide), eI99, z_up_n (by decide), eI89, z_up_n (by decide), eI79, z_up_n (by decide), eI69, z_up_n (by decide), eI59, z_up_n (by decide), eI49, z_up_n (by decide), eI39, z_up_n (by decide)]
                  refine lv_topi (fun x114 ex114 => ?_)
                  rw [← ex114] at hp
                  have hG115 := hp
                  refine z_iast (i := 66) hx hb hK hW hS rfl (z_ix rfl (by omega) (by omega)) dX12_ask_169 (fun H locs hz1 hW hS => ?_)
                  obtain ⟨I116, eI116⟩ : ∃ K : z_I, K = z_up I109 66 (I 0 83).toNatClampNeg x114 := ⟨_, rfl⟩
                  rw [← eI116] at hW
                  have f117 := z_fr_a f110 (show z_wa L_X12_ask_g 66 = true by decide) eI116
                  have a118 := z_rg_n hI109Atf (by decide) eI116
                  have a119 := z_rg_n hI109Atm (by decide) eI116
                  have a120 := z_rg_n hI109Ajw (by decide) eI116
                  have a121 := z_Nd_n hI109Nd (by decide) eI116
                  have a122 := z_rg_n hI109Asf (by decide) eI116
                  have a123 := z_rg_n hI109Ast (by decide) eI116
                  have a124 := z_rg_n hI109Asc (by decide) eI116
                  have a125 := z_Ex_n hI109Ex (by decide) eI116
                  refine lv_aload_n hx hb dX12_ask_170 rfl (lv_at hl 1 rfl) ?_
                  refine z_get (T := TX12) (N := 96) (ci := 12) (i := 0) (v := .ref (ad 67)) hx hb hts zj_X12_ask_X12 hown hK hW rfl rfl 92 (by decide) (hts (.fieldLink RX12 217 "PetrolBoardModel" "jFirst" "[I") (me_s (me_l (me_l (List.mem_of_getElem? (i := 10) rfl))))) (fun _ h => h) rfl dX12_ask_171 ?_
                  refine lv_iload hx hb dX12_ask_174 (lv_at hl 0 rfl) ?_
                  refine lv_aload_n hx hb dX12_ask_176 rfl (lv_at hl 1 rfl) ?_
                  refine z_get (T := TX12) (N := 96) (ci := 12) (i := 0) (v := .ref (ad 66)) hx hb hts zj_X12_ask_X12 hown hK hW rfl rfl 91 (by decide) (hts (.fieldLink RX12 214 "PetrolBoardModel" "jGranted" "[I") (me_s (me_l (me_l (List.mem_of_getElem? (i := 9) rfl))))) (fun _ h => h) rfl dX12_ask_177 ?_
                  refine lv_iload hx hb dX12_ask_180 (lv_at hl 0 rfl) ?_
                  refine z_iald (i := 66) hx hb hK hW rfl (z_ix rfl (by omega) (by omega)) dX12_ask_182 ?_
                  refine lv_topi (fun x126 ex126 => ?_)
                  refine z_iast (i := 67) hx hb hK hW hS rfl (z_ix rfl (by omega) (by omega)) dX12_ask_183 (fun H locs hz1 hW hS => ?_)
                  obtain ⟨I127, eI127⟩ : ∃ K : z_I, K = z_up I116 67 (I 0 83).toNatClampNeg x126 := ⟨_, rfl⟩
                  rw [← eI127] at hW
                  have f128 := z_fr_a f117 (show z_wa L_X12_ask_g 67 = true by decide) eI127
                  have a129 := z_rg_n a118 (by decide) eI127
                  have a130 := z_rg_n a119 (by decide) eI127
                  have a131 := z_rg_n a120 (by decide) eI127
                  have a132 := z_Nd_n a121 (by decide) eI127
                  have a133 := z_rg_n a122 (by decide) eI127
                  have a134 := z_rg_n a123 (by decide) eI127
                  have a135 := z_rg_n a124 (by decide) eI127
                  have a136 := z_Ex_n a125 (by decide) eI127
                  refine lv_aload_n hx hb dX12_ask_184 rfl (lv_at hl 1 rfl) ?_
                  refine lv_dup hx hb dX12_ask_185 rfl ?_
                  have r137 : 0 ≤ (I109 0 83).toInt ∧ (I109 0 83).toInt ≤ 60 := hI109mj
                  refine z_get (T := TX12) (N := 96) (ci := 12) (i := 0) (v := .int (I109 0 83)) hx hb hts zj_X12_ask_X12 hown hK hW rfl rfl 83 (by decide) (hts (.fieldLink RX12 505 "PetrolBoardModel" "journeys" "I") (me_s (me_l (me_l (List.mem_of_getElem? (i := 1) rfl))))) (fun _ h => h) (congrArg Value.int (by rw [eI127, z_up_n (by decide), eI116, z_up_n (by decide)])) dX12_ask_186 ?_
                  refine lv_iconst (v := 1) hx hb dX12_ask_189 (by decide) ?_
                  refine lv_iadd hx hb dX12_ask_190 ?_
                  refine lv_topi (fun x138 ex138 => ?_)
                  have tx138 : x138.toInt = (I109 0 83).toInt + 1 := z_tadd ex138 rfl z_l1 (by omega) (by omega)
                  refine z_put (T := TX12) (N := 96) (ci := 12) (i := 0) (v := .int x138) (I1 := z_up I127 0 83 x138) (J1 := J111) (P1 := PM ad) hx hb hts zj_X12_ask_X12 tyX12 tyX12_ok nmX12 hown hK hW hS rfl rfl 83 (by decide) (hts (.fieldLink RX12 505 "PetrolBoardModel" "journeys" "I") (me_s (me_l (me_l (List.mem_of_getElem? (i := 1) rfl))))) (fun _ h => h) rfl rfl rfl (by first | rfl | exact congrArg _ z_up_s) (fun a b h ty => z_vI h ty) dX12_ask_191 (fun H locs hz1 hW hS => ?_)
                  obtain ⟨I139, eI139⟩ : ∃ K : z_I, K = z_up I127 0 83 x138 := ⟨_, rfl⟩
                  rw [← eI139] at hW
                  have f140 := z_fr_k f128 (show z_wr L_X12_ask_g 0 83 = true by decide) eI139
                  have a141 := z_rg_n a129 (by decide) eI139
                  have a142 := z_rg_n a130 (by decide) eI139
                  have a143 := z_rg_n a131 (by decide) eI139
                  have a144 := z_Nd_n a132 (by decide) eI139
                  have a145 := z_rg_n a133 (by decide) eI139
                  have a146 := z_rg_n a134 (by decide) eI139
                  have a147 := z_rg_n a135 (by decide) eI139
                  have a148 := z_Ex_n a136 (by decide) eI139
                  refine lv_iload hx hb dX12_ask_194 (lv_at hl 0 rfl) ?_
                  exact z_iret hx hb hr hK hS (Nat.le_of_ble_eq_true rfl) (Nat.le_of_ble_eq_true rfl) hlocks dX12_ask_196 (shM, ad, I139, J111, PM ad) hW ⟨I139, J111, rfl, ⟨(by show 0 ≤ (I139 0 0).toInt ∧ (I139 0 0).toInt ≤ 719; rw [eI139, z_up_k (by decide), eI127, z_up_n (by decide), eI116, z_up_n (by decide)]; exact hI109ma.1), (by show 0 ≤ (I139 0 1).toInt ∧ (I139 0 1).toInt ≤ 30; rw [eI139, z_up_k (by decide), eI127, z_up_n (by decide), eI116, z_up_n (by decide)]; exact hI109ma.2.1), (by show 0 ≤ (I139 0 2).toInt ∧ (I139 0 2).toInt ≤ 200; rw [eI139, z_up_k (by decide), eI127, z_up_n (by decide), eI116, z_up_n (by decide)]; exact hI109ma.2.2)⟩, ⟨(by show 0 ≤ (I139 0 13).toInt ∧ (I139 0 13).toInt ≤ 12; rw [eI139, z_up_k (by decide), eI127, z_up_n (by decide), eI116, z_up_n (by decide)]; exact hI109mb.1), (by show 0 ≤ (I139 0 14).toInt ∧ (I139 0 14).toInt ≤ 288; rw [eI139, z_up_k (by decide), eI127, z_up_n (by decide), eI116, z_up_n (by decide)]; exact hI109mb.2)⟩, (by show 0 ≤ (I139 0 83).toInt ∧ (I139 0 83).toInt ≤ 60; rw [eI139, z_up_s]; omega), a141, a142, a143, a144, a145, a146, a147, a148, f140, (Or.inl ⟨by omega, by omega, (by have q9 : (I139 0 83) = x138 := (by rw [eI139, z_up_s]); show (I139 0 83).toInt = (I 0 83).toInt + 1; rw [q9]; first | done | omega), x114, (by have q9 := hG115; rw [show I99 59 (I 0 83).toNatClampNeg = a1 by rw [eI99, z_up_n (by decide), eI89, z_up_n (by decide), eI79, z_up_n (by decide), eI69, z_up_n (by decide), eI59, z_up_n (by decide), eI49, z_up_n (by decide), eI39, z_up_s], show I99 63 (I 0 83).toNatClampNeg = a5 by rw [eI99, z_up_n (by decide), eI89, z_up_n (by decide), eI79, z_up_s], show I99 65 (I 0 83).toNatClampNeg = I 0 0 by rw [eI99, z_up_s], show I99 60 (I 0 83).toNatClampNeg = a2 by rw [eI99, z_up_n (by decide), eI89, z_up_n (by decide), eI79, z_up_n (by decide), eI69, z_up_n (by decide), eI59, z_up_n (by decide), eI49, z_up_s], show I99 61 (I 0 83).toNatClampNeg = a3 by rw [eI99, z_up_n (by decide), eI89, z_up_n (by decide), eI79, z_up_n (by decide), eI69, z_up_n (by decide), eI59, z_up_s], show I99 62 (I 0 83).toNatClampNeg = a4 by rw [eI99, z_up_n (by decide), eI89, z_up_n (by decide), eI79, z_up_n (by decide), eI69, z_up_s]] at q9; exact zn_M_c (f100 0 13 (by decide)) (fun j => ⟨f100 13 j (z_wr_c (by decide)), f100 14 j (z_wr_c (by decide))⟩) (fun j => ⟨f100 6 j (z_wr_c (by decide)), f100 7 j (z_wr_c (by decide)), f100 8 j (z_wr_c (by decide)), f100 9 j (z_wr_c (by decide)), f100 10 j (z_wr_c (by decide))⟩) (f100 0 2 (by decide)) (fun j => ⟨f100 1 j (z_wr_c (by decide)), f100 2 j (z_wr_c (by decide))⟩) q9), (fun j => by rw [eI139, z_up_n (by decide), eI127, z_up_n (by decide), eI116, z_up_n (by decide), fI109 59 j (z_wr_c (by decide)), eI99, z_up_n (by decide), eI89, z_up_n (by decide), eI79, z_up_n (by decide), eI69, z_up_n (by decide), eI59, z_up_n (by decide), eI49, z_up_n (by decide), eI39, z_up_j]), (fun j => by rw [eI139, z_up_n (by decide), eI127, z_up_n (by decide), eI116, z_up_n (by decide), fI109 60 j (z_wr_c (by decide)), eI99, z_up_n (by decide), eI89, z_up_n (by decide), eI79, z_up_n (by decide), eI69, z_up_n (by decide), eI59, z_up_n (by decide), eI49, z_up_j, eI39, z_up_n (by decide)]), (fun j => by rw [eI139, z_up_n (by decide), eI127, z_up_n (by decide), eI116, z_up_n (by decide), fI109 61 j (z_wr_c (by decide)), eI99, z_up_n (by decide), eI89, z_up_n (by decide), eI79, z_up_n (by decide), eI69, z_up_n (by decide), eI59, z_up_j, eI49, z_up_n (by decide), eI39, z_up_n (by decide)]), (fun j => by rw [eI139, z_up_n (by decide), eI127, z_up_n (by decide), eI116, z_up_n (by decide), fI109 62 j (z_wr_c (by decide)), eI99, z_up_n (by decide), eI89, z_up_n (by decide), eI79, z_up_n (by decide), eI69, z_up_j, eI59, z_up_n (by decide), eI49, z_up_n (by decide), eI39, z_up_n (by decide)]), (fun j => by rw [eI139, z_up_n (by decide), eI127, z_up_n (by decide), eI116, z_up_n (by decide), fI109 63 j (z_wr_c (by decide)), eI99, z_up_n (by decide), eI89, z_up_n (by decide), eI79, z_up_j, eI69, z_up_n (by decide), eI59, z_up_n (by decide), eI49, z_up_n (by decide), eI39, z_up_n (by decide)]), (fun j => by rw [eI139, z_up_n (by decide), eI127, z_up_n (by decide), eI116, z_up_n (by decide), fI109 64 j (z_wr_c (by decide)), eI99, z_up_n (by decide), eI89, z_up_j, eI79, z_up_n (by decide), eI69, z_up_n (by decide), eI59, z_up_n (by decide), eI49, z_up_n (by decide), eI39, z_up_n (by decide)]), (fun j => by rw [eI139, z_up_n (by decide), eI127, z_up_n (by decide), eI116, z_up_n (by decide), fI109 65 j (z_wr_c (by decide)), eI99, z_up_j, eI89, z_up_n (by decide), eI79, z_up_n (by decide), eI69, z_up_n (by decide), eI59, z_up_n (by decide), eI49, z_up_n (by decide), eI39, z_up_n (by decide)]), (fun j => by rw [eI139, z_up_n (by decide), eI127, z_up_n (by decide), eI116, z_up_j, fI109 66 j (z_wr_c (by decide)), eI99, z_up_n (by decide), eI89, z_up_n (by decide), eI79, z_up_n (by decide), eI69, z_up_n (by decide), eI59, z_up_n (by decide), eI49, z_up_n (by decide), eI39, z_up_n (by decide)]), (fun j => by rw [eI139, z_up_n (by decide), eI127, z_up_j, eI116, z_up_n (by decide), fI109 67 j (z_wr_c (by decide)), eI99, z_up_n (by decide), eI89, z_up_n (by decide), eI79, z_up_n (by decide), eI69, z_up_n (by decide), eI59, z_up_n (by decide), eI49, z_up_n (by decide), eI39, z_up_n (by decide), show x126 = x114 by rw [ex126, eI116, z_up_s]])⟩)⟩
                · have g149 := z_f_eq rfl z_l60 c37
                  refine lv_iconst (v := (-1)) hx hb dX12_ask_87 (by decide) ?_
                  exact z_iret hx hb hr hK hS (Nat.le_of_ble_eq_true rfl) (Nat.le_of_ble_eq_true rfl) hlocks dX12_ask_88 (shM, ad, I, J, PM ad) hW ⟨I, J, rfl, ⟨(by show 0 ≤ (I 0 0).toInt ∧ (I 0 0).toInt ≤ 719; exact hma.1), (by show 0 ≤ (I 0 1).toInt ∧ (I 0 1).toInt ≤ 30; exact hma.2.1), (by show 0 ≤ (I 0 2).toInt ∧ (I 0 2).toInt ≤ 200; exact hma.2.2)⟩, ⟨(by show 0 ≤ (I 0 13).toInt ∧ (I 0 13).toInt ≤ 12; exact hmb.1), (by show 0 ≤ (I 0 14).toInt ∧ (I 0 14).toInt ≤ 288; exact hmb.2)⟩, (by show 0 ≤ (I 0 83).toInt ∧ (I 0 83).toInt ≤ 60; exact hmj), hAtf, hAtm, hAjw, hNd, hAsf, hAst, hAsc, hEx, z_fr_0, (Or.inr ⟨by omega, by decide, (by show (I 0 83).toInt = (I 0 83).toInt; omega), (fun j => ⟨rfl, rfl, rfl, rfl, rfl, rfl, rfl, rfl, rfl⟩)⟩)⟩
            · have h150 := h26
              have z151 := z_l0
              have z152 := z_l99
              refine lv_if_eq (tgt := 87) hx hb dX12_ask_62 (by decide) (fun c153 => ?_) (fun c153 => absurd (by decide) c153)
              refine lv_iconst (v := (-1)) hx hb dX12_ask_87 (by decide) ?_
              exact z_iret hx hb hr hK hS (Nat.le_of_ble_eq_true rfl) (Nat.le_of_ble_eq_true rfl) hlocks dX12_ask_88 (shM, ad, I, J, PM ad) hW ⟨I, J, rfl, ⟨(by show 0 ≤ (I 0 0).toInt ∧ (I 0 0).toInt ≤ 719; exact hma.1), (by show 0 ≤ (I 0 1).toInt ∧ (I 0 1).toInt ≤ 30; exact hma.2.1), (by show 0 ≤ (I 0 2).toInt ∧ (I 0 2).toInt ≤ 200; exact hma.2.2)⟩, ⟨(by show 0 ≤ (I 0 13).toInt ∧ (I 0 13).toInt ≤ 12; exact hmb.1), (by show 0 ≤ (I 0 14).toInt ∧ (I 0 14).toInt ≤ 288; exact hmb.2)⟩, (by show 0 ≤ (I 0 83).toInt ∧ (I 0 83).toInt ≤ 60; exact hmj), hAtf, hAtm, hAjw, hNd, hAsf, hAst, hAsc, hEx, z_fr_0, (Or.inr ⟨by omega, by decide, (by show (I 0 83).toInt = (I 0 83).toInt; omega), (fun j => ⟨rfl, rfl, rfl, rfl, rfl, rfl, rfl, rfl, rfl⟩)⟩)⟩
          · have h154 := h22
            have z155 := z_l719
            refine lv_if_eq (tgt := 87) hx hb dX12_ask_51 (by decide) (fun c156 => ?_) (fun c156 => absurd (by decide) c156)
            refine lv_iconst (v := (-1)) hx hb dX12_ask_87 (by decide) ?_
            exact z_iret hx hb hr hK hS (Nat.le_of_ble_eq_true rfl) (Nat.le_of_ble_eq_true rfl) hlocks dX12_ask_88 (shM, ad, I, J, PM ad) hW ⟨I, J, rfl, ⟨(by show 0 ≤ (I 0 0).toInt ∧ (I 0 0).toInt ≤ 719; exact hma.1), (by show 0 ≤ (I 0 1).toInt ∧ (I 0 1).toInt ≤ 30; exact hma.2.1), (by show 0 ≤ (I 0 2).toInt ∧ (I 0 2).toInt ≤ 200; exact hma.2.2)⟩, ⟨(by show 0 ≤ (I 0 13).toInt ∧ (I 0 13).toInt ≤ 12; exact hmb.1), (by show 0 ≤ (I 0 14).toInt ∧ (I 0 14).toInt ≤ 288; exact hmb.2)⟩, (by show 0 ≤ (I 0 83).toInt ∧ (I 0 83).toInt ≤ 60; exact hmj), hAtf, hAtm, hAjw, hNd, hAsf, hAst, hAsc, hEx, z_fr_0, (Or.inr ⟨by omega, by decide, (by show (I 0 83).toInt = (I 0 83).toInt; omega), (fun j => ⟨rfl, rfl, rfl, rfl, rfl, rfl, rfl, rfl, rfl⟩)⟩)⟩
        · have h157 := h16
          have z158 := z_l0
          have z159 := z_l4
          refine lv_if_eq (tgt := 87) hx hb dX12_ask_36 (by decide) (fun c160 => ?_) (fun c160 => absurd (by decide) c160)
          refine lv_iconst (v := (-1)) hx hb dX12_ask_87 (by decide) ?_
          exact z_iret hx hb hr hK hS (Nat.le_of_ble_eq_true rfl) (Nat.le_of_ble_eq_true rfl) hlocks dX12_ask_88 (shM, ad, I, J, PM ad) hW ⟨I, J, rfl, ⟨(by show 0 ≤ (I 0 0).toInt ∧ (I 0 0).toInt ≤ 719; exact hma.1), (by show 0 ≤ (I 0 1).toInt ∧ (I 0 1).toInt ≤ 30; exact hma.2.1), (by show 0 ≤ (I 0 2).toInt ∧ (I 0 2).toInt ≤ 200; exact hma.2.2)⟩, ⟨(by show 0 ≤ (I 0 13).toInt ∧ (I 0 13).toInt ≤ 12; exact hmb.1), (by show 0 ≤ (I 0 14).toInt ∧ (I 0 14).toInt ≤ 288; exact hmb.2)⟩, (by show 0 ≤ (I 0 83).toInt ∧ (I 0 83).toInt ≤ 60; exact hmj), hAtf, hAtm, hAjw, hNd, hAsf, hAst, hAsc, hEx, z_fr_0, (Or.inr ⟨by omega, by decide, (by show (I 0 83).toInt = (I 0 83).toInt; omega), (fun j => ⟨rfl, rfl, rfl, rfl, rfl, rfl, rfl, rfl, rfl⟩)⟩)⟩
      · have h161 := h11
        have z162 := z_l1
        have z163 := z_l8
        refine lv_if_eq (tgt := 87) hx hb dX12_ask_26 (by decide) (fun c164 => ?_) (fun c164 => absurd (by decide) c164)
        refine lv_iconst (v := (-1)) hx hb dX12_ask_87 (by decide) ?_
        exact z_iret hx hb hr hK hS (Nat.le_of_ble_eq_true rfl) (Nat.le_of_ble_eq_true rfl) hlocks dX12_ask_88 (shM, ad, I, J, PM ad) hW ⟨I, J, rfl, ⟨(by show 0 ≤ (I 0 0).toInt ∧ (I 0 0).toInt ≤ 719; exact hma.1), (by show 0 ≤ (I 0 1).toInt ∧ (I 0 1).toInt ≤ 30; exact hma.2.1), (by show 0 ≤ (I 0 2).toInt ∧ (I 0 2).toInt ≤ 200; exact hma.2.2)⟩, ⟨(by show 0 ≤ (I 0 13).toInt ∧ (I 0 13).toInt ≤ 12; exact hmb.1), (by show 0 ≤ (I 0 14).toInt ∧ (I 0 14).toInt ≤ 288; exact hmb.2)⟩, (by show 0 ≤ (I 0 83).toInt ∧ (I 0 83).toInt ≤ 60; exact hmj), hAtf, hAtm, hAjw, hNd, hAsf, hAst, hAsc, hEx, z_fr_0, (Or.inr ⟨by omega, by decide, (by show (I 0 83).toInt = (I 0 83).toInt; omega), (fun j => ⟨rfl, rfl, rfl, rfl, rfl, rfl, rfl, rfl, rfl⟩)⟩)⟩
    · have h165 := h5
      have z166 := z_l1
      have z167 := z_l500
      refine lv_if_eq (tgt := 87) hx hb dX12_ask_16 (by decide) (fun c168 => ?_) (fun c168 => absurd (by decide) c168)
      refine lv_iconst (v := (-1)) hx hb dX12_ask_87 (by decide) ?_
      exact z_iret hx hb hr hK hS (Nat.le_of_ble_eq_true rfl) (Nat.le_of_ble_eq_true rfl) hlocks dX12_ask_88 (shM, ad, I, J, PM ad) hW ⟨I, J, rfl, ⟨(by show 0 ≤ (I 0 0).toInt ∧ (I 0 0).toInt ≤ 719; exact hma.1), (by show 0 ≤ (I 0 1).toInt ∧ (I 0 1).toInt ≤ 30; exact hma.2.1), (by show 0 ≤ (I 0 2).toInt ∧ (I 0 2).toInt ≤ 200; exact hma.2.2)⟩, ⟨(by show 0 ≤ (I 0 13).toInt ∧ (I 0 13).toInt ≤ 12; exact hmb.1), (by show 0 ≤ (I 0 14).toInt ∧ (I 0 14).toInt ≤ 288; exact hmb.2)⟩, (by show 0 ≤ (I 0 83).toInt ∧ (I 0 83).toInt ≤ 60; exact hmj), hAtf, hAtm, hAjw, hNd, hAsf, hAst, hAsc, hEx, z_fr_0, (Or.inr ⟨by omega, by decide, (by show (I 0 83).toInt = (I 0 83).toInt; omega), (fun j => ⟨rfl, rfl, rfl, rfl, rfl, rfl, rfl, rfl, rfl⟩)⟩)⟩
  · have h169 := h1
    have r170 : 0 ≤ (I 0 1).toInt ∧ (I 0 1).toInt ≤ 30 := hma.2.1
    refine lv_if_eq (tgt := 87) hx hb dX12_ask_5 (by decide) (fun c171 => ?_) (fun c171 => absurd (by decide) c171)
    refine lv_iconst (v := (-1)) hx hb dX12_ask_87 (by decide) ?_
    exact z_iret hx hb hr hK hS (Nat.le_of_ble_eq_true rfl) (Nat.le_of_ble_eq_true rfl) hlocks dX12_ask_88 (shM, ad, I, J, PM ad) hW ⟨I, J, rfl, ⟨(by show 0 ≤ (I 0 0).toInt ∧ (I 0 0).toInt ≤ 719; exact hma.1), (by show 0 ≤ (I 0 1).toInt ∧ (I 0 1).toInt ≤ 30; exact hma.2.1), (by show 0 ≤ (I 0 2).toInt ∧ (I 0 2).toInt ≤ 200; exact hma.2.2)⟩, ⟨(by show 0 ≤ (I 0 13).toInt ∧ (I 0 13).toInt ≤ 12; exact hmb.1), (by show 0 ≤ (I 0 14).toInt ∧ (I 0 14).toInt ≤ 288; exact hmb.2)⟩, (by show 0 ≤ (I 0 83).toInt ∧ (I 0 83).toInt ≤ 60; exact hmj), hAtf, hAtm, hAjw, hNd, hAsf, hAst, hAsc, hEx, z_fr_0, (Or.inr ⟨by omega, by decide, (by show (I 0 83).toInt = (I 0 83).toInt; omega), (fun j => ⟨rfl, rfl, rfl, rfl, rfl, rfl, rfl, rfl, rfl⟩)⟩)⟩
