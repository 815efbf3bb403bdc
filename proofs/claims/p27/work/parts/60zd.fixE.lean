set_option maxHeartbeats 8000000 in
set_option maxRecDepth 100000 in
theorem sx_X0_lentAs_c_q (l : Launch) (G : z_G) (ad : Nat → Nat) (c : z_C) (I : z_I) (hC : z_iC I) (a1 : Int32) : z_M l yX0_lentAs wsX0_lentAs { frames := 1, cells := 0, slots := 0, locals := 12 } [.ref (ad 26), .int a1] G (shC c, ad, I, JX, PC c ad) (fun r u1 => u1 = (shC c, ad, I, JX, PC c ad) ∧ (r.toInt = zb_K I a1.toInt (I 26 4).toNatClampNeg)) 0 0 := by
  intro sz
  refine z_headQ (cc := cX0_lentAs) (maxL := 3) (ret := (some .int)) (by decide) rfl (Nat.le_of_ble_eq_true rfl) ?_
  intro p e s m below meth c0 ls hIn hK hsz hW hl
  obtain ⟨hx, hb, hr, hml, hown, hts, hlocks, hname⟩ := hIn
  subst hsz
  have hown : s.vm.findClass RX0 = some m.cls := hown
  have hA : ∀ q : Nat, s.heap.size ≤ q → z_A (shC c, ad, I, JX, PC c ad) s.heap.size q := fun q h => Or.inr h
  generalize hAe : z_A (shC c, ad, I, JX, PC c ad) s.heap.size = A at *
  have hS : va_S A s.heap s.heap [] := va_S.rf
  have hl : lv_has ls 3 [(0, .ref (ad 26)), (1, .int a1)] := hl
  have nC9 : 0 ≤ (I 26 4).toInt := hC.1
  refine lv_iconst (v := 0) hx hb dX0_lentAs_0 (by decide) ?_
  refine lv_istore_n (lv' := [(2, .int 0), (0, .ref (ad 26)), (1, .int a1)]) hx hb dX0_lentAs_1 rfl hl (by decide) rfl (fun ls hl => ?_)
  have lp1 : ∀ (f : Nat) (y2 : Int32) (H : Heap) (locs : List Loc) (ls : Array Slot), (2147483647 < y2.toInt + (f : Int)) → (0 ≤ y2.toInt) → (zb_K I a1.toInt y2.toNatClampNeg = -1 ∧ y2.toInt ≤ (I 26 4).toInt) → z_W G A (shC c, ad, I, JX, PC c ad) H → va_S A s.heap H locs → lv_has ls 3 [(2, .int y2), (0, .ref (ad 26)), (1, .int a1)] → W p l e (headSpec wsX0_lentAs { frames := 1, cells := 0, slots := 0, locals := 12 }).room s m ([.ref (ad 26), .int a1] : List Value).toArray below meth c0 H locs 0 0 (MQ below (va_Qi (fun (r : Int32) (u1 : z_U) => u1 = (shC c, ad, I, JX, PC c ad) ∧ (r.toInt = zb_K I a1.toInt (I 26 4).toNatClampNeg)) (z_B G A) A) ([.ref (ad 26), .int a1] : List Value).toArray s 0 0 A) (F0 m 2 ls []) := by
    intro f
    induction f with
    | zero => intro y2 H locs ls lp1m lp1l2 lp1B hW hS hl; exact absurd lp1m (by have := Int32.toInt_lt y2; have := Int32.le_toInt y2; omega)
    | succ f lp1ih =>
      intro y2 H locs ls lp1m lp1l2 lp1B hW hS hl
      refine lv_iload_n hx hb dX0_lentAs_2 rfl (lv_at hl 0 rfl) ?_
      refine lv_aload_n hx hb dX0_lentAs_3 rfl (lv_at hl 1 rfl) ?_
      have r3 : 0 ≤ (I 26 4).toInt ∧ (I 26 4).toInt ≤ 512 := hC
      refine z_get (T := TX0) (N := 5) (ci := 0) (i := 26) (v := .int (I 26 4)) hx hb hts zj_X0_lentAs_X0 hown hK hW rfl rfl 4 (by decide) (hts (.fieldLink RX0 31 "PetrolBoard$Coupons" "lentNumber" "I") (me_s (me_l (List.mem_of_getElem? (i := 0) rfl)))) (fun _ h => h) rfl dX0_lentAs_4 ?_
      refine lv_icmp_ge (tgt := 35) hx hb dX0_lentAs_7 (by decide) (fun c4 => ?_) (fun c4 => ?_)
      · have g5 := z_f_ge rfl rfl c4
        have b6 := Int32.toInt_lt y2
        refine lv_iconst (v := (-1)) hx hb dX0_lentAs_35 (by decide) ?_
        exact z_iret hx hb hr hK hS (Nat.le_of_ble_eq_true rfl) (Nat.le_of_ble_eq_true rfl) hlocks dX0_lentAs_36 (shC c, ad, I, JX, PC c ad) hW ⟨rfl, (by have q1 := z_clt (x := y2) rfl (by omega); have q2 := z_clt (x := (I 26 4)) rfl (by omega); rw [show (I 26 4).toNatClampNeg = y2.toNatClampNeg by omega, lp1B.1]; decide)⟩
      · have g7 := z_f_nge rfl rfl c4
        have b8 := Int32.toInt_lt y2
        refine lv_iload_n hx hb dX0_lentAs_10 rfl (lv_at hl 0 rfl) ?_
        refine lv_sipush (v := 512) hx hb dX0_lentAs_11 (by decide) ?_
        refine lv_icmp_ge (tgt := 35) hx hb dX0_lentAs_14 (by decide) (fun c9 => (by have g := z_f_ge rfl z_l512 c9; omega)) (fun c9 => ?_)
        have g10 := z_f_nge rfl z_l512 c9
        refine lv_aload_n hx hb dX0_lentAs_17 rfl (lv_at hl 1 rfl) ?_
        refine z_get (T := TX0) (N := 5) (ci := 0) (i := 26) (v := .ref (ad 28)) hx hb hts zj_X0_lentAs_X0 hown hK hW rfl rfl 1 (by decide) (hts (.fieldLink RX0 15 "PetrolBoard$Coupons" "lent" "[I") (me_s (me_l (List.mem_of_getElem? (i := 1) rfl)))) (fun _ h => h) rfl dX0_lentAs_18 ?_
        refine lv_iload_n hx hb dX0_lentAs_21 rfl (lv_at hl 0 rfl) ?_
        refine z_iald (i := 28) hx hb hK hW rfl (z_ix rfl (by omega) (by omega)) dX0_lentAs_22 ?_
        refine lv_topi (fun x11 ex11 => ?_)
        have hv12 : (I 28 y2.toNatClampNeg).toInt = x11.toInt := by rw [ex11]
        have hz13 := z_clt (x := y2) rfl (by omega)
        refine lv_iload_n hx hb dX0_lentAs_23 rfl (lv_at hl 2 rfl) ?_
        refine lv_icmp_ne (tgt := 29) hx hb dX0_lentAs_24 (by decide) (fun c14 => ?_) (fun c14 => ?_)
        · have g15 := z_f_ne rfl rfl c14
          have b16 := Int32.toInt_lt x11
          have b17 := Int32.toInt_lt a1
          obtain ⟨x18, ex18⟩ : ∃ y : Int32, y = y2 + 1 := ⟨_, rfl⟩
          have tx18 : x18.toInt = y2.toInt + 1 := z_tadd ex18 rfl z_l1 (by omega) (by omega)
          refine lv_iinc (v := x18) (lv' := [(2, .int x18), (0, .ref (ad 26)), (1, .int a1)]) hx hb dX0_lentAs_29 hl (k := 0) rfl (by rw [ex18]; rfl) (by decide) rfl (fun ls hl => ?_)
          refine lv_goto (tgt := 2) hx hb dX0_lentAs_32 (by decide) ?_
          exact lp1ih x18 _ _ _ (by omega) (by omega) ⟨by rw [show x18.toNatClampNeg = y2.toNatClampNeg + 1 from z_cln (by omega) (by omega)]; exact zb_K_n lp1B.1 (by omega), by omega⟩ hW hS (lv_sub hl [0, 1, 2] rfl)
        · have g19 := z_f_eq rfl rfl c14
          have b20 := Int32.toInt_lt x11
          have b21 := Int32.toInt_lt a1
          refine lv_iload_n hx hb dX0_lentAs_27 rfl (lv_at hl 0 rfl) ?_
          exact z_iret hx hb hr hK hS (Nat.le_of_ble_eq_true rfl) (Nat.le_of_ble_eq_true rfl) hlocks dX0_lentAs_28 (shC c, ad, I, JX, PC c ad) hW ⟨rfl, (by have q1 := z_clt (x := y2) rfl (by omega); have q2 := z_clt (x := (I 26 4)) rfl (by omega); have q3 := zb_K_y lp1B.1 (by omega); rw [zb_K_m (n := y2.toNatClampNeg + 1) (by omega) (by omega), q3, q1])⟩
  exact lp1 4294967296 (0) _ _ _ (z_m0u _) (by rw [z_l0]; omega) ⟨by rw [show (0 : Int32).toNatClampNeg = 0 by decide]; rfl, by have q0 := z_l0; omega⟩ hW hS (lv_sub hl [0, 1, 2] rfl)
set_option maxHeartbeats 8000000 in
set_option maxRecDepth 100000 in
theorem sx_X0_lentOfBook_c_q (l : Launch) (G : z_G) (ad : Nat → Nat) (c : z_C) (I : z_I) (hC : z_iC I) (a1 : Int32) (q1 : 0 ≤ a1.toInt) (hL : ∀ j : Nat, (j : Int) < (I 26 4).toInt → 0 ≤ (I 28 j).toInt ∧ (I 28 j).toInt ≤ 71999) : z_M l yX0_lentOfBook wsX0_lentOfBook { frames := 1, cells := 0, slots := 0, locals := 12 } [.ref (ad 26), .int a1] G (shC c, ad, I, JX, PC c ad) (fun r u1 => u1 = (shC c, ad, I, JX, PC c ad) ∧ (r.toInt = zb_C I (a1.toInt / 100) (I 26 4).toNatClampNeg)) 0 0 := by
  intro sz
  refine z_headQ (cc := cX0_lentOfBook) (maxL := 4) (ret := (some .int)) (by decide) rfl (Nat.le_of_ble_eq_true rfl) ?_
  intro p e s m below meth c0 ls hIn hK hsz hW hl
  obtain ⟨hx, hb, hr, hml, hown, hts, hlocks, hname⟩ := hIn
  subst hsz
  have hown : s.vm.findClass RX0 = some m.cls := hown
  have hA : ∀ q : Nat, s.heap.size ≤ q → z_A (shC c, ad, I, JX, PC c ad) s.heap.size q := fun q h => Or.inr h
  generalize hAe : z_A (shC c, ad, I, JX, PC c ad) s.heap.size = A at *
  have hS : va_S A s.heap s.heap [] := va_S.rf
  have hl : lv_has ls 4 [(0, .ref (ad 26)), (1, .int a1)] := hl
  have nC9 : 0 ≤ (I 26 4).toInt := hC.1
  refine lv_iconst (v := 0) hx hb dX0_lentOfBook_0 (by decide) ?_
  refine lv_istore_n (lv' := [(2, .int 0), (0, .ref (ad 26)), (1, .int a1)]) hx hb dX0_lentOfBook_1 rfl hl (by decide) rfl (fun ls hl => ?_)
  refine lv_iconst (v := 0) hx hb dX0_lentOfBook_2 (by decide) ?_
  refine lv_istore_n (lv' := [(3, .int 0), (2, .int 0), (0, .ref (ad 26)), (1, .int a1)]) hx hb dX0_lentOfBook_3 rfl hl (by decide) rfl (fun ls hl => ?_)
  have lp1 : ∀ (f : Nat) (y2 : Int32) (y3 : Int32) (H : Heap) (locs : List Loc) (ls : Array Slot), (2147483647 < y2.toInt + (f : Int)) → (0 ≤ y2.toInt) → (0 ≤ y3.toInt) → (y3.toInt ≤ 512) → (y3.toInt = zb_C I (a1.toInt / 100) y2.toNatClampNeg ∧ y3.toInt ≤ y2.toInt ∧ y2.toInt ≤ (I 26 4).toInt) → z_W G A (shC c, ad, I, JX, PC c ad) H → va_S A s.heap H locs → lv_has ls 4 [(3, .int y2), (2, .int y3), (0, .ref (ad 26)), (1, .int a1)] → W p l e (headSpec wsX0_lentOfBook { frames := 1, cells := 0, slots := 0, locals := 12 }).room s m ([.ref (ad 26), .int a1] : List Value).toArray below meth c0 H locs 0 0 (MQ below (va_Qi (fun (r : Int32) (u1 : z_U) => u1 = (shC c, ad, I, JX, PC c ad) ∧ (r.toInt = zb_C I (a1.toInt / 100) (I 26 4).toNatClampNeg)) (z_B G A) A) ([.ref (ad 26), .int a1] : List Value).toArray s 0 0 A) (F0 m 4 ls []) := by
    intro f
    induction f with
    | zero => intro y2 y3 H locs ls lp1m lp1l3 lp1l2 lp1u2 lp1B hW hS hl; exact absurd lp1m (by have := Int32.toInt_lt y2; have := Int32.le_toInt y2; omega)
    | succ f lp1ih =>
      intro y2 y3 H locs ls lp1m lp1l3 lp1l2 lp1u2 lp1B hW hS hl
      refine lv_iload_n hx hb dX0_lentOfBook_4 rfl (lv_at hl 0 rfl) ?_
      refine lv_aload_n hx hb dX0_lentOfBook_5 rfl (lv_at hl 2 rfl) ?_
      have r4 : 0 ≤ (I 26 4).toInt ∧ (I 26 4).toInt ≤ 512 := hC
      refine z_get (T := TX0) (N := 5) (ci := 0) (i := 26) (v := .int (I 26 4)) hx hb hts zj_X0_lentOfBook_X0 hown hK hW rfl rfl 4 (by decide) (hts (.fieldLink RX0 31 "PetrolBoard$Coupons" "lentNumber" "I") (me_s (me_l (List.mem_of_getElem? (i := 0) rfl)))) (fun _ h => h) rfl dX0_lentOfBook_6 ?_
      refine lv_icmp_ge (tgt := 49) hx hb dX0_lentOfBook_9 (by decide) (fun c5 => ?_) (fun c5 => ?_)
      · have g6 := z_f_ge rfl rfl c5
        have b7 := Int32.toInt_lt y2
        refine lv_iload_n hx hb dX0_lentOfBook_49 rfl (lv_at hl 1 rfl) ?_
        exact z_iret hx hb hr hK hS (Nat.le_of_ble_eq_true rfl) (Nat.le_of_ble_eq_true rfl) hlocks dX0_lentOfBook_50 (shC c, ad, I, JX, PC c ad) hW ⟨rfl, (by have q1 := z_clt (x := y2) rfl (by omega); have q2 := z_clt (x := (I 26 4)) rfl (by omega); rw [show (I 26 4).toNatClampNeg = y2.toNatClampNeg by omega]; exact lp1B.1)⟩
      · have g8 := z_f_nge rfl rfl c5
        have b9 := Int32.toInt_lt y2
        refine lv_iload_n hx hb dX0_lentOfBook_12 rfl (lv_at hl 0 rfl) ?_
        refine lv_sipush (v := 512) hx hb dX0_lentOfBook_13 (by decide) ?_
        refine lv_icmp_ge (tgt := 49) hx hb dX0_lentOfBook_16 (by decide) (fun c10 => (by have g := z_f_ge rfl z_l512 c10; omega)) (fun c10 => ?_)
        have g11 := z_f_nge rfl z_l512 c10
        refine lv_iload_n hx hb dX0_lentOfBook_19 rfl (lv_at hl 1 rfl) ?_
        refine lv_aload_n hx hb dX0_lentOfBook_20 rfl (lv_at hl 2 rfl) ?_
        refine z_get (T := TX0) (N := 5) (ci := 0) (i := 26) (v := .ref (ad 28)) hx hb hts zj_X0_lentOfBook_X0 hown hK hW rfl rfl 1 (by decide) (hts (.fieldLink RX0 15 "PetrolBoard$Coupons" "lent" "[I") (me_s (me_l (List.mem_of_getElem? (i := 1) rfl)))) (fun _ h => h) rfl dX0_lentOfBook_21 ?_
        refine lv_iload_n hx hb dX0_lentOfBook_24 rfl (lv_at hl 0 rfl) ?_
        refine z_iald (i := 28) hx hb hK hW rfl (z_ix rfl (by omega) (by omega)) dX0_lentOfBook_25 ?_
        refine lv_topi (fun x12 ex12 => ?_)
        have hv13 : (I 28 y2.toNatClampNeg).toInt = x12.toInt := by rw [ex12]
        have hz14 := z_clt (x := y2) rfl (by omega)
        have hr15 := hL y2.toNatClampNeg (by omega)
        refine lv_bipush (v := 100) hx hb dX0_lentOfBook_26 (by decide) ?_
        refine lv_idiv hx hb dX0_lentOfBook_28 (by decide) ?_
        refine lv_topi (fun x16 ex16 => ?_)
        have tx16 := z_tdiv ex16 rfl z_l100 (by decide)
        refine lv_iload_n hx hb dX0_lentOfBook_29 rfl (lv_at hl 3 rfl) ?_
        refine lv_bipush (v := 100) hx hb dX0_lentOfBook_30 (by decide) ?_
        refine lv_idiv hx hb dX0_lentOfBook_32 (by decide) ?_
        refine lv_topi (fun x17 ex17 => ?_)
        have tx17 := z_tdiv ex17 rfl z_l100 (by decide)
        refine lv_icmp_ne (tgt := 40) hx hb dX0_lentOfBook_33 (by decide) (fun c18 => ?_) (fun c18 => ?_)
        · have g19 := z_f_ne rfl rfl c18
          have b20 := Int32.toInt_lt x16
          refine lv_iconst (v := 0) hx hb dX0_lentOfBook_40 (by decide) ?_
          refine lv_iadd hx hb dX0_lentOfBook_41 ?_
          refine lv_topi (fun x21 ex21 => ?_)
          have tx21 : x21.toInt = y3.toInt + 0 := z_tadd ex21 rfl z_l0 (by omega) (by omega)
          refine lv_istore_n (lv' := [(2, .int x21), (3, .int y2), (0, .ref (ad 26)), (1, .int a1)]) hx hb dX0_lentOfBook_42 rfl hl (by decide) rfl (fun ls hl => ?_)
          obtain ⟨x22, ex22⟩ : ∃ y : Int32, y = y2 + 1 := ⟨_, rfl⟩
          have tx22 : x22.toInt = y2.toInt + 1 := z_tadd ex22 rfl z_l1 (by omega) (by omega)
          refine lv_iinc (v := x22) (lv' := [(3, .int x22), (2, .int x21), (0, .ref (ad 26)), (1, .int a1)]) hx hb dX0_lentOfBook_43 hl (k := 1) rfl (by rw [ex22]; rfl) (by decide) rfl (fun ls hl => ?_)
          refine lv_goto (tgt := 4) hx hb dX0_lentOfBook_46 (by decide) ?_
          exact lp1ih x22 x21 _ _ _ (by omega) (by omega) (by omega) (by omega) ⟨by rw [show x22.toNatClampNeg = y2.toNatClampNeg + 1 from z_cln (by omega) (by omega)]; first | (rw [zb_C_y (by omega)]; omega) | (rw [zb_C_n (by omega)]; omega), by omega, by omega⟩ hW hS (lv_sub hl [0, 1, 2, 3] rfl)
        · have g23 := z_f_eq rfl rfl c18
          have b24 := Int32.toInt_lt x16
          refine lv_iconst (v := 1) hx hb dX0_lentOfBook_36 (by decide) ?_
          refine lv_goto (tgt := 41) hx hb dX0_lentOfBook_37 (by decide) ?_
          refine lv_iadd hx hb dX0_lentOfBook_41 ?_
          refine lv_topi (fun x25 ex25 => ?_)
          have tx25 : x25.toInt = y3.toInt + 1 := z_tadd ex25 rfl z_l1 (by omega) (by omega)
          refine lv_istore_n (lv' := [(2, .int x25), (3, .int y2), (0, .ref (ad 26)), (1, .int a1)]) hx hb dX0_lentOfBook_42 rfl hl (by decide) rfl (fun ls hl => ?_)
          obtain ⟨x26, ex26⟩ : ∃ y : Int32, y = y2 + 1 := ⟨_, rfl⟩
          have tx26 : x26.toInt = y2.toInt + 1 := z_tadd ex26 rfl z_l1 (by omega) (by omega)
          refine lv_iinc (v := x26) (lv' := [(3, .int x26), (2, .int x25), (0, .ref (ad 26)), (1, .int a1)]) hx hb dX0_lentOfBook_43 hl (k := 1) rfl (by rw [ex26]; rfl) (by decide) rfl (fun ls hl => ?_)
          refine lv_goto (tgt := 4) hx hb dX0_lentOfBook_46 (by decide) ?_
          exact lp1ih x26 x25 _ _ _ (by omega) (by omega) (by omega) (by omega) ⟨by rw [show x26.toNatClampNeg = y2.toNatClampNeg + 1 from z_cln (by omega) (by omega)]; first | (rw [zb_C_y (by omega)]; omega) | (rw [zb_C_n (by omega)]; omega), by omega, by omega⟩ hW hS (lv_sub hl [0, 1, 2, 3] rfl)
  exact lp1 4294967296 (0) (0) _ _ _ (z_m0u _) (by rw [z_l0]; omega) (by rw [z_l0]; omega) (by rw [z_l0]; omega) ⟨by rw [show (0 : Int32).toNatClampNeg = 0 by decide]; rfl, by omega, by have q0 := z_l0; omega⟩ hW hS (lv_sub hl [0, 1, 2, 3] rfl)
set_option maxHeartbeats 8000000 in
set_option maxRecDepth 100000 in
theorem sx_X0_ownerOf_c_q (l : Launch) (G : z_G) (ad : Nat → Nat) (c : z_C) (I : z_I) (hC : z_iC I) (a1 : Int32) : z_M l yX0_ownerOf wsX0_ownerOf { frames := 2, cells := 0, slots := 0, locals := 34 } [.ref (ad 26), .int a1] G (shC c, ad, I, JX, PC c ad) (fun r u1 => u1 = (shC c, ad, I, JX, PC c ad) ∧ ((¬ zb_hx I a1.toInt ∧ r.toInt = -1) ∨ (zb_hx I a1.toInt ∧ r.toInt = zb_O I a1.toInt))) 0 0 := sorry
set_option maxHeartbeats 8000000 in
set_option maxRecDepth 100000 in
theorem sx_X8_wasHandedIn_c_q (l : Launch) (G : z_G) (ad : Nat → Nat) (c : z_C) (I : z_I) (hP : z_iP I) (a1 : Int32) : z_M l yX8_wasHandedIn wsX8_wasHandedIn { frames := 1, cells := 0, slots := 0, locals := 12 } [.ref (ad 30), .int a1] G (shC c, ad, I, JX, PC c ad) (fun r u1 => u1 = (shC c, ad, I, JX, PC c ad) ∧ ((r = 1 ∧ zb_h I a1.toInt (I 30 8).toNatClampNeg = true) ∨ (r = 0 ∧ zb_h I a1.toInt (I 30 8).toNatClampNeg = false))) 0 0 := by
  intro sz
  refine z_headQ (cc := cX8_wasHandedIn) (maxL := 3) (ret := (some .boolean)) (by decide) rfl (Nat.le_of_ble_eq_true rfl) ?_
  intro p e s m below meth c0 ls hIn hK hsz hW hl
  obtain ⟨hx, hb, hr, hml, hown, hts, hlocks, hname⟩ := hIn
  subst hsz
  have hown : s.vm.findClass RX8 = some m.cls := hown
  have hA : ∀ q : Nat, s.heap.size ≤ q → z_A (shC c, ad, I, JX, PC c ad) s.heap.size q := fun q h => Or.inr h
  generalize hAe : z_A (shC c, ad, I, JX, PC c ad) s.heap.size = A at *
  have hS : va_S A s.heap s.heap [] := va_S.rf
  have hl : lv_has ls 3 [(0, .ref (ad 30)), (1, .int a1)] := hl
  have nC9 : 0 ≤ (I 30 8).toInt := hP.1
  refine lv_iconst (v := 0) hx hb dX8_wasHandedIn_0 (by decide) ?_
  refine lv_istore_n (lv' := [(2, .int 0), (0, .ref (ad 30)), (1, .int a1)]) hx hb dX8_wasHandedIn_1 rfl hl (by decide) rfl (fun ls hl => ?_)
  have lp1 : ∀ (f : Nat) (y2 : Int32) (H : Heap) (locs : List Loc) (ls : Array Slot), (2147483647 < y2.toInt + (f : Int)) → (0 ≤ y2.toInt) → (zb_h I a1.toInt y2.toNatClampNeg = false ∧ y2.toInt ≤ (I 30 8).toInt) → z_W G A (shC c, ad, I, JX, PC c ad) H → va_S A s.heap H locs → lv_has ls 3 [(2, .int y2), (0, .ref (ad 30)), (1, .int a1)] → W p l e (headSpec wsX8_wasHandedIn { frames := 1, cells := 0, slots := 0, locals := 12 }).room s m ([.ref (ad 30), .int a1] : List Value).toArray below meth c0 H locs 0 0 (MQ below (va_Qi (fun (r : Int32) (u1 : z_U) => u1 = (shC c, ad, I, JX, PC c ad) ∧ ((r = 1 ∧ zb_h I a1.toInt (I 30 8).toNatClampNeg = true) ∨ (r = 0 ∧ zb_h I a1.toInt (I 30 8).toNatClampNeg = false))) (z_B G A) A) ([.ref (ad 30), .int a1] : List Value).toArray s 0 0 A) (F0 m 2 ls []) := by
    intro f
    induction f with
    | zero => intro y2 H locs ls lp1m lp1l2 lp1B hW hS hl; exact absurd lp1m (by have := Int32.toInt_lt y2; have := Int32.le_toInt y2; omega)
    | succ f lp1ih =>
      intro y2 H locs ls lp1m lp1l2 lp1B hW hS hl
      refine lv_iload_n hx hb dX8_wasHandedIn_2 rfl (lv_at hl 0 rfl) ?_
      refine lv_aload_n hx hb dX8_wasHandedIn_3 rfl (lv_at hl 1 rfl) ?_
      have r3 : 0 ≤ (I 30 8).toInt ∧ (I 30 8).toInt ≤ 300 := hP
      refine z_get (T := TX8) (N := 9) (ci := 8) (i := 30) (v := .int (I 30 8)) hx hb hts zj_X8_wasHandedIn_X8 hown hK hW rfl rfl 8 (by decide) (hts (.fieldLink RX8 36 "PetrolBoard$Pours" "number" "I") (me_s (me_l (List.mem_of_getElem? (i := 0) rfl)))) (fun _ h => h) rfl dX8_wasHandedIn_4 ?_
      refine lv_icmp_ge (tgt := 45) hx hb dX8_wasHandedIn_7 (by decide) (fun c4 => ?_) (fun c4 => ?_)
      · have g5 := z_f_ge rfl rfl c4
        have b6 := Int32.toInt_lt y2
        refine lv_iconst (v := 0) hx hb dX8_wasHandedIn_45 (by decide) ?_
        exact z_zret hx hb hr (by decide) hK hS (Nat.le_of_ble_eq_true rfl) (Nat.le_of_ble_eq_true rfl) hlocks dX8_wasHandedIn_46 (shC c, ad, I, JX, PC c ad) hW ⟨rfl, (Or.inr ⟨rfl, (by have q1 := z_clt (x := y2) rfl (by omega); have q2 := z_clt (x := (I 30 8)) rfl (by omega); rw [show (I 30 8).toNatClampNeg = y2.toNatClampNeg by omega]; exact lp1B.1)⟩)⟩
      · have g7 := z_f_nge rfl rfl c4
        have b8 := Int32.toInt_lt y2
        refine lv_iload_n hx hb dX8_wasHandedIn_10 rfl (lv_at hl 0 rfl) ?_
        refine lv_sipush (v := 300) hx hb dX8_wasHandedIn_11 (by decide) ?_
        refine lv_icmp_ge (tgt := 45) hx hb dX8_wasHandedIn_14 (by decide) (fun c9 => (by have g := z_f_ge rfl z_l300 c9; omega)) (fun c9 => ?_)
        have g10 := z_f_nge rfl z_l300 c9
        refine lv_aload_n hx hb dX8_wasHandedIn_17 rfl (lv_at hl 1 rfl) ?_
        refine z_get (T := TX8) (N := 9) (ci := 8) (i := 30) (v := .ref (ad 33)) hx hb hts zj_X8_wasHandedIn_X8 hown hK hW rfl rfl 2 (by decide) (hts (.fieldLink RX8 18 "PetrolBoard$Pours" "coupon" "[I") (me_s (me_l (List.mem_of_getElem? (i := 1) rfl)))) (fun _ h => h) rfl dX8_wasHandedIn_18 ?_
        refine lv_iload_n hx hb dX8_wasHandedIn_21 rfl (lv_at hl 0 rfl) ?_
        refine z_iald (i := 33) hx hb hK hW rfl (z_ix rfl (by omega) (by omega)) dX8_wasHandedIn_22 ?_
        refine lv_topi (fun x11 ex11 => ?_)
        have hv12 : (I 33 y2.toNatClampNeg).toInt = x11.toInt := by rw [ex11]
        have hz13 := z_clt (x := y2) rfl (by omega)
        refine lv_iload_n hx hb dX8_wasHandedIn_23 rfl (lv_at hl 2 rfl) ?_
        refine lv_icmp_ne (tgt := 39) hx hb dX8_wasHandedIn_24 (by decide) (fun c14 => ?_) (fun c14 => ?_)
        · have g15 := z_f_ne rfl rfl c14
          have b16 := Int32.toInt_lt x11
          have b17 := Int32.toInt_lt a1
          obtain ⟨x18, ex18⟩ : ∃ y : Int32, y = y2 + 1 := ⟨_, rfl⟩
          have tx18 : x18.toInt = y2.toInt + 1 := z_tadd ex18 rfl z_l1 (by omega) (by omega)
          refine lv_iinc (v := x18) (lv' := [(2, .int x18), (0, .ref (ad 30)), (1, .int a1)]) hx hb dX8_wasHandedIn_39 hl (k := 0) rfl (by rw [ex18]; rfl) (by decide) rfl (fun ls hl => ?_)
          refine lv_goto (tgt := 2) hx hb dX8_wasHandedIn_42 (by decide) ?_
          exact lp1ih x18 _ _ _ (by omega) (by omega) ⟨by rw [show x18.toNatClampNeg = y2.toNatClampNeg + 1 from z_cln (by omega) (by omega)]; exact zb_h_n lp1B.1 (by omega), by omega⟩ hW hS (lv_sub hl [0, 1, 2] rfl)
        · have g19 := z_f_eq rfl rfl c14
          have b20 := Int32.toInt_lt x11
          have b21 := Int32.toInt_lt a1
          refine lv_aload_n hx hb dX8_wasHandedIn_27 rfl (lv_at hl 1 rfl) ?_
          refine z_get (T := TX8) (N := 9) (ci := 8) (i := 30) (v := .ref (ad 36)) hx hb hts zj_X8_wasHandedIn_X8 hown hK hW rfl rfl 5 (by decide) (hts (.fieldLink RX8 27 "PetrolBoard$Pours" "verdict" "[I") (me_s (me_l (List.mem_of_getElem? (i := 2) rfl)))) (fun _ h => h) rfl dX8_wasHandedIn_28 ?_
          refine lv_iload_n hx hb dX8_wasHandedIn_31 rfl (lv_at hl 0 rfl) ?_
          refine z_iald (i := 36) hx hb hK hW rfl (z_ix rfl (by omega) (by omega)) dX8_wasHandedIn_32 ?_
          refine lv_topi (fun x22 ex22 => ?_)
          have hv23 : (I 36 y2.toNatClampNeg).toInt = x22.toInt := by rw [ex22]
          have hz24 := z_clt (x := y2) rfl (by omega)
          refine lv_iconst (v := (-1)) hx hb dX8_wasHandedIn_33 (by decide) ?_
          refine lv_icmp_eq (tgt := 39) hx hb dX8_wasHandedIn_34 (by decide) (fun c25 => ?_) (fun c25 => ?_)
          · have g26 := z_f_eq rfl z_lm1 c25
            have b27 := Int32.toInt_lt x22
            obtain ⟨x28, ex28⟩ : ∃ y : Int32, y = y2 + 1 := ⟨_, rfl⟩
            have tx28 : x28.toInt = y2.toInt + 1 := z_tadd ex28 rfl z_l1 (by omega) (by omega)
            refine lv_iinc (v := x28) (lv' := [(2, .int x28), (0, .ref (ad 30)), (1, .int a1)]) hx hb dX8_wasHandedIn_39 hl (k := 0) rfl (by rw [ex28]; rfl) (by decide) rfl (fun ls hl => ?_)
            refine lv_goto (tgt := 2) hx hb dX8_wasHandedIn_42 (by decide) ?_
            exact lp1ih x28 _ _ _ (by omega) (by omega) ⟨by rw [show x28.toNatClampNeg = y2.toNatClampNeg + 1 from z_cln (by omega) (by omega)]; exact zb_h_n lp1B.1 (by omega), by omega⟩ hW hS (lv_sub hl [0, 1, 2] rfl)
          · have g29 := z_f_ne rfl z_lm1 c25
            have b30 := Int32.toInt_lt x22
            refine lv_iconst (v := 1) hx hb dX8_wasHandedIn_37 (by decide) ?_
            exact z_zret hx hb hr (by decide) hK hS (Nat.le_of_ble_eq_true rfl) (Nat.le_of_ble_eq_true rfl) hlocks dX8_wasHandedIn_38 (shC c, ad, I, JX, PC c ad) hW ⟨rfl, (Or.inl ⟨rfl, (by have q1 := z_clt (x := y2) rfl (by omega); have q2 := z_clt (x := (I 30 8)) rfl (by omega); exact zb_h_M (zb_h_y (n := y2.toNatClampNeg) (by omega)) (by omega))⟩)⟩
  exact lp1 4294967296 (0) _ _ _ (z_m0u _) (by rw [z_l0]; omega) ⟨by rw [show (0 : Int32).toNatClampNeg = 0 by decide]; rfl, by have q0 := z_l0; omega⟩ hW hS (lv_sub hl [0, 1, 2] rfl)
theorem zb_OX_c_q {I K : z_I} {a : Int} (h : ∀ j, K 27 j = I 27 j) (h1 : ∀ j, K 28 j = I 28 j) (h2 : ∀ j, K 29 j = I 29 j) (h3 : K 26 4 = I 26 4) : zb_OX K a = zb_OX I a := by
  unfold zb_OX
  rw [zb_O_c h1 h2 h3]
  exact ite_congr (propext (zb_hx_c h)) (fun _ => rfl) (fun _ => rfl)
theorem zb_OM_c_q {I K : z_I} {a : Int} (h : ∀ j, K 31 j = I 31 j) (h1 : ∀ j, K 32 j = I 32 j) : zb_OM K a = zb_OM I a := by
  unfold zb_OM
  rw [zb_P_c h1]
  exact ite_congr (propext (zb_hm_c h)) (fun _ => rfl) (fun _ => rfl)
section ZFG
variable {S C : Nat → Int} {U : Nat → Bool} {B : Nat → Int} {s : Int} {n : Nat} {V0 : Nat → Int} {W0 : Int → Bool}
end ZFG
set_option maxHeartbeats 8000000 in
set_option maxRecDepth 100000 in
theorem sx_X11_handIn_p_q (l : Launch) (G : z_G) (ad : Nat → Nat) (c : z_C) (I : z_I) (hP : z_iP I) (hO : z_iO I) (hB : z_iB I) (a1 : Int32) (hc : z_okc c) (h10 : c.1 ≤ 10) (hon : (I 21 2).toInt = (c.2.1 : Int)) (hmo : ∀ j, j < c.2.1 → 0 ≤ (I (200 + 5 * j) 0).toInt) (hD : ∀ j : Nat, (j : Int) < (I 30 8).toInt → 0 ≤ (I 34 j).toInt) : z_MS l yX11_handIn wsX11_handIn { frames := 5, cells := 0, slots := 0, locals := 110 } [.ref (ad 0), .int a1] G (shC c, ad, I, JX, PC c ad) (fun r u1 => ∃ I1 : z_I, u1 = (shC c, ad, I1, JX, PC c ad) ∧ z_iP I1 ∧ z_iO I1 ∧ z_iB I1 ∧ z_fr L_X11_handIn_p I1 I ∧ (((0 ≤ a1.toInt ∧ a1.toInt < (I 0 8).toInt) ∧ r.toInt = (zp_Fw c I a1.toInt (I 30 8).toNatClampNeg).2 ∧ ∀ j, (I1 36 j).toInt = (zp_Fw c I a1.toInt (I 30 8).toNatClampNeg).1 j) ∨ (¬ (0 ≤ a1.toInt ∧ a1.toInt < (I 0 8).toInt) ∧ r.toInt = -1 ∧ ∀ j, I1 36 j = I 36 j))) 0 0 := by
  intro sz
  refine z_headS (cc := cX11_handIn) (maxL := 4) (ret := (some .int)) (by decide) rfl (Nat.le_of_ble_eq_true rfl) ?_
  intro p e s m below meth c0 ls hIn hK hsz hW hl hSt
  obtain ⟨hx, hb, hr, hml, hown, hts, hlocks, hname⟩ := hIn
  subst hsz
  have hown : s.vm.findClass RX11 = some m.cls := hown
  have hA : ∀ q : Nat, s.heap.size ≤ q → z_A (shC c, ad, I, JX, PC c ad) s.heap.size q := fun q h => Or.inr h
  generalize hAe : z_A (shC c, ad, I, JX, PC c ad) s.heap.size = A at *
  have hS : va_S A s.heap s.heap [] := va_S.rf
  have hl : lv_has ls 4 [(0, .ref (ad 0)), (1, .int a1)] := hl
  have nC9 : 0 ≤ (I 30 8).toInt := hP.1
  refine lv_aload_n hx hb dX11_handIn_0 rfl (lv_at hl 0 rfl) ?_
  refine lv_iload_n hx hb dX11_handIn_1 rfl (lv_at hl 1 rfl) ?_
  refine z_ci hW hS hA (va_runV (As := [.int a1]) (rest := []) ⟨hx, hb, hml, hown, hts⟩ (sx_X11_hasStation_e l G ad c I ⟨(by show 0 ≤ (I 0 0).toInt ∧ (I 0 0).toInt ≤ 719; exact hB.1), (by show 0 ≤ (I 0 8).toInt ∧ (I 0 8).toInt ≤ 10; exact hB.2)⟩ a1 hc h10 _) (cwV 1 hts gX11_handIn_X11_hasStation rfl rfl rfl (by decide +kernel) ⟨Nat.le_of_ble_eq_true rfl, Nat.le_of_ble_eq_true rfl⟩) (z_preV (i := 0) hK hW rfl rfl) rfl rfl hl.1 rfl (lv_room (Nat.le_of_ble_eq_true rfl)) dX11_handIn_2 ⟨Nat.le_of_ble_eq_true rfl, Nat.le_of_ble_eq_true rfl⟩) (fun r u1 H locs hp hW hS => ?_)
  obtain ⟨e9, hp⟩ := hp
  rw [e9] at hW
  rcases hp with ⟨rfl, h1⟩ | ⟨rfl, h1⟩
  · have h2 := h1
    have r3 : 0 ≤ (I 0 8).toInt ∧ (I 0 8).toInt ≤ 10 := hB.2
    refine lv_if_ne (tgt := 10) hx hb dX11_handIn_5 (by decide) (fun c4 => ?_) (fun c4 => absurd c4 (by decide))
    refine lv_iconst (v := 0) hx hb dX11_handIn_10 (by decide) ?_
    refine lv_istore_n (lv' := [(2, .int 0), (0, .ref (ad 0)), (1, .int a1)]) hx hb dX11_handIn_11 rfl hl (by decide) rfl (fun ls hl => ?_)
    refine lv_iconst (v := 0) hx hb dX11_handIn_12 (by decide) ?_
    refine lv_istore_n (lv' := [(3, .int 0), (2, .int 0), (0, .ref (ad 0)), (1, .int a1)]) hx hb dX11_handIn_13 rfl hl (by decide) rfl (fun ls hl => ?_)
    have lp5 : ∀ (f : Nat) (y6 : Int32) (y7 : Int32) (I8 : z_I) (H : Heap) (locs : List Loc) (ls : Array Slot), (2147483647 < y6.toInt + (f : Int)) → (0 ≤ y6.toInt) → (0 ≤ y7.toInt) → (y7.toInt ≤ 300) → (z_iP I8) → (z_iO I8) → (z_iB I8) → ((∀ i, (I8 36 i).toInt = (zp_Fw c I a1.toInt y6.toNatClampNeg).1 i) ∧ y7.toInt = (zp_Fw c I a1.toInt y6.toNatClampNeg).2 ∧ y7.toInt ≤ y6.toInt ∧ y6.toInt ≤ (I 30 8).toInt) → (z_fr L_X11_handIn_p I8 I) → z_W G A (shC c, ad, I8, JX, PC c ad) H → va_S A s.heap H locs → lv_has ls 4 [(3, .int y6), (2, .int y7), (0, .ref (ad 0)), (1, .int a1)] → W p l e (headSpec wsX11_handIn { frames := 5, cells := 0, slots := 0, locals := 110 }).room s m ([.ref (ad 0), .int a1] : List Value).toArray below meth c0 H locs 0 0 (MQ below (va_Qi (fun (r : Int32) (u1 : z_U) => ∃ I1 : z_I, u1 = (shC c, ad, I1, JX, PC c ad) ∧ z_iP I1 ∧ z_iO I1 ∧ z_iB I1 ∧ z_fr L_X11_handIn_p I1 I ∧ (((0 ≤ a1.toInt ∧ a1.toInt < (I 0 8).toInt) ∧ r.toInt = (zp_Fw c I a1.toInt (I 30 8).toNatClampNeg).2 ∧ ∀ j, (I1 36 j).toInt = (zp_Fw c I a1.toInt (I 30 8).toNatClampNeg).1 j) ∨ (¬ (0 ≤ a1.toInt ∧ a1.toInt < (I 0 8).toInt) ∧ r.toInt = -1 ∧ ∀ j, I1 36 j = I 36 j))) (z_B G A) A) ([.ref (ad 0), .int a1] : List Value).toArray s 0 0 A) (F0 m 14 ls []) := by
      intro f
      induction f with
      | zero => intro y6 y7 I8  H locs ls lp5m lp5l3 lp5l2 lp5u2 lp5P lp5O lp5B lp5H lp5fr hW hS hl; exact absurd lp5m (by have := Int32.toInt_lt y6; have := Int32.le_toInt y6; omega)
      | succ f lp5ih =>
        intro y6 y7 I8  H locs ls lp5m lp5l3 lp5l2 lp5u2 lp5P lp5O lp5B lp5H lp5fr hW hS hl
        refine lv_iload_n hx hb dX11_handIn_14 rfl (lv_at hl 0 rfl) ?_
        refine lv_aload_n hx hb dX11_handIn_15 rfl (lv_at hl 2 rfl) ?_
        have hn9 : (I8 30 8).toInt = (I 30 8).toInt := by rw [lp5fr 30 8 (by decide)]
        refine z_get (T := TX11) (N := 13) (ci := 11) (i := 0) (v := .ref (ad 30)) hx hb hts zj_X11_handIn_X11 hown hK hW rfl rfl 6 (by decide) (hts (.fieldLink RX11 44 "PetrolBoard" "pours" "LPetrolBoard$Pours;") (me_s (me_l (me_l (me_l (me_l (me_l (me_l (List.mem_of_getElem? (i := 0) rfl))))))))) (fun _ h => h) rfl dX11_handIn_16 ?_
        have r10 : 0 ≤ (I8 30 8).toInt ∧ (I8 30 8).toInt ≤ 300 := lp5P
        refine z_get (T := TX8) (N := 9) (ci := 8) (i := 30) (v := .int (I8 30 8)) hx hb hts zj_X11_handIn_X8 hown hK hW rfl rfl 8 (by decide) (hts (.fieldLink RX11 201 "PetrolBoard$Pours" "number" "I") (me_s (me_l (me_l (me_l (me_l (me_l (me_l (List.mem_of_getElem? (i := 1) rfl))))))))) (fun _ h => h) rfl dX11_handIn_19 ?_
        refine lv_icmp_ge (tgt := 98) hx hb dX11_handIn_22 (by decide) (fun c11 => ?_) (fun c11 => ?_)
        · have g12 := z_f_ge rfl rfl c11
          have b13 := Int32.toInt_lt y6
          refine lv_iload_n hx hb dX11_handIn_98 rfl (lv_at hl 1 rfl) ?_
          exact z_iret hx hb hr hK hS (Nat.le_of_ble_eq_true rfl) (Nat.le_of_ble_eq_true rfl) hlocks dX11_handIn_99 (shC c, ad, I8, JX, PC c ad) hW ⟨I8, rfl, (by show 0 ≤ (I8 30 8).toInt ∧ (I8 30 8).toInt ≤ 300; exact lp5P), (by show 0 ≤ (I8 21 2).toInt ∧ (I8 21 2).toInt ≤ 12; exact lp5O), ⟨(by show 0 ≤ (I8 0 0).toInt ∧ (I8 0 0).toInt ≤ 719; exact lp5B.1), (by show 0 ≤ (I8 0 8).toInt ∧ (I8 0 8).toInt ≤ 10; exact lp5B.2)⟩, lp5fr, (by have q1 := z_clt (x := y6) rfl (by omega); have q2 := z_clt (x := (I 30 8)) rfl (by omega); have e9 : (I 30 8).toNatClampNeg = y6.toNatClampNeg := (by omega); rw [e9]; exact Or.inl ⟨by omega, lp5H.2.1, lp5H.1⟩)⟩
        · have g14 := z_f_nge rfl rfl c11
          have b15 := Int32.toInt_lt y6
          refine lv_iload_n hx hb dX11_handIn_25 rfl (lv_at hl 0 rfl) ?_
          refine lv_sipush (v := 300) hx hb dX11_handIn_26 (by decide) ?_
          refine lv_icmp_ge (tgt := 98) hx hb dX11_handIn_29 (by decide) (fun c16 => (by have g := z_f_ge rfl z_l300 c16; omega)) (fun c16 => ?_)
          have g17 := z_f_nge rfl z_l300 c16
          refine lv_aload_n hx hb dX11_handIn_32 rfl (lv_at hl 2 rfl) ?_
          refine z_get (T := TX11) (N := 13) (ci := 11) (i := 0) (v := .ref (ad 30)) hx hb hts zj_X11_handIn_X11 hown hK hW rfl rfl 6 (by decide) (hts (.fieldLink RX11 44 "PetrolBoard" "pours" "LPetrolBoard$Pours;") (me_s (me_l (me_l (me_l (me_l (me_l (me_l (List.mem_of_getElem? (i := 0) rfl))))))))) (fun _ h => h) rfl dX11_handIn_33 ?_
          refine z_get (T := TX8) (N := 9) (ci := 8) (i := 30) (v := .ref (ad 31)) hx hb hts zj_X11_handIn_X8 hown hK hW rfl rfl 0 (by decide) (hts (.fieldLink RX11 202 "PetrolBoard$Pours" "station" "[I") (me_s (me_l (me_l (me_l (me_l (me_l (me_l (List.mem_of_getElem? (i := 2) rfl))))))))) (fun _ h => h) rfl dX11_handIn_36 ?_
          refine lv_iload_n hx hb dX11_handIn_39 rfl (lv_at hl 0 rfl) ?_
          refine z_iald (i := 31) hx hb hK hW rfl (z_ix rfl (by omega) (by omega)) dX11_handIn_40 ?_
          refine lv_topi (fun x18 ex18 => ?_)
          have hv19 : (I8 31 y6.toNatClampNeg).toInt = x18.toInt := by rw [ex18]
          have hz20 := z_clt (x := y6) rfl (by omega)
          have hs21 : zp_Sw I y6.toNatClampNeg = x18.toInt := by unfold zp_Sw; rw [← lp5fr 31 y6.toNatClampNeg (z_wr_c (by decide))]; exact hv19
          refine lv_iload_n hx hb dX11_handIn_41 rfl (lv_at hl 3 rfl) ?_
          refine lv_icmp_ne (tgt := 92) hx hb dX11_handIn_42 (by decide) (fun c22 => ?_) (fun c22 => ?_)
          · have g23 := z_f_ne rfl rfl c22
            have b24 := Int32.toInt_lt x18
            obtain ⟨x25, ex25⟩ : ∃ y : Int32, y = y6 + 1 := ⟨_, rfl⟩
            have tx25 : x25.toInt = y6.toInt + 1 := z_tadd ex25 rfl z_l1 (by omega) (by omega)
            refine lv_iinc (v := x25) (lv' := [(3, .int x25), (2, .int y7), (0, .ref (ad 0)), (1, .int a1)]) hx hb dX11_handIn_92 hl (k := 0) rfl (by rw [ex25]; rfl) (by decide) rfl (fun ls hl => ?_)
            refine lv_goto (tgt := 14) hx hb dX11_handIn_95 (by decide) ?_
            exact lp5ih x25 y7 I8  _ _ _ (by omega) (by omega) (by omega) (by omega) (by show 0 ≤ (I8 30 8).toInt ∧ (I8 30 8).toInt ≤ 300; exact lp5P) (by show 0 ≤ (I8 21 2).toInt ∧ (I8 21 2).toInt ≤ 12; exact lp5O) ⟨(by show 0 ≤ (I8 0 0).toInt ∧ (I8 0 0).toInt ≤ 719; exact lp5B.1), (by show 0 ≤ (I8 0 8).toInt ∧ (I8 0 8).toInt ≤ 10; exact lp5B.2)⟩ (by have e9 := zp_F_n (c := c) (I := I) (s := a1.toInt) (y := y6.toNatClampNeg) (by omega); exact ⟨fun i => by rw [(show x25.toNatClampNeg = y6.toNatClampNeg + 1 from z_cln (by omega) (by omega)), e9]; exact lp5H.1 i, by rw [(show x25.toNatClampNeg = y6.toNatClampNeg + 1 from z_cln (by omega) (by omega)), e9]; exact lp5H.2.1, by omega, by omega⟩) lp5fr hW hS (lv_sub hl [0, 1, 2, 3] rfl)
          · have g26 := z_f_eq rfl rfl c22
            have b27 := Int32.toInt_lt x18
            refine lv_aload_n hx hb dX11_handIn_45 rfl (lv_at hl 2 rfl) ?_
            refine z_get (T := TX11) (N := 13) (ci := 11) (i := 0) (v := .ref (ad 30)) hx hb hts zj_X11_handIn_X11 hown hK hW rfl rfl 6 (by decide) (hts (.fieldLink RX11 44 "PetrolBoard" "pours" "LPetrolBoard$Pours;") (me_s (me_l (me_l (me_l (me_l (me_l (me_l (List.mem_of_getElem? (i := 0) rfl))))))))) (fun _ h => h) rfl dX11_handIn_46 ?_
            refine z_get (T := TX8) (N := 9) (ci := 8) (i := 30) (v := .ref (ad 36)) hx hb hts zj_X11_handIn_X8 hown hK hW rfl rfl 5 (by decide) (hts (.fieldLink RX11 205 "PetrolBoard$Pours" "verdict" "[I") (me_s (me_l (me_l (me_l (me_l (me_l (me_l (List.mem_of_getElem? (i := 3) rfl))))))))) (fun _ h => h) rfl dX11_handIn_49 ?_
            refine lv_iload_n hx hb dX11_handIn_52 rfl (lv_at hl 0 rfl) ?_
            refine z_iald (i := 36) hx hb hK hW rfl (z_ix rfl (by omega) (by omega)) dX11_handIn_53 ?_
            refine lv_topi (fun x28 ex28 => ?_)
            have hv29 : (I8 36 y6.toNatClampNeg).toInt = x28.toInt := by rw [ex28]
            have hz30 := z_clt (x := y6) rfl (by omega)
            have hu31 := lp5H.1 y6.toNatClampNeg
            refine lv_iconst (v := (-1)) hx hb dX11_handIn_54 (by decide) ?_
            refine lv_icmp_ne (tgt := 92) hx hb dX11_handIn_55 (by decide) (fun c32 => ?_) (fun c32 => ?_)
            · have g33 := z_f_ne rfl z_lm1 c32
              have b34 := Int32.toInt_lt x28
              obtain ⟨x35, ex35⟩ : ∃ y : Int32, y = y6 + 1 := ⟨_, rfl⟩
              have tx35 : x35.toInt = y6.toInt + 1 := z_tadd ex35 rfl z_l1 (by omega) (by omega)
              refine lv_iinc (v := x35) (lv' := [(3, .int x35), (2, .int y7), (0, .ref (ad 0)), (1, .int a1)]) hx hb dX11_handIn_92 hl (k := 0) rfl (by rw [ex35]; rfl) (by decide) rfl (fun ls hl => ?_)
              refine lv_goto (tgt := 14) hx hb dX11_handIn_95 (by decide) ?_
              exact lp5ih x35 y7 I8  _ _ _ (by omega) (by omega) (by omega) (by omega) (by show 0 ≤ (I8 30 8).toInt ∧ (I8 30 8).toInt ≤ 300; exact lp5P) (by show 0 ≤ (I8 21 2).toInt ∧ (I8 21 2).toInt ≤ 12; exact lp5O) ⟨(by show 0 ≤ (I8 0 0).toInt ∧ (I8 0 0).toInt ≤ 719; exact lp5B.1), (by show 0 ≤ (I8 0 8).toInt ∧ (I8 0 8).toInt ≤ 10; exact lp5B.2)⟩ (by have e9 := zp_F_n (c := c) (I := I) (s := a1.toInt) (y := y6.toNatClampNeg) (by omega); exact ⟨fun i => by rw [(show x35.toNatClampNeg = y6.toNatClampNeg + 1 from z_cln (by omega) (by omega)), e9]; exact lp5H.1 i, by rw [(show x35.toNatClampNeg = y6.toNatClampNeg + 1 from z_cln (by omega) (by omega)), e9]; exact lp5H.2.1, by omega, by omega⟩) lp5fr hW hS (lv_sub hl [0, 1, 2, 3] rfl)
            · have g36 := z_f_eq rfl z_lm1 c32
              have b37 := Int32.toInt_lt x28
              refine lv_aload_n hx hb dX11_handIn_58 rfl (lv_at hl 2 rfl) ?_
              refine z_get (T := TX11) (N := 13) (ci := 11) (i := 0) (v := .ref (ad 30)) hx hb hts zj_X11_handIn_X11 hown hK hW rfl rfl 6 (by decide) (hts (.fieldLink RX11 44 "PetrolBoard" "pours" "LPetrolBoard$Pours;") (me_s (me_l (me_l (me_l (me_l (me_l (me_l (List.mem_of_getElem? (i := 0) rfl))))))))) (fun _ h => h) rfl dX11_handIn_59 ?_
              refine z_get (T := TX8) (N := 9) (ci := 8) (i := 30) (v := .ref (ad 36)) hx hb hts zj_X11_handIn_X8 hown hK hW rfl rfl 5 (by decide) (hts (.fieldLink RX11 205 "PetrolBoard$Pours" "verdict" "[I") (me_s (me_l (me_l (me_l (me_l (me_l (me_l (List.mem_of_getElem? (i := 3) rfl))))))))) (fun _ h => h) rfl dX11_handIn_62 ?_
              refine lv_iload_n hx hb dX11_handIn_65 rfl (lv_at hl 0 rfl) ?_
              refine lv_aload_n hx hb dX11_handIn_66 rfl (lv_at hl 2 rfl) ?_
              refine lv_iload_n hx hb dX11_handIn_67 rfl (lv_at hl 0 rfl) ?_
              refine z_ci hW hS hA (va_runV (As := [.int y6]) (rest := [.int y6, .ref (ad 36)]) ⟨hx, hb, hml, hown, hts⟩ (sx_X11_verdictOn_p l G ad c I8 (by show 0 ≤ (I8 30 8).toInt ∧ (I8 30 8).toInt ≤ 300; exact lp5P) (by show 0 ≤ (I8 21 2).toInt ∧ (I8 21 2).toInt ≤ 12; exact lp5O) y6 hc h10 (by rw [lp5fr 21 2 (by decide)]; exact hon) (fun j hj => by rw [(zv_fr2 lp5fr (by decide)) (200 + 5 * j) 0 (by omega)]; exact hmo j hj) (by omega) (fun j hj => by rw [lp5fr 34 j (z_wr_c (by decide))]; exact hD j (by omega)) _) (cwV 1 hts gX11_handIn_X11_verdictOn rfl rfl rfl (by decide +kernel) ⟨Nat.le_of_ble_eq_true rfl, Nat.le_of_ble_eq_true rfl⟩) (z_preVS (i := 0) hK hW hS hA hSt rfl rfl) rfl rfl hl.1 rfl (lv_room (Nat.le_of_ble_eq_true rfl)) dX11_handIn_68 ⟨Nat.le_of_ble_eq_true rfl, Nat.le_of_ble_eq_true rfl⟩) (fun r u1 H locs hp hW hS => ?_)
              obtain ⟨e9, hp⟩ := hp
              rw [e9] at hW
              refine lv_topi (fun x38 ex38 => ?_)
              rw [← ex38] at hp
              have hP39 := hp
              refine z_iast (i := 36) hx hb hK hW hS rfl (z_ix rfl (by omega) (by omega)) dX11_handIn_71 (fun H locs hz1 hW hS => ?_)
              obtain ⟨I40, eI40⟩ : ∃ K : z_I, K = z_up I8 36 y6.toNatClampNeg x38 := ⟨_, rfl⟩
              rw [← eI40] at hW
              have f41 := z_fr_a lp5fr (show z_wa L_X11_handIn_p 36 = true by decide) eI40
              refine lv_iload_n hx hb dX11_handIn_72 rfl (lv_at hl 1 rfl) ?_
              refine lv_aload_n hx hb dX11_handIn_73 rfl (lv_at hl 2 rfl) ?_
              refine z_get (T := TX11) (N := 13) (ci := 11) (i := 0) (v := .ref (ad 30)) hx hb hts zj_X11_handIn_X11 hown hK hW rfl rfl 6 (by decide) (hts (.fieldLink RX11 44 "PetrolBoard" "pours" "LPetrolBoard$Pours;") (me_s (me_l (me_l (me_l (me_l (me_l (me_l (List.mem_of_getElem? (i := 0) rfl))))))))) (fun _ h => h) rfl dX11_handIn_74 ?_
              refine z_get (T := TX8) (N := 9) (ci := 8) (i := 30) (v := .ref (ad 36)) hx hb hts zj_X11_handIn_X8 hown hK hW rfl rfl 5 (by decide) (hts (.fieldLink RX11 205 "PetrolBoard$Pours" "verdict" "[I") (me_s (me_l (me_l (me_l (me_l (me_l (me_l (List.mem_of_getElem? (i := 3) rfl))))))))) (fun _ h => h) rfl dX11_handIn_77 ?_
              refine lv_iload_n hx hb dX11_handIn_80 rfl (lv_at hl 0 rfl) ?_
              refine z_iald (i := 36) hx hb hK hW rfl (z_ix rfl (by omega) (by omega)) dX11_handIn_81 ?_
              refine lv_topi (fun x42 ex42 => ?_)
              have hv43 : (I40 36 y6.toNatClampNeg).toInt = x42.toInt := by rw [ex42]
              have hz44 := z_clt (x := y6) rfl (by omega)
              have hw45 : (I40 36 y6.toNatClampNeg).toInt = x38.toInt := by rw [eI40, z_up_s]
              refine lv_if_ne (tgt := 89) hx hb dX11_handIn_82 (by decide) (fun c46 => ?_) (fun c46 => ?_)
              · have g47 := z_f_ne rfl z_l0 c46
                have b48 := Int32.toInt_lt x42
                refine lv_iconst (v := 0) hx hb dX11_handIn_89 (by decide) ?_
                refine lv_iadd hx hb dX11_handIn_90 ?_
                refine lv_topi (fun x49 ex49 => ?_)
                have tx49 : x49.toInt = y7.toInt + 0 := z_tadd ex49 rfl z_l0 (by omega) (by omega)
                refine lv_istore_n (lv' := [(2, .int x49), (3, .int y6), (0, .ref (ad 0)), (1, .int a1)]) hx hb dX11_handIn_91 rfl hl (by decide) rfl (fun ls hl => ?_)
                obtain ⟨x50, ex50⟩ : ∃ y : Int32, y = y6 + 1 := ⟨_, rfl⟩
                have tx50 : x50.toInt = y6.toInt + 1 := z_tadd ex50 rfl z_l1 (by omega) (by omega)
                refine lv_iinc (v := x50) (lv' := [(3, .int x50), (2, .int x49), (0, .ref (ad 0)), (1, .int a1)]) hx hb dX11_handIn_92 hl (k := 1) rfl (by rw [ex50]; rfl) (by decide) rfl (fun ls hl => ?_)
                refine lv_goto (tgt := 14) hx hb dX11_handIn_95 (by decide) ?_
                exact lp5ih x50 x49 I40  _ _ _ (by omega) (by omega) (by omega) (by omega) (by show 0 ≤ (I40 30 8).toInt ∧ (I40 30 8).toInt ≤ 300; rw [eI40, z_up_n (by decide)]; exact lp5P) (by show 0 ≤ (I40 21 2).toInt ∧ (I40 21 2).toInt ≤ 12; rw [eI40, z_up_n (by decide)]; exact lp5O) ⟨(by show 0 ≤ (I40 0 0).toInt ∧ (I40 0 0).toInt ≤ 719; rw [eI40, z_up_n (by decide)]; exact lp5B.1), (by show 0 ≤ (I40 0 8).toInt ∧ (I40 0 8).toInt ≤ 10; rw [eI40, z_up_n (by decide)]; exact lp5B.2)⟩ (by have hz9 := (hP39.trans (zp_v_K (I := I) (fun a k q => lp5fr a k (zb_wr1 q (by decide))) lp5H.1)); have hc9 : zp_Sw I y6.toNatClampNeg = a1.toInt ∧ (zp_Fw c I a1.toInt y6.toNatClampNeg).1 y6.toNatClampNeg = -1 := (by omega); have hg9 := zp_good hz9 hc9; exact ⟨fun i => by rw [(show x50.toNatClampNeg = y6.toNatClampNeg + 1 from z_cln (by omega) (by omega))]; exact zp_step lp5H.1 eI40 hz9 hc9 i, by rw [(show x50.toNatClampNeg = y6.toNatClampNeg + 1 from z_cln (by omega) (by omega)), hg9]; first | (rw [if_pos (by omega)]; omega) | (rw [if_neg (by omega)]; omega), by omega, by omega⟩) f41 hW hS (lv_sub hl [0, 1, 2, 3] rfl)
              · have g51 := z_f_eq rfl z_l0 c46
                have b52 := Int32.toInt_lt x42
                refine lv_iconst (v := 1) hx hb dX11_handIn_85 (by decide) ?_
                refine lv_goto (tgt := 90) hx hb dX11_handIn_86 (by decide) ?_
                refine lv_iadd hx hb dX11_handIn_90 ?_
                refine lv_topi (fun x53 ex53 => ?_)
                have tx53 : x53.toInt = y7.toInt + 1 := z_tadd ex53 rfl z_l1 (by omega) (by omega)
                refine lv_istore_n (lv' := [(2, .int x53), (3, .int y6), (0, .ref (ad 0)), (1, .int a1)]) hx hb dX11_handIn_91 rfl hl (by decide) rfl (fun ls hl => ?_)
                obtain ⟨x54, ex54⟩ : ∃ y : Int32, y = y6 + 1 := ⟨_, rfl⟩
                have tx54 : x54.toInt = y6.toInt + 1 := z_tadd ex54 rfl z_l1 (by omega) (by omega)
                refine lv_iinc (v := x54) (lv' := [(3, .int x54), (2, .int x53), (0, .ref (ad 0)), (1, .int a1)]) hx hb dX11_handIn_92 hl (k := 1) rfl (by rw [ex54]; rfl) (by decide) rfl (fun ls hl => ?_)
                refine lv_goto (tgt := 14) hx hb dX11_handIn_95 (by decide) ?_
                exact lp5ih x54 x53 I40  _ _ _ (by omega) (by omega) (by omega) (by omega) (by show 0 ≤ (I40 30 8).toInt ∧ (I40 30 8).toInt ≤ 300; rw [eI40, z_up_n (by decide)]; exact lp5P) (by show 0 ≤ (I40 21 2).toInt ∧ (I40 21 2).toInt ≤ 12; rw [eI40, z_up_n (by decide)]; exact lp5O) ⟨(by show 0 ≤ (I40 0 0).toInt ∧ (I40 0 0).toInt ≤ 719; rw [eI40, z_up_n (by decide)]; exact lp5B.1), (by show 0 ≤ (I40 0 8).toInt ∧ (I40 0 8).toInt ≤ 10; rw [eI40, z_up_n (by decide)]; exact lp5B.2)⟩ (by have hz9 := (hP39.trans (zp_v_K (I := I) (fun a k q => lp5fr a k (zb_wr1 q (by decide))) lp5H.1)); have hc9 : zp_Sw I y6.toNatClampNeg = a1.toInt ∧ (zp_Fw c I a1.toInt y6.toNatClampNeg).1 y6.toNatClampNeg = -1 := (by omega); have hg9 := zp_good hz9 hc9; exact ⟨fun i => by rw [(show x54.toNatClampNeg = y6.toNatClampNeg + 1 from z_cln (by omega) (by omega))]; exact zp_step lp5H.1 eI40 hz9 hc9 i, by rw [(show x54.toNatClampNeg = y6.toNatClampNeg + 1 from z_cln (by omega) (by omega)), hg9]; first | (rw [if_pos (by omega)]; omega) | (rw [if_neg (by omega)]; omega), by omega, by omega⟩) f41 hW hS (lv_sub hl [0, 1, 2, 3] rfl)
    exact lp5 4294967296 (0) (0) I  _ _ _ (z_m0u _) (by rw [z_l0]; omega) (by rw [z_l0]; omega) (by rw [z_l0]; omega) (by show 0 ≤ (I 30 8).toInt ∧ (I 30 8).toInt ≤ 300; exact hP) (by show 0 ≤ (I 21 2).toInt ∧ (I 21 2).toInt ≤ 12; exact hO) ⟨(by show 0 ≤ (I 0 0).toInt ∧ (I 0 0).toInt ≤ 719; exact hB.1), (by show 0 ≤ (I 0 8).toInt ∧ (I 0 8).toInt ≤ 10; exact hB.2)⟩ ⟨fun i => by rw [show (0 : Int32).toNatClampNeg = 0 by decide]; rfl, by rw [show (0 : Int32).toNatClampNeg = 0 by decide]; rfl, by omega, by have q0 := z_l0; omega⟩ z_fr_0 hW hS (lv_sub hl [0, 1, 2, 3] rfl)
  · have h55 := h1
    have r56 : 0 ≤ (I 0 8).toInt ∧ (I 0 8).toInt ≤ 10 := hB.2
    refine lv_if_ne (tgt := 10) hx hb dX11_handIn_5 (by decide) (fun c57 => absurd (by decide) c57) (fun c57 => ?_)
    refine lv_iconst (v := (-1)) hx hb dX11_handIn_8 (by decide) ?_
    exact z_iret hx hb hr hK hS (Nat.le_of_ble_eq_true rfl) (Nat.le_of_ble_eq_true rfl) hlocks dX11_handIn_9 (shC c, ad, I, JX, PC c ad) hW ⟨I, rfl, (by show 0 ≤ (I 30 8).toInt ∧ (I 30 8).toInt ≤ 300; exact hP), (by show 0 ≤ (I 21 2).toInt ∧ (I 21 2).toInt ≤ 12; exact hO), ⟨(by show 0 ≤ (I 0 0).toInt ∧ (I 0 0).toInt ≤ 719; exact hB.1), (by show 0 ≤ (I 0 8).toInt ∧ (I 0 8).toInt ≤ 10; exact hB.2)⟩, z_fr_0, (Or.inr ⟨by omega, by decide, (fun j => rfl)⟩)⟩
set_option maxHeartbeats 8000000 in
set_option maxRecDepth 100000 in
theorem sx_X11_pour_p_q (l : Launch) (G : z_G) (ad : Nat → Nat) (c : z_C) (I : z_I) (hP : z_iP I) (hO : z_iO I) (hH : z_iH I) (hB : z_iB I) (hC : z_iC I) (a1 : Int32) (a2 : Int32) (a3 : Int32) (hc : z_okc c) (h10 : c.1 ≤ 10) (hon : (I 21 2).toInt = (c.2.1 : Int)) (hmo : ∀ j, j < c.2.1 → 0 ≤ (I (200 + 5 * j) 0).toInt) : z_MS l yX11_pour wsX11_pour { frames := 4, cells := 0, slots := 0, locals := 86 } [.ref (ad 0), .int a1, .int a2, .int a3] G (shC c, ad, I, JX, PC c ad) (fun r u1 => ∃ I1 : z_I, u1 = (shC c, ad, I1, JX, PC c ad) ∧ z_iP I1 ∧ z_iO I1 ∧ z_iH I1 ∧ z_iB I1 ∧ z_iC I1 ∧ z_fr L_X11_pour_p I1 I ∧ (((0 ≤ a1.toInt ∧ a1.toInt < (I 0 8).toInt ∧ 0 ≤ a2.toInt ∧ a2.toInt < (I 1 5).toInt ∧ 0 ≤ a3.toInt ∧ a3.toInt ≤ 99999 ∧ (I 30 8).toInt < 300) ∧ r.toInt = (I 30 8).toInt ∧ (I1 30 8).toInt = (I 30 8).toInt + 1 ∧ ∃ te dy ow : Int32, te.toInt = zb_ax c I 0 ((I 0 0).toInt / 30) (I 0 0).toInt ∧ ((dy.toInt = 1 ∧ z_fx I a2 = 2) ∨ (dy.toInt = 0 ∧ ¬ z_fx I a2 = 2)) ∧ ow.toInt = zb_OX I a3.toInt ∧ zp_rX I1 I (I 30 8).toNatClampNeg a1 a2 a3 (I 0 0) te (-1) dy ow) ∨ (¬ (0 ≤ a1.toInt ∧ a1.toInt < (I 0 8).toInt ∧ 0 ≤ a2.toInt ∧ a2.toInt < (I 1 5).toInt ∧ 0 ≤ a3.toInt ∧ a3.toInt ≤ 99999 ∧ (I 30 8).toInt < 300) ∧ r.toInt = -1 ∧ (I1 30 8).toInt = (I 30 8).toInt ∧ zp_sX I1 I))) 0 0 := by
  intro sz
  refine z_headS (cc := cX11_pour) (maxL := 5) (ret := (some .int)) (by decide) rfl (Nat.le_of_ble_eq_true rfl) ?_
  intro p e s m below meth c0 ls hIn hK hsz hW hl hSt
  obtain ⟨hx, hb, hr, hml, hown, hts, hlocks, hname⟩ := hIn
  subst hsz
  have hown : s.vm.findClass RX11 = some m.cls := hown
  have hA : ∀ q : Nat, s.heap.size ≤ q → z_A (shC c, ad, I, JX, PC c ad) s.heap.size q := fun q h => Or.inr h
  generalize hAe : z_A (shC c, ad, I, JX, PC c ad) s.heap.size = A at *
  have hS : va_S A s.heap s.heap [] := va_S.rf
  have hl : lv_has ls 5 [(0, .ref (ad 0)), (1, .int a1), (2, .int a2), (3, .int a3)] := hl
  refine lv_aload_n hx hb dX11_pour_0 rfl (lv_at hl 0 rfl) ?_
  refine lv_iload_n hx hb dX11_pour_1 rfl (lv_at hl 1 rfl) ?_
  refine z_ci hW hS hA (va_runV (As := [.int a1]) (rest := []) ⟨hx, hb, hml, hown, hts⟩ (sx_X11_hasStation_e l G ad c I ⟨(by show 0 ≤ (I 0 0).toInt ∧ (I 0 0).toInt ≤ 719; exact hB.1), (by show 0 ≤ (I 0 8).toInt ∧ (I 0 8).toInt ≤ 10; exact hB.2)⟩ a1 hc h10 _) (cwV 1 hts gX11_pour_X11_hasStation rfl rfl rfl (by decide +kernel) ⟨Nat.le_of_ble_eq_true rfl, Nat.le_of_ble_eq_true rfl⟩) (z_preV (i := 0) hK hW rfl rfl) rfl rfl hl.1 rfl (lv_room (Nat.le_of_ble_eq_true rfl)) dX11_pour_2 ⟨Nat.le_of_ble_eq_true rfl, Nat.le_of_ble_eq_true rfl⟩) (fun r u1 H locs hp hW hS => ?_)
  obtain ⟨e9, hp⟩ := hp
  rw [e9] at hW
  rcases hp with ⟨rfl, h1⟩ | ⟨rfl, h1⟩
  · have h2 := h1
    have r3 : 0 ≤ (I 0 8).toInt ∧ (I 0 8).toInt ≤ 10 := hB.2
    refine lv_if_eq (tgt := 29) hx hb dX11_pour_5 (by decide) (fun c4 => absurd c4 (by decide)) (fun c4 => ?_)
    refine lv_aload_n hx hb dX11_pour_8 rfl (lv_at hl 0 rfl) ?_
    refine z_get (T := TX11) (N := 13) (ci := 11) (i := 0) (v := .ref (ad 1)) hx hb hts zj_X11_pour_X11 hown hK hW rfl rfl 2 (by decide) (hts (.fieldLink RX11 16 "PetrolBoard" "holders" "LPetrolBoard$Holders;") (me_s (me_l (me_l (me_l (me_l (me_l (me_l (me_l (List.mem_of_getElem? (i := 0) rfl)))))))))) (fun _ h => h) rfl dX11_pour_9 ?_
    refine lv_iload_n hx hb dX11_pour_12 rfl (lv_at hl 2 rfl) ?_
    refine z_ci hW hS hA (va_runV (As := [.int a2]) (rest := []) ⟨hx, hb, hml, hown, hts⟩ (sx_X2_has_e l G ad c I ⟨(by show 0 ≤ (I 1 5).toInt ∧ (I 1 5).toInt ≤ 30; exact hH.1), (by show 0 ≤ (I 1 11).toInt ∧ (I 1 11).toInt ≤ 200; exact hH.2)⟩ a2 _) (cwV 1 hts gX11_pour_X2_has rfl rfl rfl (by decide +kernel) ⟨Nat.le_of_ble_eq_true rfl, Nat.le_of_ble_eq_true rfl⟩) (z_preV (i := 1) hK hW rfl rfl) rfl rfl hl.1 rfl (lv_room (Nat.le_of_ble_eq_true rfl)) dX11_pour_13 ⟨Nat.le_of_ble_eq_true rfl, Nat.le_of_ble_eq_true rfl⟩) (fun r u1 H locs hp hW hS => ?_)
    obtain ⟨e9, hp⟩ := hp
    rw [e9] at hW
    rcases hp with ⟨rfl, h5⟩ | ⟨rfl, h5⟩
    · have h6 := h5
      have r7 : 0 ≤ (I 1 5).toInt ∧ (I 1 5).toInt ≤ 30 := hH.1
      refine lv_if_eq (tgt := 29) hx hb dX11_pour_16 (by decide) (fun c8 => absurd c8 (by decide)) (fun c8 => ?_)
      refine lv_iload_n hx hb dX11_pour_19 rfl (lv_at hl 3 rfl) ?_
      refine lv_iconst (v := 0) hx hb dX11_pour_20 (by decide) ?_
      refine lv_ldc (v := 99999) hx hb hown (hts (.constant RX11 185 (99999)) (me_s (me_l (me_l (me_l (me_l (me_l (me_l (me_l (List.mem_of_getElem? (i := 1) rfl)))))))))) dX11_pour_21 ?_
      refine z_ci hW hS hA (va_runS (As := [.int a3, .int 0, .int 99999]) (rest := []) ⟨hx, hb, hml, hown, hts⟩ (sx_X11_within_e l G ad c I  a3 0 99999 _) (va_cwS 3 hts gX11_pour_X11_within rfl rfl rfl (by decide +kernel) ⟨Nat.le_of_ble_eq_true rfl, Nat.le_of_ble_eq_true rfl⟩) (z_preS hK hW) rfl rfl hl.1 rfl (lv_room (Nat.le_of_ble_eq_true rfl)) dX11_pour_23 ⟨Nat.le_of_ble_eq_true rfl, Nat.le_of_ble_eq_true rfl⟩) (fun r u1 H locs hp hW hS => ?_)
      obtain ⟨e9, hp⟩ := hp
      rw [e9] at hW
      rcases hp with ⟨rfl, h9⟩ | ⟨rfl, h9⟩
      · have h11 := h9
        have z12 := z_l0
        have z13 := z_l99999
        refine lv_if_ne (tgt := 31) hx hb dX11_pour_26 (by decide) (fun c14 => ?_) (fun c14 => absurd c14 (by decide))
        refine lv_aload_n hx hb dX11_pour_31 rfl (lv_at hl 0 rfl) ?_
        refine z_get (T := TX11) (N := 13) (ci := 11) (i := 0) (v := .ref (ad 30)) hx hb hts zj_X11_pour_X11 hown hK hW rfl rfl 6 (by decide) (hts (.fieldLink RX11 44 "PetrolBoard" "pours" "LPetrolBoard$Pours;") (me_s (me_l (me_l (me_l (me_l (me_l (me_l (me_l (List.mem_of_getElem? (i := 2) rfl)))))))))) (fun _ h => h) rfl dX11_pour_32 ?_
        refine lv_iload_n hx hb dX11_pour_35 rfl (lv_at hl 1 rfl) ?_
        refine lv_iload_n hx hb dX11_pour_36 rfl (lv_at hl 2 rfl) ?_
        refine lv_iload_n hx hb dX11_pour_37 rfl (lv_at hl 3 rfl) ?_
        refine lv_aload_n hx hb dX11_pour_38 rfl (lv_at hl 0 rfl) ?_
        have r15 : 0 ≤ (I 0 0).toInt ∧ (I 0 0).toInt ≤ 719 := hB.1
        refine z_get (T := TX11) (N := 13) (ci := 11) (i := 0) (v := .int (I 0 0)) hx hb hts zj_X11_pour_X11 hown hK hW rfl rfl 0 (by decide) (hts (.fieldLink RX11 85 "PetrolBoard" "today" "I") (me_s (me_l (me_l (me_l (me_l (me_l (me_l (me_l (List.mem_of_getElem? (i := 3) rfl)))))))))) (fun _ h => h) rfl dX11_pour_39 ?_
        refine z_ci hW hS hA (va_runV (As := [.int a1, .int a2, .int a3, .int (I 0 0)]) (rest := []) ⟨hx, hb, hml, hown, hts⟩ (sx_X8_add_p l G ad c I (by show 0 ≤ (I 30 8).toInt ∧ (I 30 8).toInt ≤ 300; exact hP) a1 a2 a3 (I 0 0) _) (cwV 4 hts gX11_pour_X8_add rfl rfl rfl (by decide +kernel) ⟨Nat.le_of_ble_eq_true rfl, Nat.le_of_ble_eq_true rfl⟩) (z_preV (i := 30) hK hW rfl rfl) rfl rfl hl.1 rfl (lv_room (Nat.le_of_ble_eq_true rfl)) dX11_pour_42 ⟨Nat.le_of_ble_eq_true rfl, Nat.le_of_ble_eq_true rfl⟩) (fun r u1 H locs hp hW hS => ?_)
        obtain ⟨I16, e9, hI16P, fI16, hp⟩ := hp
        rw [e9] at hW
        have f17 := z_fr_sub (L := L_X11_pour_p) z_fr_0 fI16 (by decide)
        have k18 : 0 ≤ (I16 21 2).toInt ∧ (I16 21 2).toInt ≤ 12 := by rw [fI16 21 2 (by decide)]; exact (by show 0 ≤ (I 21 2).toInt ∧ (I 21 2).toInt ≤ 12; exact hO)
        have k19 : 0 ≤ (I16 1 5).toInt ∧ (I16 1 5).toInt ≤ 30 := by rw [fI16 1 5 (by decide)]; exact (by show 0 ≤ (I 1 5).toInt ∧ (I 1 5).toInt ≤ 30; exact hH.1)
        have k20 : 0 ≤ (I16 1 11).toInt ∧ (I16 1 11).toInt ≤ 200 := by rw [fI16 1 11 (by decide)]; exact (by show 0 ≤ (I 1 11).toInt ∧ (I 1 11).toInt ≤ 200; exact hH.2)
        have k21 : 0 ≤ (I16 0 0).toInt ∧ (I16 0 0).toInt ≤ 719 := by rw [fI16 0 0 (by decide)]; exact (by show 0 ≤ (I 0 0).toInt ∧ (I 0 0).toInt ≤ 719; exact hB.1)
        have k22 : 0 ≤ (I16 0 8).toInt ∧ (I16 0 8).toInt ≤ 10 := by rw [fI16 0 8 (by decide)]; exact (by show 0 ≤ (I 0 8).toInt ∧ (I 0 8).toInt ≤ 10; exact hB.2)
        have k23 : 0 ≤ (I16 26 4).toInt ∧ (I16 26 4).toInt ≤ 512 := by rw [fI16 26 4 (by decide)]; exact (by show 0 ≤ (I 26 4).toInt ∧ (I 26 4).toInt ≤ 512; exact hC)
        refine lv_topi (fun x24 ex24 => ?_)
        rw [← ex24] at hp
        rcases hp with ⟨h25, h26, h27, h28, h29, h30, h31, h32⟩ | ⟨h25, h26, h27, h28⟩
        · refine lv_istore (lv' := [(4, .int x24), (0, .ref (ad 0)), (1, .int a1), (2, .int a2), (3, .int a3)]) hx hb dX11_pour_45 hl (by decide) rfl (fun ls hl => ?_)
          refine lv_aload_n hx hb dX11_pour_47 rfl (lv_at hl 1 rfl) ?_
          refine z_get (T := TX11) (N := 13) (ci := 11) (i := 0) (v := .ref (ad 30)) hx hb hts zj_X11_pour_X11 hown hK hW rfl rfl 6 (by decide) (hts (.fieldLink RX11 44 "PetrolBoard" "pours" "LPetrolBoard$Pours;") (me_s (me_l (me_l (me_l (me_l (me_l (me_l (me_l (List.mem_of_getElem? (i := 2) rfl)))))))))) (fun _ h => h) rfl dX11_pour_48 ?_
          refine lv_iload hx hb dX11_pour_51 (lv_at hl 0 rfl) ?_
          refine z_ci hW hS hA (va_runV (As := [.int x24]) (rest := []) ⟨hx, hb, hml, hown, hts⟩ (sx_X8_has_p l G ad c I16 (by show 0 ≤ (I16 30 8).toInt ∧ (I16 30 8).toInt ≤ 300; exact hI16P) x24 _) (cwV 1 hts gX11_pour_X8_has rfl rfl rfl (by decide +kernel) ⟨Nat.le_of_ble_eq_true rfl, Nat.le_of_ble_eq_true rfl⟩) (z_preV (i := 30) hK hW rfl rfl) rfl rfl hl.1 rfl (lv_room (Nat.le_of_ble_eq_true rfl)) dX11_pour_53 ⟨Nat.le_of_ble_eq_true rfl, Nat.le_of_ble_eq_true rfl⟩) (fun r u1 H locs hp hW hS => ?_)
          obtain ⟨e9, hp⟩ := hp
          rw [e9] at hW
          rcases hp with ⟨rfl, h33⟩ | ⟨rfl, h33⟩
          · have h34 := h33
            have r35 : 0 ≤ (I16 30 8).toInt ∧ (I16 30 8).toInt ≤ 300 := hI16P
            refine lv_if_eq (tgt := 129) hx hb dX11_pour_56 (by decide) (fun c36 => absurd c36 (by decide)) (fun c36 => ?_)
            refine lv_aload_n hx hb dX11_pour_59 rfl (lv_at hl 1 rfl) ?_
            refine z_get (T := TX11) (N := 13) (ci := 11) (i := 0) (v := .ref (ad 30)) hx hb hts zj_X11_pour_X11 hown hK hW rfl rfl 6 (by decide) (hts (.fieldLink RX11 44 "PetrolBoard" "pours" "LPetrolBoard$Pours;") (me_s (me_l (me_l (me_l (me_l (me_l (me_l (me_l (List.mem_of_getElem? (i := 2) rfl)))))))))) (fun _ h => h) rfl dX11_pour_60 ?_
            refine z_get (T := TX8) (N := 9) (ci := 8) (i := 30) (v := .ref (ad 35)) hx hb hts zj_X11_pour_X8 hown hK hW rfl rfl 4 (by decide) (hts (.fieldLink RX11 189 "PetrolBoard$Pours" "tenths" "[I") (me_s (me_l (me_l (me_l (me_l (me_l (me_l (me_l (List.mem_of_getElem? (i := 4) rfl)))))))))) (fun _ h => h) rfl dX11_pour_63 ?_
            refine lv_iload hx hb dX11_pour_66 (lv_at hl 0 rfl) ?_
            refine lv_aload_n hx hb dX11_pour_68 rfl (lv_at hl 1 rfl) ?_
            refine z_get (T := TX11) (N := 13) (ci := 11) (i := 0) (v := .ref (ad 21)) hx hb hts zj_X11_pour_X11 hown hK hW rfl rfl 4 (by decide) (hts (.fieldLink RX11 30 "PetrolBoard" "orderBook" "LPetrolBoard$OrderBook;") (me_s (me_l (me_l (me_l (me_l (me_l (me_l (me_l (List.mem_of_getElem? (i := 5) rfl)))))))))) (fun _ h => h) rfl dX11_pour_69 ?_
            refine lv_iconst (v := 0) hx hb dX11_pour_72 (by decide) ?_
            refine lv_aload_n hx hb dX11_pour_73 rfl (lv_at hl 1 rfl) ?_
            have r37 : 0 ≤ (I16 0 0).toInt ∧ (I16 0 0).toInt ≤ 719 := k21
            refine z_get (T := TX11) (N := 13) (ci := 11) (i := 0) (v := .int (I16 0 0)) hx hb hts zj_X11_pour_X11 hown hK hW rfl rfl 0 (by decide) (hts (.fieldLink RX11 85 "PetrolBoard" "today" "I") (me_s (me_l (me_l (me_l (me_l (me_l (me_l (me_l (List.mem_of_getElem? (i := 3) rfl)))))))))) (fun _ h => h) rfl dX11_pour_74 ?_
            refine lv_bipush (v := 30) hx hb dX11_pour_77 (by decide) ?_
            refine lv_idiv hx hb dX11_pour_79 (by decide) ?_
            refine lv_topi (fun x38 ex38 => ?_)
            have tx38 := z_tdiv ex38 rfl z_l30 (by decide)
            refine lv_aload_n hx hb dX11_pour_80 rfl (lv_at hl 1 rfl) ?_
            refine z_get (T := TX11) (N := 13) (ci := 11) (i := 0) (v := .int (I16 0 0)) hx hb hts zj_X11_pour_X11 hown hK hW rfl rfl 0 (by decide) (hts (.fieldLink RX11 85 "PetrolBoard" "today" "I") (me_s (me_l (me_l (me_l (me_l (me_l (me_l (me_l (List.mem_of_getElem? (i := 3) rfl)))))))))) (fun _ h => h) rfl dX11_pour_81 ?_
            refine z_ci hW hS hA (va_runV (As := [.int 0, .int x38, .int (I16 0 0)]) (rest := [.int x24, .ref (ad 35)]) ⟨hx, hb, hml, hown, hts⟩ (sx_X6_amount_x l G ad c I16 (by show 0 ≤ (I16 21 2).toInt ∧ (I16 21 2).toInt ≤ 12; exact k18) 0 x38 (I16 0 0) hc (by rw [f17 21 2 (by decide)]; exact hon) (fun j hj => by rw [(zv_fr2 f17 (by decide)) (200 + 5 * j) 0 (by omega)]; exact hmo j hj) (by decide) _) (cwV 3 hts gX11_pour_X6_amount rfl rfl rfl (by decide +kernel) ⟨Nat.le_of_ble_eq_true rfl, Nat.le_of_ble_eq_true rfl⟩) (z_preVS (i := 21) hK hW hS hA hSt rfl rfl) rfl rfl hl.1 rfl (lv_room (Nat.le_of_ble_eq_true rfl)) dX11_pour_84 ⟨Nat.le_of_ble_eq_true rfl, Nat.le_of_ble_eq_true rfl⟩) (fun r u1 H locs hp hW hS => ?_)
            obtain ⟨e9, hp⟩ := hp
            rw [e9] at hW
            refine lv_topi (fun x39 ex39 => ?_)
            rw [← ex39, show (0 : Int32).toInt = 0 by decide] at hp
            have hM40 : x39.toInt = zb_ax c I16 0 x38.toInt (I16 0 0).toInt := zb_f_e hp
            refine z_iast (i := 35) hx hb hK hW hS rfl (z_ix rfl (by omega) (by omega)) dX11_pour_87 (fun H locs hz1 hW hS => ?_)
            obtain ⟨I41, eI41⟩ : ∃ K : z_I, K = z_up I16 35 x24.toNatClampNeg x39 := ⟨_, rfl⟩
            rw [← eI41] at hW
            have f42 := z_fr_a f17 (show z_wa L_X11_pour_p 35 = true by decide) eI41
            refine lv_aload_n hx hb dX11_pour_88 rfl (lv_at hl 1 rfl) ?_
            refine z_get (T := TX11) (N := 13) (ci := 11) (i := 0) (v := .ref (ad 30)) hx hb hts zj_X11_pour_X11 hown hK hW rfl rfl 6 (by decide) (hts (.fieldLink RX11 44 "PetrolBoard" "pours" "LPetrolBoard$Pours;") (me_s (me_l (me_l (me_l (me_l (me_l (me_l (me_l (List.mem_of_getElem? (i := 2) rfl)))))))))) (fun _ h => h) rfl dX11_pour_89 ?_
            refine z_get (T := TX8) (N := 9) (ci := 8) (i := 30) (v := .ref (ad 37)) hx hb hts zj_X11_pour_X8 hown hK hW rfl rfl 6 (by decide) (hts (.fieldLink RX11 192 "PetrolBoard$Pours" "dyed" "[I") (me_s (me_l (me_l (me_l (me_l (me_l (me_l (me_l (List.mem_of_getElem? (i := 6) rfl)))))))))) (fun _ h => h) rfl dX11_pour_92 ?_
            refine lv_iload hx hb dX11_pour_95 (lv_at hl 0 rfl) ?_
            refine lv_aload_n hx hb dX11_pour_97 rfl (lv_at hl 1 rfl) ?_
            refine lv_iload_n hx hb dX11_pour_98 rfl (lv_at hl 3 rfl) ?_
            refine z_ci hW hS hA (va_runV (As := [.int a2]) (rest := [.int x24, .ref (ad 37)]) ⟨hx, hb, hml, hown, hts⟩ (sx_X11_isFarmerNow_d l G ad c I41 ⟨(by show 0 ≤ (I41 1 5).toInt ∧ (I41 1 5).toInt ≤ 30; rw [eI41, z_up_n (by decide)]; exact k19), (by show 0 ≤ (I41 1 11).toInt ∧ (I41 1 11).toInt ≤ 200; rw [eI41, z_up_n (by decide)]; exact k20)⟩ ⟨(by show 0 ≤ (I41 0 0).toInt ∧ (I41 0 0).toInt ≤ 719; rw [eI41, z_up_n (by decide)]; exact k21), (by show 0 ≤ (I41 0 8).toInt ∧ (I41 0 8).toInt ≤ 10; rw [eI41, z_up_n (by decide)]; exact k22)⟩ a2 hc h10 _) (cwV 1 hts gX11_pour_X11_isFarmerNow rfl rfl rfl (by decide +kernel) ⟨Nat.le_of_ble_eq_true rfl, Nat.le_of_ble_eq_true rfl⟩) (z_preV (i := 0) hK hW rfl rfl) rfl rfl hl.1 rfl (lv_room (Nat.le_of_ble_eq_true rfl)) dX11_pour_99 ⟨Nat.le_of_ble_eq_true rfl, Nat.le_of_ble_eq_true rfl⟩) (fun r u1 H locs hp hW hS => ?_)
            obtain ⟨e9, hp⟩ := hp
            rw [e9] at hW
            rcases hp with ⟨rfl, h43⟩ | ⟨rfl, h43⟩
            · refine lv_if_eq (tgt := 109) hx hb dX11_pour_102 (by decide) (fun c44 => absurd c44 (by decide)) (fun c44 => ?_)
              refine lv_iconst (v := 1) hx hb dX11_pour_105 (by decide) ?_
              refine lv_goto (tgt := 110) hx hb dX11_pour_106 (by decide) ?_
              refine z_iast (i := 37) hx hb hK hW hS rfl (z_ix rfl (by omega) (by omega)) dX11_pour_110 (fun H locs hz1 hW hS => ?_)
              obtain ⟨I45, eI45⟩ : ∃ K : z_I, K = z_up I41 37 x24.toNatClampNeg 1 := ⟨_, rfl⟩
              rw [← eI45] at hW
              have f46 := z_fr_a f42 (show z_wa L_X11_pour_p 37 = true by decide) eI45
              refine lv_aload_n hx hb dX11_pour_111 rfl (lv_at hl 1 rfl) ?_
              refine z_get (T := TX11) (N := 13) (ci := 11) (i := 0) (v := .ref (ad 30)) hx hb hts zj_X11_pour_X11 hown hK hW rfl rfl 6 (by decide) (hts (.fieldLink RX11 44 "PetrolBoard" "pours" "LPetrolBoard$Pours;") (me_s (me_l (me_l (me_l (me_l (me_l (me_l (me_l (List.mem_of_getElem? (i := 2) rfl)))))))))) (fun _ h => h) rfl dX11_pour_112 ?_
              refine z_get (T := TX8) (N := 9) (ci := 8) (i := 30) (v := .ref (ad 38)) hx hb hts zj_X11_pour_X8 hown hK hW rfl rfl 7 (by decide) (hts (.fieldLink RX11 198 "PetrolBoard$Pours" "ownerThen" "[I") (me_s (me_l (me_l (me_l (me_l (me_l (me_l (me_l (List.mem_of_getElem? (i := 7) rfl)))))))))) (fun _ h => h) rfl dX11_pour_115 ?_
              refine lv_iload hx hb dX11_pour_118 (lv_at hl 0 rfl) ?_
              refine lv_aload_n hx hb dX11_pour_120 rfl (lv_at hl 1 rfl) ?_
              refine z_get (T := TX11) (N := 13) (ci := 11) (i := 0) (v := .ref (ad 26)) hx hb hts zj_X11_pour_X11 hown hK hW rfl rfl 5 (by decide) (hts (.fieldLink RX11 37 "PetrolBoard" "coupons" "LPetrolBoard$Coupons;") (me_s (me_l (me_l (me_l (me_l (me_l (me_l (me_l (List.mem_of_getElem? (i := 8) rfl)))))))))) (fun _ h => h) rfl dX11_pour_121 ?_
              refine lv_iload_n hx hb dX11_pour_124 rfl (lv_at hl 4 rfl) ?_
              refine z_ci hW hS hA (va_runV (As := [.int a3]) (rest := [.int x24, .ref (ad 38)]) ⟨hx, hb, hml, hown, hts⟩ (sx_X0_ownerOf_c l G ad c I45 (by show 0 ≤ (I45 26 4).toInt ∧ (I45 26 4).toInt ≤ 512; rw [eI45, z_up_n (by decide), eI41, z_up_n (by decide)]; exact k23) a3 _) (cwV 1 hts gX11_pour_X0_ownerOf rfl rfl rfl (by decide +kernel) ⟨Nat.le_of_ble_eq_true rfl, Nat.le_of_ble_eq_true rfl⟩) (z_preV (i := 26) hK hW rfl rfl) rfl rfl hl.1 rfl (lv_room (Nat.le_of_ble_eq_true rfl)) dX11_pour_125 ⟨Nat.le_of_ble_eq_true rfl, Nat.le_of_ble_eq_true rfl⟩) (fun r u1 H locs hp hW hS => ?_)
              obtain ⟨e9, hp⟩ := hp
              rw [e9] at hW
              refine lv_topi (fun x47 ex47 => ?_)
              rw [← ex47] at hp
              have hP48 := hp
              refine z_iast (i := 38) hx hb hK hW hS rfl (z_ix rfl (by omega) (by omega)) dX11_pour_128 (fun H locs hz1 hW hS => ?_)
              obtain ⟨I49, eI49⟩ : ∃ K : z_I, K = z_up I45 38 x24.toNatClampNeg x47 := ⟨_, rfl⟩
              rw [← eI49] at hW
              have f50 := z_fr_a f46 (show z_wa L_X11_pour_p 38 = true by decide) eI49
              refine lv_iload hx hb dX11_pour_129 (lv_at hl 0 rfl) ?_
              exact z_iret hx hb hr hK hS (Nat.le_of_ble_eq_true rfl) (Nat.le_of_ble_eq_true rfl) hlocks dX11_pour_131 (shC c, ad, I49, JX, PC c ad) hW ⟨I49, rfl, (by show 0 ≤ (I49 30 8).toInt ∧ (I49 30 8).toInt ≤ 300; rw [eI49, z_up_n (by decide), eI45, z_up_n (by decide), eI41, z_up_n (by decide)]; exact hI16P), (by show 0 ≤ (I49 21 2).toInt ∧ (I49 21 2).toInt ≤ 12; rw [eI49, z_up_n (by decide), eI45, z_up_n (by decide), eI41, z_up_n (by decide)]; exact k18), ⟨(by show 0 ≤ (I49 1 5).toInt ∧ (I49 1 5).toInt ≤ 30; rw [eI49, z_up_n (by decide), eI45, z_up_n (by decide), eI41, z_up_n (by decide)]; exact k19), (by show 0 ≤ (I49 1 11).toInt ∧ (I49 1 11).toInt ≤ 200; rw [eI49, z_up_n (by decide), eI45, z_up_n (by decide), eI41, z_up_n (by decide)]; exact k20)⟩, ⟨(by show 0 ≤ (I49 0 0).toInt ∧ (I49 0 0).toInt ≤ 719; rw [eI49, z_up_n (by decide), eI45, z_up_n (by decide), eI41, z_up_n (by decide)]; exact k21), (by show 0 ≤ (I49 0 8).toInt ∧ (I49 0 8).toInt ≤ 10; rw [eI49, z_up_n (by decide), eI45, z_up_n (by decide), eI41, z_up_n (by decide)]; exact k22)⟩, (by show 0 ≤ (I49 26 4).toInt ∧ (I49 26 4).toInt ≤ 512; rw [eI49, z_up_n (by decide), eI45, z_up_n (by decide), eI41, z_up_n (by decide)]; exact k23), f50, (Or.inl ⟨by omega, by omega, (by have q9 : (I49 30 8) = (I16 30 8) := (by rw [eI49, z_up_n (by decide), eI45, z_up_n (by decide), eI41, z_up_n (by decide)]); show (I49 30 8).toInt = (I 30 8).toInt + 1; rw [q9]; first | done | omega), x39, 1, x47, (by have q1 : (I16 0 0).toInt = (I 0 0).toInt := (by rw [f17 0 0 (by decide)]); rw [hM40, zb_ax_c (zv_fr2 f17 (by decide)), show x38.toInt = (I 0 0).toInt / 30 by omega, show (I16 0 0).toInt = (I 0 0).toInt by omega]), (Or.inl ⟨by decide, (z_fx_c (a := a2) (fun j => ⟨f42 7 j (z_wr_c (by decide)), f42 8 j (z_wr_c (by decide)), f42 9 j (z_wr_c (by decide)), f42 10 j (z_wr_c (by decide)), f42 11 j (z_wr_c (by decide))⟩) (f42 0 0 (by decide)) (f42 1 11 (by decide))).symm.trans h43⟩), ((zb_OX_e hP48).trans (zb_OX_c (fun j => f46 27 j (z_wr_c (by decide))) (fun j => f46 28 j (z_wr_c (by decide))) (fun j => f46 29 j (z_wr_c (by decide))) (f46 26 4 (by decide)))), (fun j => by rw [eI49, z_up_n (by decide), eI45, z_up_n (by decide), eI41, z_up_n (by decide), h28 j]), (fun j => by rw [eI49, z_up_n (by decide), eI45, z_up_n (by decide), eI41, z_up_n (by decide), h29 j]), (fun j => by rw [eI49, z_up_n (by decide), eI45, z_up_n (by decide), eI41, z_up_n (by decide), h30 j]), (fun j => by rw [eI49, z_up_n (by decide), eI45, z_up_n (by decide), eI41, z_up_n (by decide), h31 j]), (fun j => by rw [eI49, z_up_n (by decide), eI45, z_up_n (by decide), eI41, z_up_j, fI16 35 j (z_wr_c (by decide)), (show x24.toNatClampNeg = (I 30 8).toNatClampNeg from by show x24.toInt.toNat = (I 30 8).toInt.toNat; omega)]), (fun j => by rw [eI49, z_up_n (by decide), eI45, z_up_n (by decide), eI41, z_up_n (by decide), h32 j]), (fun j => by rw [eI49, z_up_n (by decide), eI45, z_up_j, eI41, z_up_n (by decide), fI16 37 j (z_wr_c (by decide)), (show x24.toNatClampNeg = (I 30 8).toNatClampNeg from by show x24.toInt.toNat = (I 30 8).toInt.toNat; omega)]), (fun j => by rw [eI49, z_up_j, eI45, z_up_n (by decide), eI41, z_up_n (by decide), fI16 38 j (z_wr_c (by decide)), (show x24.toNatClampNeg = (I 30 8).toNatClampNeg from by show x24.toInt.toNat = (I 30 8).toInt.toNat; omega)])⟩)⟩
            · refine lv_if_eq (tgt := 109) hx hb dX11_pour_102 (by decide) (fun c51 => ?_) (fun c51 => absurd (by decide) c51)
              refine lv_iconst (v := 0) hx hb dX11_pour_109 (by decide) ?_
              refine z_iast (i := 37) hx hb hK hW hS rfl (z_ix rfl (by omega) (by omega)) dX11_pour_110 (fun H locs hz1 hW hS => ?_)
              obtain ⟨I52, eI52⟩ : ∃ K : z_I, K = z_up I41 37 x24.toNatClampNeg 0 := ⟨_, rfl⟩
              rw [← eI52] at hW
              have f53 := z_fr_a f42 (show z_wa L_X11_pour_p 37 = true by decide) eI52
              refine lv_aload_n hx hb dX11_pour_111 rfl (lv_at hl 1 rfl) ?_
              refine z_get (T := TX11) (N := 13) (ci := 11) (i := 0) (v := .ref (ad 30)) hx hb hts zj_X11_pour_X11 hown hK hW rfl rfl 6 (by decide) (hts (.fieldLink RX11 44 "PetrolBoard" "pours" "LPetrolBoard$Pours;") (me_s (me_l (me_l (me_l (me_l (me_l (me_l (me_l (List.mem_of_getElem? (i := 2) rfl)))))))))) (fun _ h => h) rfl dX11_pour_112 ?_
              refine z_get (T := TX8) (N := 9) (ci := 8) (i := 30) (v := .ref (ad 38)) hx hb hts zj_X11_pour_X8 hown hK hW rfl rfl 7 (by decide) (hts (.fieldLink RX11 198 "PetrolBoard$Pours" "ownerThen" "[I") (me_s (me_l (me_l (me_l (me_l (me_l (me_l (me_l (List.mem_of_getElem? (i := 7) rfl)))))))))) (fun _ h => h) rfl dX11_pour_115 ?_
              refine lv_iload hx hb dX11_pour_118 (lv_at hl 0 rfl) ?_
              refine lv_aload_n hx hb dX11_pour_120 rfl (lv_at hl 1 rfl) ?_
              refine z_get (T := TX11) (N := 13) (ci := 11) (i := 0) (v := .ref (ad 26)) hx hb hts zj_X11_pour_X11 hown hK hW rfl rfl 5 (by decide) (hts (.fieldLink RX11 37 "PetrolBoard" "coupons" "LPetrolBoard$Coupons;") (me_s (me_l (me_l (me_l (me_l (me_l (me_l (me_l (List.mem_of_getElem? (i := 8) rfl)))))))))) (fun _ h => h) rfl dX11_pour_121 ?_
              refine lv_iload_n hx hb dX11_pour_124 rfl (lv_at hl 4 rfl) ?_
              refine z_ci hW hS hA (va_runV (As := [.int a3]) (rest := [.int x24, .ref (ad 38)]) ⟨hx, hb, hml, hown, hts⟩ (sx_X0_ownerOf_c l G ad c I52 (by show 0 ≤ (I52 26 4).toInt ∧ (I52 26 4).toInt ≤ 512; rw [eI52, z_up_n (by decide), eI41, z_up_n (by decide)]; exact k23) a3 _) (cwV 1 hts gX11_pour_X0_ownerOf rfl rfl rfl (by decide +kernel) ⟨Nat.le_of_ble_eq_true rfl, Nat.le_of_ble_eq_true rfl⟩) (z_preV (i := 26) hK hW rfl rfl) rfl rfl hl.1 rfl (lv_room (Nat.le_of_ble_eq_true rfl)) dX11_pour_125 ⟨Nat.le_of_ble_eq_true rfl, Nat.le_of_ble_eq_true rfl⟩) (fun r u1 H locs hp hW hS => ?_)
              obtain ⟨e9, hp⟩ := hp
              rw [e9] at hW
              refine lv_topi (fun x54 ex54 => ?_)
              rw [← ex54] at hp
              have hP55 := hp
              refine z_iast (i := 38) hx hb hK hW hS rfl (z_ix rfl (by omega) (by omega)) dX11_pour_128 (fun H locs hz1 hW hS => ?_)
              obtain ⟨I56, eI56⟩ : ∃ K : z_I, K = z_up I52 38 x24.toNatClampNeg x54 := ⟨_, rfl⟩
              rw [← eI56] at hW
              have f57 := z_fr_a f53 (show z_wa L_X11_pour_p 38 = true by decide) eI56
              refine lv_iload hx hb dX11_pour_129 (lv_at hl 0 rfl) ?_
              exact z_iret hx hb hr hK hS (Nat.le_of_ble_eq_true rfl) (Nat.le_of_ble_eq_true rfl) hlocks dX11_pour_131 (shC c, ad, I56, JX, PC c ad) hW ⟨I56, rfl, (by show 0 ≤ (I56 30 8).toInt ∧ (I56 30 8).toInt ≤ 300; rw [eI56, z_up_n (by decide), eI52, z_up_n (by decide), eI41, z_up_n (by decide)]; exact hI16P), (by show 0 ≤ (I56 21 2).toInt ∧ (I56 21 2).toInt ≤ 12; rw [eI56, z_up_n (by decide), eI52, z_up_n (by decide), eI41, z_up_n (by decide)]; exact k18), ⟨(by show 0 ≤ (I56 1 5).toInt ∧ (I56 1 5).toInt ≤ 30; rw [eI56, z_up_n (by decide), eI52, z_up_n (by decide), eI41, z_up_n (by decide)]; exact k19), (by show 0 ≤ (I56 1 11).toInt ∧ (I56 1 11).toInt ≤ 200; rw [eI56, z_up_n (by decide), eI52, z_up_n (by decide), eI41, z_up_n (by decide)]; exact k20)⟩, ⟨(by show 0 ≤ (I56 0 0).toInt ∧ (I56 0 0).toInt ≤ 719; rw [eI56, z_up_n (by decide), eI52, z_up_n (by decide), eI41, z_up_n (by decide)]; exact k21), (by show 0 ≤ (I56 0 8).toInt ∧ (I56 0 8).toInt ≤ 10; rw [eI56, z_up_n (by decide), eI52, z_up_n (by decide), eI41, z_up_n (by decide)]; exact k22)⟩, (by show 0 ≤ (I56 26 4).toInt ∧ (I56 26 4).toInt ≤ 512; rw [eI56, z_up_n (by decide), eI52, z_up_n (by decide), eI41, z_up_n (by decide)]; exact k23), f57, (Or.inl ⟨by omega, by omega, (by have q9 : (I56 30 8) = (I16 30 8) := (by rw [eI56, z_up_n (by decide), eI52, z_up_n (by decide), eI41, z_up_n (by decide)]); show (I56 30 8).toInt = (I 30 8).toInt + 1; rw [q9]; first | done | omega), x39, 0, x54, (by have q1 : (I16 0 0).toInt = (I 0 0).toInt := (by rw [f17 0 0 (by decide)]); rw [hM40, zb_ax_c (zv_fr2 f17 (by decide)), show x38.toInt = (I 0 0).toInt / 30 by omega, show (I16 0 0).toInt = (I 0 0).toInt by omega]), (Or.inr ⟨by decide, fun q => h43 ((z_fx_c (a := a2) (fun j => ⟨f42 7 j (z_wr_c (by decide)), f42 8 j (z_wr_c (by decide)), f42 9 j (z_wr_c (by decide)), f42 10 j (z_wr_c (by decide)), f42 11 j (z_wr_c (by decide))⟩) (f42 0 0 (by decide)) (f42 1 11 (by decide))).trans q)⟩), ((zb_OX_e hP55).trans (zb_OX_c (fun j => f53 27 j (z_wr_c (by decide))) (fun j => f53 28 j (z_wr_c (by decide))) (fun j => f53 29 j (z_wr_c (by decide))) (f53 26 4 (by decide)))), (fun j => by rw [eI56, z_up_n (by decide), eI52, z_up_n (by decide), eI41, z_up_n (by decide), h28 j]), (fun j => by rw [eI56, z_up_n (by decide), eI52, z_up_n (by decide), eI41, z_up_n (by decide), h29 j]), (fun j => by rw [eI56, z_up_n (by decide), eI52, z_up_n (by decide), eI41, z_up_n (by decide), h30 j]), (fun j => by rw [eI56, z_up_n (by decide), eI52, z_up_n (by decide), eI41, z_up_n (by decide), h31 j]), (fun j => by rw [eI56, z_up_n (by decide), eI52, z_up_n (by decide), eI41, z_up_j, fI16 35 j (z_wr_c (by decide)), (show x24.toNatClampNeg = (I 30 8).toNatClampNeg from by show x24.toInt.toNat = (I 30 8).toInt.toNat; omega)]), (fun j => by rw [eI56, z_up_n (by decide), eI52, z_up_n (by decide), eI41, z_up_n (by decide), h32 j]), (fun j => by rw [eI56, z_up_n (by decide), eI52, z_up_j, eI41, z_up_n (by decide), fI16 37 j (z_wr_c (by decide)), (show x24.toNatClampNeg = (I 30 8).toNatClampNeg from by show x24.toInt.toNat = (I 30 8).toInt.toNat; omega)]), (fun j => by rw [eI56, z_up_j, eI52, z_up_n (by decide), eI41, z_up_n (by decide), fI16 38 j (z_wr_c (by decide)), (show x24.toNatClampNeg = (I 30 8).toNatClampNeg from by show x24.toInt.toNat = (I 30 8).toInt.toNat; omega)])⟩)⟩
          · have h58 := h33
            have r59 : 0 ≤ (I16 30 8).toInt ∧ (I16 30 8).toInt ≤ 300 := hI16P
            refine lv_if_eq (tgt := 129) hx hb dX11_pour_56 (by decide) (fun c60 => ?_) (fun c60 => absurd (by decide) c60)
            refine lv_iload hx hb dX11_pour_129 (lv_at hl 0 rfl) ?_
            exact z_iret hx hb hr hK hS (Nat.le_of_ble_eq_true rfl) (Nat.le_of_ble_eq_true rfl) hlocks dX11_pour_131 (shC c, ad, I16, JX, PC c ad) hW ⟨I16, rfl, (by show 0 ≤ (I16 30 8).toInt ∧ (I16 30 8).toInt ≤ 300; exact hI16P), (by show 0 ≤ (I16 21 2).toInt ∧ (I16 21 2).toInt ≤ 12; exact k18), ⟨(by show 0 ≤ (I16 1 5).toInt ∧ (I16 1 5).toInt ≤ 30; exact k19), (by show 0 ≤ (I16 1 11).toInt ∧ (I16 1 11).toInt ≤ 200; exact k20)⟩, ⟨(by show 0 ≤ (I16 0 0).toInt ∧ (I16 0 0).toInt ≤ 719; exact k21), (by show 0 ≤ (I16 0 8).toInt ∧ (I16 0 8).toInt ≤ 10; exact k22)⟩, (by show 0 ≤ (I16 26 4).toInt ∧ (I16 26 4).toInt ≤ 512; exact k23), f17, (by exfalso; have q9 : 0 ≤ (I 30 8).toInt := hP.1; omega)⟩
        · refine lv_istore (lv' := [(4, .int x24), (0, .ref (ad 0)), (1, .int a1), (2, .int a2), (3, .int a3)]) hx hb dX11_pour_45 hl (by decide) rfl (fun ls hl => ?_)
          refine lv_aload_n hx hb dX11_pour_47 rfl (lv_at hl 1 rfl) ?_
          refine z_get (T := TX11) (N := 13) (ci := 11) (i := 0) (v := .ref (ad 30)) hx hb hts zj_X11_pour_X11 hown hK hW rfl rfl 6 (by decide) (hts (.fieldLink RX11 44 "PetrolBoard" "pours" "LPetrolBoard$Pours;") (me_s (me_l (me_l (me_l (me_l (me_l (me_l (me_l (List.mem_of_getElem? (i := 2) rfl)))))))))) (fun _ h => h) rfl dX11_pour_48 ?_
          refine lv_iload hx hb dX11_pour_51 (lv_at hl 0 rfl) ?_
          refine z_ci hW hS hA (va_runV (As := [.int x24]) (rest := []) ⟨hx, hb, hml, hown, hts⟩ (sx_X8_has_p l G ad c I16 (by show 0 ≤ (I16 30 8).toInt ∧ (I16 30 8).toInt ≤ 300; exact hI16P) x24 _) (cwV 1 hts gX11_pour_X8_has rfl rfl rfl (by decide +kernel) ⟨Nat.le_of_ble_eq_true rfl, Nat.le_of_ble_eq_true rfl⟩) (z_preV (i := 30) hK hW rfl rfl) rfl rfl hl.1 rfl (lv_room (Nat.le_of_ble_eq_true rfl)) dX11_pour_53 ⟨Nat.le_of_ble_eq_true rfl, Nat.le_of_ble_eq_true rfl⟩) (fun r u1 H locs hp hW hS => ?_)
          obtain ⟨e9, hp⟩ := hp
          rw [e9] at hW
          rcases hp with ⟨rfl, h61⟩ | ⟨rfl, h61⟩
          · have h62 := h61
            have r63 : 0 ≤ (I16 30 8).toInt ∧ (I16 30 8).toInt ≤ 300 := hI16P
            refine lv_if_eq (tgt := 129) hx hb dX11_pour_56 (by decide) (fun c64 => absurd c64 (by decide)) (fun c64 => ?_)
            refine lv_aload_n hx hb dX11_pour_59 rfl (lv_at hl 1 rfl) ?_
            refine z_get (T := TX11) (N := 13) (ci := 11) (i := 0) (v := .ref (ad 30)) hx hb hts zj_X11_pour_X11 hown hK hW rfl rfl 6 (by decide) (hts (.fieldLink RX11 44 "PetrolBoard" "pours" "LPetrolBoard$Pours;") (me_s (me_l (me_l (me_l (me_l (me_l (me_l (me_l (List.mem_of_getElem? (i := 2) rfl)))))))))) (fun _ h => h) rfl dX11_pour_60 ?_
            refine z_get (T := TX8) (N := 9) (ci := 8) (i := 30) (v := .ref (ad 35)) hx hb hts zj_X11_pour_X8 hown hK hW rfl rfl 4 (by decide) (hts (.fieldLink RX11 189 "PetrolBoard$Pours" "tenths" "[I") (me_s (me_l (me_l (me_l (me_l (me_l (me_l (me_l (List.mem_of_getElem? (i := 4) rfl)))))))))) (fun _ h => h) rfl dX11_pour_63 ?_
            refine lv_iload hx hb dX11_pour_66 (lv_at hl 0 rfl) ?_
            refine lv_aload_n hx hb dX11_pour_68 rfl (lv_at hl 1 rfl) ?_
            refine z_get (T := TX11) (N := 13) (ci := 11) (i := 0) (v := .ref (ad 21)) hx hb hts zj_X11_pour_X11 hown hK hW rfl rfl 4 (by decide) (hts (.fieldLink RX11 30 "PetrolBoard" "orderBook" "LPetrolBoard$OrderBook;") (me_s (me_l (me_l (me_l (me_l (me_l (me_l (me_l (List.mem_of_getElem? (i := 5) rfl)))))))))) (fun _ h => h) rfl dX11_pour_69 ?_
            refine lv_iconst (v := 0) hx hb dX11_pour_72 (by decide) ?_
            refine lv_aload_n hx hb dX11_pour_73 rfl (lv_at hl 1 rfl) ?_
            have r65 : 0 ≤ (I16 0 0).toInt ∧ (I16 0 0).toInt ≤ 719 := k21
            refine z_get (T := TX11) (N := 13) (ci := 11) (i := 0) (v := .int (I16 0 0)) hx hb hts zj_X11_pour_X11 hown hK hW rfl rfl 0 (by decide) (hts (.fieldLink RX11 85 "PetrolBoard" "today" "I") (me_s (me_l (me_l (me_l (me_l (me_l (me_l (me_l (List.mem_of_getElem? (i := 3) rfl)))))))))) (fun _ h => h) rfl dX11_pour_74 ?_
            refine lv_bipush (v := 30) hx hb dX11_pour_77 (by decide) ?_
            refine lv_idiv hx hb dX11_pour_79 (by decide) ?_
            refine lv_topi (fun x66 ex66 => ?_)
            have tx66 := z_tdiv ex66 rfl z_l30 (by decide)
            refine lv_aload_n hx hb dX11_pour_80 rfl (lv_at hl 1 rfl) ?_
            refine z_get (T := TX11) (N := 13) (ci := 11) (i := 0) (v := .int (I16 0 0)) hx hb hts zj_X11_pour_X11 hown hK hW rfl rfl 0 (by decide) (hts (.fieldLink RX11 85 "PetrolBoard" "today" "I") (me_s (me_l (me_l (me_l (me_l (me_l (me_l (me_l (List.mem_of_getElem? (i := 3) rfl)))))))))) (fun _ h => h) rfl dX11_pour_81 ?_
            refine z_ci hW hS hA (va_runV (As := [.int 0, .int x66, .int (I16 0 0)]) (rest := [.int x24, .ref (ad 35)]) ⟨hx, hb, hml, hown, hts⟩ (sx_X6_amount_x l G ad c I16 (by show 0 ≤ (I16 21 2).toInt ∧ (I16 21 2).toInt ≤ 12; exact k18) 0 x66 (I16 0 0) hc (by rw [f17 21 2 (by decide)]; exact hon) (fun j hj => by rw [(zv_fr2 f17 (by decide)) (200 + 5 * j) 0 (by omega)]; exact hmo j hj) (by decide) _) (cwV 3 hts gX11_pour_X6_amount rfl rfl rfl (by decide +kernel) ⟨Nat.le_of_ble_eq_true rfl, Nat.le_of_ble_eq_true rfl⟩) (z_preVS (i := 21) hK hW hS hA hSt rfl rfl) rfl rfl hl.1 rfl (lv_room (Nat.le_of_ble_eq_true rfl)) dX11_pour_84 ⟨Nat.le_of_ble_eq_true rfl, Nat.le_of_ble_eq_true rfl⟩) (fun r u1 H locs hp hW hS => ?_)
            obtain ⟨e9, hp⟩ := hp
            rw [e9] at hW
            refine lv_topi (fun x67 ex67 => ?_)
            rw [← ex67, show (0 : Int32).toInt = 0 by decide] at hp
            have hM68 : x67.toInt = zb_ax c I16 0 x66.toInt (I16 0 0).toInt := zb_f_e hp
            refine z_iast (i := 35) hx hb hK hW hS rfl (z_ix rfl (by omega) (by omega)) dX11_pour_87 (fun H locs hz1 hW hS => ?_)
            obtain ⟨I69, eI69⟩ : ∃ K : z_I, K = z_up I16 35 x24.toNatClampNeg x67 := ⟨_, rfl⟩
            rw [← eI69] at hW
            have f70 := z_fr_a f17 (show z_wa L_X11_pour_p 35 = true by decide) eI69
            refine lv_aload_n hx hb dX11_pour_88 rfl (lv_at hl 1 rfl) ?_
            refine z_get (T := TX11) (N := 13) (ci := 11) (i := 0) (v := .ref (ad 30)) hx hb hts zj_X11_pour_X11 hown hK hW rfl rfl 6 (by decide) (hts (.fieldLink RX11 44 "PetrolBoard" "pours" "LPetrolBoard$Pours;") (me_s (me_l (me_l (me_l (me_l (me_l (me_l (me_l (List.mem_of_getElem? (i := 2) rfl)))))))))) (fun _ h => h) rfl dX11_pour_89 ?_
            refine z_get (T := TX8) (N := 9) (ci := 8) (i := 30) (v := .ref (ad 37)) hx hb hts zj_X11_pour_X8 hown hK hW rfl rfl 6 (by decide) (hts (.fieldLink RX11 192 "PetrolBoard$Pours" "dyed" "[I") (me_s (me_l (me_l (me_l (me_l (me_l (me_l (me_l (List.mem_of_getElem? (i := 6) rfl)))))))))) (fun _ h => h) rfl dX11_pour_92 ?_
            refine lv_iload hx hb dX11_pour_95 (lv_at hl 0 rfl) ?_
            refine lv_aload_n hx hb dX11_pour_97 rfl (lv_at hl 1 rfl) ?_
            refine lv_iload_n hx hb dX11_pour_98 rfl (lv_at hl 3 rfl) ?_
            refine z_ci hW hS hA (va_runV (As := [.int a2]) (rest := [.int x24, .ref (ad 37)]) ⟨hx, hb, hml, hown, hts⟩ (sx_X11_isFarmerNow_d l G ad c I69 ⟨(by show 0 ≤ (I69 1 5).toInt ∧ (I69 1 5).toInt ≤ 30; rw [eI69, z_up_n (by decide)]; exact k19), (by show 0 ≤ (I69 1 11).toInt ∧ (I69 1 11).toInt ≤ 200; rw [eI69, z_up_n (by decide)]; exact k20)⟩ ⟨(by show 0 ≤ (I69 0 0).toInt ∧ (I69 0 0).toInt ≤ 719; rw [eI69, z_up_n (by decide)]; exact k21), (by show 0 ≤ (I69 0 8).toInt ∧ (I69 0 8).toInt ≤ 10; rw [eI69, z_up_n (by decide)]; exact k22)⟩ a2 hc h10 _) (cwV 1 hts gX11_pour_X11_isFarmerNow rfl rfl rfl (by decide +kernel) ⟨Nat.le_of_ble_eq_true rfl, Nat.le_of_ble_eq_true rfl⟩) (z_preV (i := 0) hK hW rfl rfl) rfl rfl hl.1 rfl (lv_room (Nat.le_of_ble_eq_true rfl)) dX11_pour_99 ⟨Nat.le_of_ble_eq_true rfl, Nat.le_of_ble_eq_true rfl⟩) (fun r u1 H locs hp hW hS => ?_)
            obtain ⟨e9, hp⟩ := hp
            rw [e9] at hW
            rcases hp with ⟨rfl, h71⟩ | ⟨rfl, h71⟩
            · refine lv_if_eq (tgt := 109) hx hb dX11_pour_102 (by decide) (fun c72 => absurd c72 (by decide)) (fun c72 => ?_)
              refine lv_iconst (v := 1) hx hb dX11_pour_105 (by decide) ?_
              refine lv_goto (tgt := 110) hx hb dX11_pour_106 (by decide) ?_
              refine z_iast (i := 37) hx hb hK hW hS rfl (z_ix rfl (by omega) (by omega)) dX11_pour_110 (fun H locs hz1 hW hS => ?_)
              obtain ⟨I73, eI73⟩ : ∃ K : z_I, K = z_up I69 37 x24.toNatClampNeg 1 := ⟨_, rfl⟩
              rw [← eI73] at hW
              have f74 := z_fr_a f70 (show z_wa L_X11_pour_p 37 = true by decide) eI73
              refine lv_aload_n hx hb dX11_pour_111 rfl (lv_at hl 1 rfl) ?_
              refine z_get (T := TX11) (N := 13) (ci := 11) (i := 0) (v := .ref (ad 30)) hx hb hts zj_X11_pour_X11 hown hK hW rfl rfl 6 (by decide) (hts (.fieldLink RX11 44 "PetrolBoard" "pours" "LPetrolBoard$Pours;") (me_s (me_l (me_l (me_l (me_l (me_l (me_l (me_l (List.mem_of_getElem? (i := 2) rfl)))))))))) (fun _ h => h) rfl dX11_pour_112 ?_
              refine z_get (T := TX8) (N := 9) (ci := 8) (i := 30) (v := .ref (ad 38)) hx hb hts zj_X11_pour_X8 hown hK hW rfl rfl 7 (by decide) (hts (.fieldLink RX11 198 "PetrolBoard$Pours" "ownerThen" "[I") (me_s (me_l (me_l (me_l (me_l (me_l (me_l (me_l (List.mem_of_getElem? (i := 7) rfl)))))))))) (fun _ h => h) rfl dX11_pour_115 ?_
              refine lv_iload hx hb dX11_pour_118 (lv_at hl 0 rfl) ?_
              refine lv_aload_n hx hb dX11_pour_120 rfl (lv_at hl 1 rfl) ?_
              refine z_get (T := TX11) (N := 13) (ci := 11) (i := 0) (v := .ref (ad 26)) hx hb hts zj_X11_pour_X11 hown hK hW rfl rfl 5 (by decide) (hts (.fieldLink RX11 37 "PetrolBoard" "coupons" "LPetrolBoard$Coupons;") (me_s (me_l (me_l (me_l (me_l (me_l (me_l (me_l (List.mem_of_getElem? (i := 8) rfl)))))))))) (fun _ h => h) rfl dX11_pour_121 ?_
              refine lv_iload_n hx hb dX11_pour_124 rfl (lv_at hl 4 rfl) ?_
              refine z_ci hW hS hA (va_runV (As := [.int a3]) (rest := [.int x24, .ref (ad 38)]) ⟨hx, hb, hml, hown, hts⟩ (sx_X0_ownerOf_c l G ad c I73 (by show 0 ≤ (I73 26 4).toInt ∧ (I73 26 4).toInt ≤ 512; rw [eI73, z_up_n (by decide), eI69, z_up_n (by decide)]; exact k23) a3 _) (cwV 1 hts gX11_pour_X0_ownerOf rfl rfl rfl (by decide +kernel) ⟨Nat.le_of_ble_eq_true rfl, Nat.le_of_ble_eq_true rfl⟩) (z_preV (i := 26) hK hW rfl rfl) rfl rfl hl.1 rfl (lv_room (Nat.le_of_ble_eq_true rfl)) dX11_pour_125 ⟨Nat.le_of_ble_eq_true rfl, Nat.le_of_ble_eq_true rfl⟩) (fun r u1 H locs hp hW hS => ?_)
              obtain ⟨e9, hp⟩ := hp
              rw [e9] at hW
              refine lv_topi (fun x75 ex75 => ?_)
              rw [← ex75] at hp
              have hP76 := hp
              refine z_iast (i := 38) hx hb hK hW hS rfl (z_ix rfl (by omega) (by omega)) dX11_pour_128 (fun H locs hz1 hW hS => ?_)
              obtain ⟨I77, eI77⟩ : ∃ K : z_I, K = z_up I73 38 x24.toNatClampNeg x75 := ⟨_, rfl⟩
              rw [← eI77] at hW
              have f78 := z_fr_a f74 (show z_wa L_X11_pour_p 38 = true by decide) eI77
              refine lv_iload hx hb dX11_pour_129 (lv_at hl 0 rfl) ?_
              exact z_iret hx hb hr hK hS (Nat.le_of_ble_eq_true rfl) (Nat.le_of_ble_eq_true rfl) hlocks dX11_pour_131 (shC c, ad, I77, JX, PC c ad) hW ⟨I77, rfl, (by show 0 ≤ (I77 30 8).toInt ∧ (I77 30 8).toInt ≤ 300; rw [eI77, z_up_n (by decide), eI73, z_up_n (by decide), eI69, z_up_n (by decide)]; exact hI16P), (by show 0 ≤ (I77 21 2).toInt ∧ (I77 21 2).toInt ≤ 12; rw [eI77, z_up_n (by decide), eI73, z_up_n (by decide), eI69, z_up_n (by decide)]; exact k18), ⟨(by show 0 ≤ (I77 1 5).toInt ∧ (I77 1 5).toInt ≤ 30; rw [eI77, z_up_n (by decide), eI73, z_up_n (by decide), eI69, z_up_n (by decide)]; exact k19), (by show 0 ≤ (I77 1 11).toInt ∧ (I77 1 11).toInt ≤ 200; rw [eI77, z_up_n (by decide), eI73, z_up_n (by decide), eI69, z_up_n (by decide)]; exact k20)⟩, ⟨(by show 0 ≤ (I77 0 0).toInt ∧ (I77 0 0).toInt ≤ 719; rw [eI77, z_up_n (by decide), eI73, z_up_n (by decide), eI69, z_up_n (by decide)]; exact k21), (by show 0 ≤ (I77 0 8).toInt ∧ (I77 0 8).toInt ≤ 10; rw [eI77, z_up_n (by decide), eI73, z_up_n (by decide), eI69, z_up_n (by decide)]; exact k22)⟩, (by show 0 ≤ (I77 26 4).toInt ∧ (I77 26 4).toInt ≤ 512; rw [eI77, z_up_n (by decide), eI73, z_up_n (by decide), eI69, z_up_n (by decide)]; exact k23), f78, (by exfalso; have q9 : 0 ≤ (I 30 8).toInt := hP.1; omega)⟩
            · refine lv_if_eq (tgt := 109) hx hb dX11_pour_102 (by decide) (fun c79 => ?_) (fun c79 => absurd (by decide) c79)
              refine lv_iconst (v := 0) hx hb dX11_pour_109 (by decide) ?_
              refine z_iast (i := 37) hx hb hK hW hS rfl (z_ix rfl (by omega) (by omega)) dX11_pour_110 (fun H locs hz1 hW hS => ?_)
              obtain ⟨I80, eI80⟩ : ∃ K : z_I, K = z_up I69 37 x24.toNatClampNeg 0 := ⟨_, rfl⟩
              rw [← eI80] at hW
              have f81 := z_fr_a f70 (show z_wa L_X11_pour_p 37 = true by decide) eI80
              refine lv_aload_n hx hb dX11_pour_111 rfl (lv_at hl 1 rfl) ?_
              refine z_get (T := TX11) (N := 13) (ci := 11) (i := 0) (v := .ref (ad 30)) hx hb hts zj_X11_pour_X11 hown hK hW rfl rfl 6 (by decide) (hts (.fieldLink RX11 44 "PetrolBoard" "pours" "LPetrolBoard$Pours;") (me_s (me_l (me_l (me_l (me_l (me_l (me_l (me_l (List.mem_of_getElem? (i := 2) rfl)))))))))) (fun _ h => h) rfl dX11_pour_112 ?_
              refine z_get (T := TX8) (N := 9) (ci := 8) (i := 30) (v := .ref (ad 38)) hx hb hts zj_X11_pour_X8 hown hK hW rfl rfl 7 (by decide) (hts (.fieldLink RX11 198 "PetrolBoard$Pours" "ownerThen" "[I") (me_s (me_l (me_l (me_l (me_l (me_l (me_l (me_l (List.mem_of_getElem? (i := 7) rfl)))))))))) (fun _ h => h) rfl dX11_pour_115 ?_
              refine lv_iload hx hb dX11_pour_118 (lv_at hl 0 rfl) ?_
              refine lv_aload_n hx hb dX11_pour_120 rfl (lv_at hl 1 rfl) ?_
              refine z_get (T := TX11) (N := 13) (ci := 11) (i := 0) (v := .ref (ad 26)) hx hb hts zj_X11_pour_X11 hown hK hW rfl rfl 5 (by decide) (hts (.fieldLink RX11 37 "PetrolBoard" "coupons" "LPetrolBoard$Coupons;") (me_s (me_l (me_l (me_l (me_l (me_l (me_l (me_l (List.mem_of_getElem? (i := 8) rfl)))))))))) (fun _ h => h) rfl dX11_pour_121 ?_
              refine lv_iload_n hx hb dX11_pour_124 rfl (lv_at hl 4 rfl) ?_
              refine z_ci hW hS hA (va_runV (As := [.int a3]) (rest := [.int x24, .ref (ad 38)]) ⟨hx, hb, hml, hown, hts⟩ (sx_X0_ownerOf_c l G ad c I80 (by show 0 ≤ (I80 26 4).toInt ∧ (I80 26 4).toInt ≤ 512; rw [eI80, z_up_n (by decide), eI69, z_up_n (by decide)]; exact k23) a3 _) (cwV 1 hts gX11_pour_X0_ownerOf rfl rfl rfl (by decide +kernel) ⟨Nat.le_of_ble_eq_true rfl, Nat.le_of_ble_eq_true rfl⟩) (z_preV (i := 26) hK hW rfl rfl) rfl rfl hl.1 rfl (lv_room (Nat.le_of_ble_eq_true rfl)) dX11_pour_125 ⟨Nat.le_of_ble_eq_true rfl, Nat.le_of_ble_eq_true rfl⟩) (fun r u1 H locs hp hW hS => ?_)
              obtain ⟨e9, hp⟩ := hp
              rw [e9] at hW
              refine lv_topi (fun x82 ex82 => ?_)
              rw [← ex82] at hp
              have hP83 := hp
              refine z_iast (i := 38) hx hb hK hW hS rfl (z_ix rfl (by omega) (by omega)) dX11_pour_128 (fun H locs hz1 hW hS => ?_)
              obtain ⟨I84, eI84⟩ : ∃ K : z_I, K = z_up I80 38 x24.toNatClampNeg x82 := ⟨_, rfl⟩
              rw [← eI84] at hW
              have f85 := z_fr_a f81 (show z_wa L_X11_pour_p 38 = true by decide) eI84
              refine lv_iload hx hb dX11_pour_129 (lv_at hl 0 rfl) ?_
              exact z_iret hx hb hr hK hS (Nat.le_of_ble_eq_true rfl) (Nat.le_of_ble_eq_true rfl) hlocks dX11_pour_131 (shC c, ad, I84, JX, PC c ad) hW ⟨I84, rfl, (by show 0 ≤ (I84 30 8).toInt ∧ (I84 30 8).toInt ≤ 300; rw [eI84, z_up_n (by decide), eI80, z_up_n (by decide), eI69, z_up_n (by decide)]; exact hI16P), (by show 0 ≤ (I84 21 2).toInt ∧ (I84 21 2).toInt ≤ 12; rw [eI84, z_up_n (by decide), eI80, z_up_n (by decide), eI69, z_up_n (by decide)]; exact k18), ⟨(by show 0 ≤ (I84 1 5).toInt ∧ (I84 1 5).toInt ≤ 30; rw [eI84, z_up_n (by decide), eI80, z_up_n (by decide), eI69, z_up_n (by decide)]; exact k19), (by show 0 ≤ (I84 1 11).toInt ∧ (I84 1 11).toInt ≤ 200; rw [eI84, z_up_n (by decide), eI80, z_up_n (by decide), eI69, z_up_n (by decide)]; exact k20)⟩, ⟨(by show 0 ≤ (I84 0 0).toInt ∧ (I84 0 0).toInt ≤ 719; rw [eI84, z_up_n (by decide), eI80, z_up_n (by decide), eI69, z_up_n (by decide)]; exact k21), (by show 0 ≤ (I84 0 8).toInt ∧ (I84 0 8).toInt ≤ 10; rw [eI84, z_up_n (by decide), eI80, z_up_n (by decide), eI69, z_up_n (by decide)]; exact k22)⟩, (by show 0 ≤ (I84 26 4).toInt ∧ (I84 26 4).toInt ≤ 512; rw [eI84, z_up_n (by decide), eI80, z_up_n (by decide), eI69, z_up_n (by decide)]; exact k23), f85, (by exfalso; have q9 : 0 ≤ (I 30 8).toInt := hP.1; omega)⟩
          · have h86 := h61
            have r87 : 0 ≤ (I16 30 8).toInt ∧ (I16 30 8).toInt ≤ 300 := hI16P
            refine lv_if_eq (tgt := 129) hx hb dX11_pour_56 (by decide) (fun c88 => ?_) (fun c88 => absurd (by decide) c88)
            refine lv_iload hx hb dX11_pour_129 (lv_at hl 0 rfl) ?_
            exact z_iret hx hb hr hK hS (Nat.le_of_ble_eq_true rfl) (Nat.le_of_ble_eq_true rfl) hlocks dX11_pour_131 (shC c, ad, I16, JX, PC c ad) hW ⟨I16, rfl, (by show 0 ≤ (I16 30 8).toInt ∧ (I16 30 8).toInt ≤ 300; exact hI16P), (by show 0 ≤ (I16 21 2).toInt ∧ (I16 21 2).toInt ≤ 12; exact k18), ⟨(by show 0 ≤ (I16 1 5).toInt ∧ (I16 1 5).toInt ≤ 30; exact k19), (by show 0 ≤ (I16 1 11).toInt ∧ (I16 1 11).toInt ≤ 200; exact k20)⟩, ⟨(by show 0 ≤ (I16 0 0).toInt ∧ (I16 0 0).toInt ≤ 719; exact k21), (by show 0 ≤ (I16 0 8).toInt ∧ (I16 0 8).toInt ≤ 10; exact k22)⟩, (by show 0 ≤ (I16 26 4).toInt ∧ (I16 26 4).toInt ≤ 512; exact k23), f17, (Or.inr ⟨by omega, by omega, (by show (I16 30 8).toInt = (I 30 8).toInt; omega), (fun j => ⟨(by rw [(h28 j).1]), (by rw [(h28 j).2.1]), (by rw [(h28 j).2.2.1]), (by rw [(h28 j).2.2.2.1]), (by rw [fI16 35 j (z_wr_c (by decide))]), (by rw [(h28 j).2.2.2.2]), (by rw [fI16 37 j (z_wr_c (by decide))]), (by rw [fI16 38 j (z_wr_c (by decide))])⟩)⟩)⟩
      · have h89 := h9
        have z90 := z_l0
        have z91 := z_l99999
        refine lv_if_ne (tgt := 31) hx hb dX11_pour_26 (by decide) (fun c92 => absurd (by decide) c92) (fun c92 => ?_)
        refine lv_iconst (v := (-1)) hx hb dX11_pour_29 (by decide) ?_
        exact z_iret hx hb hr hK hS (Nat.le_of_ble_eq_true rfl) (Nat.le_of_ble_eq_true rfl) hlocks dX11_pour_30 (shC c, ad, I, JX, PC c ad) hW ⟨I, rfl, (by show 0 ≤ (I 30 8).toInt ∧ (I 30 8).toInt ≤ 300; exact hP), (by show 0 ≤ (I 21 2).toInt ∧ (I 21 2).toInt ≤ 12; exact hO), ⟨(by show 0 ≤ (I 1 5).toInt ∧ (I 1 5).toInt ≤ 30; exact hH.1), (by show 0 ≤ (I 1 11).toInt ∧ (I 1 11).toInt ≤ 200; exact hH.2)⟩, ⟨(by show 0 ≤ (I 0 0).toInt ∧ (I 0 0).toInt ≤ 719; exact hB.1), (by show 0 ≤ (I 0 8).toInt ∧ (I 0 8).toInt ≤ 10; exact hB.2)⟩, (by show 0 ≤ (I 26 4).toInt ∧ (I 26 4).toInt ≤ 512; exact hC), z_fr_0, (Or.inr ⟨by omega, by decide, (by show (I 30 8).toInt = (I 30 8).toInt; omega), (fun j => ⟨rfl, rfl, rfl, rfl, rfl, rfl, rfl, rfl⟩)⟩)⟩
    · have h93 := h5
      have r94 : 0 ≤ (I 1 5).toInt ∧ (I 1 5).toInt ≤ 30 := hH.1
      refine lv_if_eq (tgt := 29) hx hb dX11_pour_16 (by decide) (fun c95 => ?_) (fun c95 => absurd (by decide) c95)
      refine lv_iconst (v := (-1)) hx hb dX11_pour_29 (by decide) ?_
      exact z_iret hx hb hr hK hS (Nat.le_of_ble_eq_true rfl) (Nat.le_of_ble_eq_true rfl) hlocks dX11_pour_30 (shC c, ad, I, JX, PC c ad) hW ⟨I, rfl, (by show 0 ≤ (I 30 8).toInt ∧ (I 30 8).toInt ≤ 300; exact hP), (by show 0 ≤ (I 21 2).toInt ∧ (I 21 2).toInt ≤ 12; exact hO), ⟨(by show 0 ≤ (I 1 5).toInt ∧ (I 1 5).toInt ≤ 30; exact hH.1), (by show 0 ≤ (I 1 11).toInt ∧ (I 1 11).toInt ≤ 200; exact hH.2)⟩, ⟨(by show 0 ≤ (I 0 0).toInt ∧ (I 0 0).toInt ≤ 719; exact hB.1), (by show 0 ≤ (I 0 8).toInt ∧ (I 0 8).toInt ≤ 10; exact hB.2)⟩, (by show 0 ≤ (I 26 4).toInt ∧ (I 26 4).toInt ≤ 512; exact hC), z_fr_0, (Or.inr ⟨by omega, by decide, (by show (I 30 8).toInt = (I 30 8).toInt; omega), (fun j => ⟨rfl, rfl, rfl, rfl, rfl, rfl, rfl, rfl⟩)⟩)⟩
  · have h96 := h1
    have r97 : 0 ≤ (I 0 8).toInt ∧ (I 0 8).toInt ≤ 10 := hB.2
    refine lv_if_eq (tgt := 29) hx hb dX11_pour_5 (by decide) (fun c98 => ?_) (fun c98 => absurd (by decide) c98)
    refine lv_iconst (v := (-1)) hx hb dX11_pour_29 (by decide) ?_
    exact z_iret hx hb hr hK hS (Nat.le_of_ble_eq_true rfl) (Nat.le_of_ble_eq_true rfl) hlocks dX11_pour_30 (shC c, ad, I, JX, PC c ad) hW ⟨I, rfl, (by show 0 ≤ (I 30 8).toInt ∧ (I 30 8).toInt ≤ 300; exact hP), (by show 0 ≤ (I 21 2).toInt ∧ (I 21 2).toInt ≤ 12; exact hO), ⟨(by show 0 ≤ (I 1 5).toInt ∧ (I 1 5).toInt ≤ 30; exact hH.1), (by show 0 ≤ (I 1 11).toInt ∧ (I 1 11).toInt ≤ 200; exact hH.2)⟩, ⟨(by show 0 ≤ (I 0 0).toInt ∧ (I 0 0).toInt ≤ 719; exact hB.1), (by show 0 ≤ (I 0 8).toInt ∧ (I 0 8).toInt ≤ 10; exact hB.2)⟩, (by show 0 ≤ (I 26 4).toInt ∧ (I 26 4).toInt ≤ 512; exact hC), z_fr_0, (Or.inr ⟨by omega, by decide, (by show (I 30 8).toInt = (I 30 8).toInt; omega), (fun j => ⟨rfl, rfl, rfl, rfl, rfl, rfl, rfl, rfl⟩)⟩)⟩
set_option maxHeartbeats 8000000 in
set_option maxRecDepth 100000 in
theorem sx_X12_handIn_p_q (l : Launch) (G : z_G) (ad : Nat → Nat) (I : z_I) (J : z_J) (hms : z_ims I) (hApc : z_rg 36 0 99999 I) (hmb : z_imb I) (hAtf : z_rg 11 0 288 I) (hAtm : z_rg 12 0 24 I) (a1 : Int32) (hIs : ∀ b : Nat, b < 720 → 0 ≤ (I 31 b).toInt ∧ (I 31 b).toInt ≤ 100) (hD : ∀ j : Nat, (j : Int) < (I 0 55).toInt → 0 ≤ (I 37 j).toInt) : z_M l yX12_handIn wsX12_handIn { frames := 4, cells := 0, slots := 0, locals := 86 } [.ref (ad 0), .int a1] G (shM, ad, I, J, PM ad) (fun r u1 => ∃ (I1 : z_I) (J1 : z_J), u1 = (shM, ad, I1, J1, PM ad) ∧ z_ims I1 ∧ z_rg 36 0 99999 I1 ∧ z_imb I1 ∧ z_rg 11 0 288 I1 ∧ z_rg 12 0 24 I1 ∧ z_fr L_X12_handIn_p I1 I ∧ (((0 ≤ a1.toInt ∧ a1.toInt < (I 0 54).toInt) ∧ r.toInt = (zr_Fw I a1.toInt (I 0 55).toNatClampNeg).2.2 ∧ (∀ j, (I1 40 j).toInt = (zr_Fw I a1.toInt (I 0 55).toNatClampNeg).1 j) ∧ ∀ a : Int, 0 ≤ a → a ≤ 99999 → zr_W I1 a = (zr_Fw I a1.toInt (I 0 55).toNatClampNeg).2.1 a) ∨ (¬ (0 ≤ a1.toInt ∧ a1.toInt < (I 0 54).toInt) ∧ r.toInt = -1 ∧ ∀ j, I1 40 j = I 40 j ∧ I1 33 j = I 33 j))) 0 0 := by
  intro sz
  refine z_headQ (cc := cX12_handIn) (maxL := 4) (ret := (some .int)) (by decide) rfl (Nat.le_of_ble_eq_true rfl) ?_
  intro p e s m below meth c0 ls hIn hK hsz hW hl
  obtain ⟨hx, hb, hr, hml, hown, hts, hlocks, hname⟩ := hIn
  subst hsz
  have hown : s.vm.findClass RX12 = some m.cls := hown
  have hA : ∀ q : Nat, s.heap.size ≤ q → z_A (shM, ad, I, J, PM ad) s.heap.size q := fun q h => Or.inr h
  generalize hAe : z_A (shM, ad, I, J, PM ad) s.heap.size = A at *
  have hS : va_S A s.heap s.heap [] := va_S.rf
  have hl : lv_has ls 4 [(0, .ref (ad 0)), (1, .int a1)] := hl
  have nC9 : 0 ≤ (I 0 55).toInt := hms.2.1
  refine lv_aload_n hx hb dX12_handIn_0 rfl (lv_at hl 0 rfl) ?_
  refine lv_iload_n hx hb dX12_handIn_1 rfl (lv_at hl 1 rfl) ?_
  refine z_ci hW hS hA (va_runV (As := [.int a1]) (rest := []) ⟨hx, hb, hml, hown, hts⟩ (sx_X12_isStation_e l G ad I J ⟨(by show 0 ≤ (I 0 54).toInt ∧ (I 0 54).toInt ≤ 10; exact hms.1), (by show 0 ≤ (I 0 55).toInt ∧ (I 0 55).toInt ≤ 300; exact hms.2)⟩ a1 _) (cwV 1 hts gX12_handIn_X12_isStation rfl rfl rfl (by decide +kernel) ⟨Nat.le_of_ble_eq_true rfl, Nat.le_of_ble_eq_true rfl⟩) (z_preV (i := 0) hK hW rfl rfl) rfl rfl hl.1 rfl (lv_room (Nat.le_of_ble_eq_true rfl)) dX12_handIn_2 ⟨Nat.le_of_ble_eq_true rfl, Nat.le_of_ble_eq_true rfl⟩) (fun r u1 H locs hp hW hS => ?_)
  obtain ⟨e9, hp⟩ := hp
  rw [e9] at hW
  rcases hp with ⟨rfl, h1⟩ | ⟨rfl, h1⟩
  · have h2 := h1
    have r3 : 0 ≤ (I 0 54).toInt ∧ (I 0 54).toInt ≤ 10 := hms.1
    refine lv_if_ne (tgt := 10) hx hb dX12_handIn_5 (by decide) (fun c4 => ?_) (fun c4 => absurd c4 (by decide))
    refine lv_iconst (v := 0) hx hb dX12_handIn_10 (by decide) ?_
    refine lv_istore_n (lv' := [(2, .int 0), (0, .ref (ad 0)), (1, .int a1)]) hx hb dX12_handIn_11 rfl hl (by decide) rfl (fun ls hl => ?_)
    refine lv_iconst (v := 0) hx hb dX12_handIn_12 (by decide) ?_
    refine lv_istore_n (lv' := [(3, .int 0), (2, .int 0), (0, .ref (ad 0)), (1, .int a1)]) hx hb dX12_handIn_13 rfl hl (by decide) rfl (fun ls hl => ?_)
    have lp5 : ∀ (f : Nat) (y6 : Int32) (y7 : Int32) (I8 : z_I) (J9 : z_J) (H : Heap) (locs : List Loc) (ls : Array Slot), (2147483647 < y6.toInt + (f : Int)) → (0 ≤ y6.toInt) → (0 ≤ y7.toInt) → (y7.toInt ≤ 300) → (z_ims I8) → (z_rg 36 0 99999 I8) → (z_imb I8) → (z_rg 11 0 288 I8) → (z_rg 12 0 24 I8) → ((∀ i, (I8 40 i).toInt = (zr_Fw I a1.toInt y6.toNatClampNeg).1 i) ∧ (∀ a : Int, 0 ≤ a → a ≤ 99999 → zr_W I8 a = (zr_Fw I a1.toInt y6.toNatClampNeg).2.1 a) ∧ y7.toInt = (zr_Fw I a1.toInt y6.toNatClampNeg).2.2 ∧ y7.toInt ≤ y6.toInt ∧ y6.toInt ≤ (I 0 55).toInt) → (z_fr L_X12_handIn_p I8 I) → z_W G A (shM, ad, I8, J9, PM ad) H → va_S A s.heap H locs → lv_has ls 4 [(3, .int y6), (2, .int y7), (0, .ref (ad 0)), (1, .int a1)] → W p l e (headSpec wsX12_handIn { frames := 4, cells := 0, slots := 0, locals := 86 }).room s m ([.ref (ad 0), .int a1] : List Value).toArray below meth c0 H locs 0 0 (MQ below (va_Qi (fun (r : Int32) (u1 : z_U) => ∃ (I1 : z_I) (J1 : z_J), u1 = (shM, ad, I1, J1, PM ad) ∧ z_ims I1 ∧ z_rg 36 0 99999 I1 ∧ z_imb I1 ∧ z_rg 11 0 288 I1 ∧ z_rg 12 0 24 I1 ∧ z_fr L_X12_handIn_p I1 I ∧ (((0 ≤ a1.toInt ∧ a1.toInt < (I 0 54).toInt) ∧ r.toInt = (zr_Fw I a1.toInt (I 0 55).toNatClampNeg).2.2 ∧ (∀ j, (I1 40 j).toInt = (zr_Fw I a1.toInt (I 0 55).toNatClampNeg).1 j) ∧ ∀ a : Int, 0 ≤ a → a ≤ 99999 → zr_W I1 a = (zr_Fw I a1.toInt (I 0 55).toNatClampNeg).2.1 a) ∨ (¬ (0 ≤ a1.toInt ∧ a1.toInt < (I 0 54).toInt) ∧ r.toInt = -1 ∧ ∀ j, I1 40 j = I 40 j ∧ I1 33 j = I 33 j))) (z_B G A) A) ([.ref (ad 0), .int a1] : List Value).toArray s 0 0 A) (F0 m 14 ls []) := by
      intro f
      induction f with
      | zero => intro y6 y7 I8 J9 H locs ls lp5m lp5l3 lp5l2 lp5u2 lp5ms lp5Apc lp5mb lp5Atf lp5Atm lp5H lp5fr hW hS hl; exact absurd lp5m (by have := Int32.toInt_lt y6; have := Int32.le_toInt y6; omega)
      | succ f lp5ih =>
        intro y6 y7 I8 J9 H locs ls lp5m lp5l3 lp5l2 lp5u2 lp5ms lp5Apc lp5mb lp5Atf lp5Atm lp5H lp5fr hW hS hl
        refine lv_iload_n hx hb dX12_handIn_14 rfl (lv_at hl 0 rfl) ?_
        refine lv_aload_n hx hb dX12_handIn_15 rfl (lv_at hl 2 rfl) ?_
        have hn10 : (I8 0 55).toInt = (I 0 55).toInt := by rw [lp5fr 0 55 (by decide)]
        have r11 : 0 ≤ (I8 0 55).toInt ∧ (I8 0 55).toInt ≤ 300 := lp5ms.2
        refine z_get (T := TX12) (N := 96) (ci := 12) (i := 0) (v := .int (I8 0 55)) hx hb hts zj_X12_handIn_X12 hown hK hW rfl rfl 55 (by decide) (hts (.fieldLink RX12 468 "PetrolBoardModel" "pours" "I") (me_s (me_l (me_l (List.mem_of_getElem? (i := 0) rfl))))) (fun _ h => h) rfl dX12_handIn_16 ?_
        refine lv_icmp_ge (tgt := 85) hx hb dX12_handIn_19 (by decide) (fun c12 => ?_) (fun c12 => ?_)
        · have g13 := z_f_ge rfl rfl c12
          have b14 := Int32.toInt_lt y6
          refine lv_iload_n hx hb dX12_handIn_85 rfl (lv_at hl 1 rfl) ?_
          exact z_iret hx hb hr hK hS (Nat.le_of_ble_eq_true rfl) (Nat.le_of_ble_eq_true rfl) hlocks dX12_handIn_86 (shM, ad, I8, J9, PM ad) hW ⟨I8, J9, rfl, ⟨(by show 0 ≤ (I8 0 54).toInt ∧ (I8 0 54).toInt ≤ 10; exact lp5ms.1), (by show 0 ≤ (I8 0 55).toInt ∧ (I8 0 55).toInt ≤ 300; exact lp5ms.2)⟩, lp5Apc, ⟨(by show 0 ≤ (I8 0 13).toInt ∧ (I8 0 13).toInt ≤ 12; exact lp5mb.1), (by show 0 ≤ (I8 0 14).toInt ∧ (I8 0 14).toInt ≤ 288; exact lp5mb.2)⟩, lp5Atf, lp5Atm, lp5fr, (by have q1 := z_clt (x := y6) rfl (by omega); have q2 := z_clt (x := (I 0 55)) rfl (by omega); have e9 : (I 0 55).toNatClampNeg = y6.toNatClampNeg := (by omega); rw [e9]; exact Or.inl ⟨by omega, lp5H.2.2.1, lp5H.1, lp5H.2.1⟩)⟩
        · have g15 := z_f_nge rfl rfl c12
          have b16 := Int32.toInt_lt y6
          refine lv_aload_n hx hb dX12_handIn_22 rfl (lv_at hl 2 rfl) ?_
          refine z_get (T := TX12) (N := 96) (ci := 12) (i := 0) (v := .ref (ad 34)) hx hb hts zj_X12_handIn_X12 hown hK hW rfl rfl 57 (by decide) (hts (.fieldLink RX12 118 "PetrolBoardModel" "pourAt" "[I") (me_s (me_l (me_l (List.mem_of_getElem? (i := 1) rfl))))) (fun _ h => h) rfl dX12_handIn_23 ?_
          refine lv_iload_n hx hb dX12_handIn_26 rfl (lv_at hl 0 rfl) ?_
          refine z_iald (i := 34) hx hb hK hW rfl (z_ix rfl (by omega) (by omega)) dX12_handIn_27 ?_
          refine lv_topi (fun x17 ex17 => ?_)
          have hv18 : (I8 34 y6.toNatClampNeg).toInt = x17.toInt := by rw [ex17]
          have hz19 := z_clt (x := y6) rfl (by omega)
          have hs20 : zr_Sw I y6.toNatClampNeg = x17.toInt := by unfold zr_Sw; rw [← lp5fr 34 y6.toNatClampNeg (z_wr_c (by decide))]; exact hv18
          refine lv_iload_n hx hb dX12_handIn_28 rfl (lv_at hl 3 rfl) ?_
          refine lv_icmp_ne (tgt := 79) hx hb dX12_handIn_29 (by decide) (fun c21 => ?_) (fun c21 => ?_)
          · have g22 := z_f_ne rfl rfl c21
            have b23 := Int32.toInt_lt x17
            obtain ⟨x24, ex24⟩ : ∃ y : Int32, y = y6 + 1 := ⟨_, rfl⟩
            have tx24 : x24.toInt = y6.toInt + 1 := z_tadd ex24 rfl z_l1 (by omega) (by omega)
            refine lv_iinc (v := x24) (lv' := [(3, .int x24), (2, .int y7), (0, .ref (ad 0)), (1, .int a1)]) hx hb dX12_handIn_79 hl (k := 0) rfl (by rw [ex24]; rfl) (by decide) rfl (fun ls hl => ?_)
            refine lv_goto (tgt := 14) hx hb dX12_handIn_82 (by decide) ?_
            exact lp5ih x24 y7 I8 J9 _ _ _ (by omega) (by omega) (by omega) (by omega) ⟨(by show 0 ≤ (I8 0 54).toInt ∧ (I8 0 54).toInt ≤ 10; exact lp5ms.1), (by show 0 ≤ (I8 0 55).toInt ∧ (I8 0 55).toInt ≤ 300; exact lp5ms.2)⟩ lp5Apc ⟨(by show 0 ≤ (I8 0 13).toInt ∧ (I8 0 13).toInt ≤ 12; exact lp5mb.1), (by show 0 ≤ (I8 0 14).toInt ∧ (I8 0 14).toInt ≤ 288; exact lp5mb.2)⟩ lp5Atf lp5Atm (by have e9 := zr_F_n (I := I) (s := a1.toInt) (y := y6.toNatClampNeg) (by omega); exact ⟨fun i => by rw [(show x24.toNatClampNeg = y6.toNatClampNeg + 1 from z_cln (by omega) (by omega)), e9]; exact lp5H.1 i, fun a a0 a9 => by rw [(show x24.toNatClampNeg = y6.toNatClampNeg + 1 from z_cln (by omega) (by omega)), e9]; exact lp5H.2.1 a a0 a9, by rw [(show x24.toNatClampNeg = y6.toNatClampNeg + 1 from z_cln (by omega) (by omega)), e9]; exact lp5H.2.2.1, by omega, by omega⟩) lp5fr hW hS (lv_sub hl [0, 1, 2, 3] rfl)
          · have g25 := z_f_eq rfl rfl c21
            have b26 := Int32.toInt_lt x17
            refine lv_aload_n hx hb dX12_handIn_32 rfl (lv_at hl 2 rfl) ?_
            refine z_get (T := TX12) (N := 96) (ci := 12) (i := 0) (v := .ref (ad 40)) hx hb hts zj_X12_handIn_X12 hown hK hW rfl rfl 63 (by decide) (hts (.fieldLink RX12 136 "PetrolBoardModel" "pourJudged" "[I") (me_s (me_l (me_l (List.mem_of_getElem? (i := 2) rfl))))) (fun _ h => h) rfl dX12_handIn_33 ?_
            refine lv_iload_n hx hb dX12_handIn_36 rfl (lv_at hl 0 rfl) ?_
            refine z_iald (i := 40) hx hb hK hW rfl (z_ix rfl (by omega) (by omega)) dX12_handIn_37 ?_
            refine lv_topi (fun x27 ex27 => ?_)
            have hv28 : (I8 40 y6.toNatClampNeg).toInt = x27.toInt := by rw [ex27]
            have hz29 := z_clt (x := y6) rfl (by omega)
            have hu30 := lp5H.1 y6.toNatClampNeg
            refine lv_if_lt (tgt := 44) hx hb dX12_handIn_38 (by decide) (fun c31 => ?_) (fun c31 => ?_)
            · have g32 := z_f_lt rfl z_l0 c31
              have b33 := Int32.toInt_lt x27
              refine lv_aload_n hx hb dX12_handIn_44 rfl (lv_at hl 2 rfl) ?_
              refine z_get (T := TX12) (N := 96) (ci := 12) (i := 0) (v := .ref (ad 40)) hx hb hts zj_X12_handIn_X12 hown hK hW rfl rfl 63 (by decide) (hts (.fieldLink RX12 136 "PetrolBoardModel" "pourJudged" "[I") (me_s (me_l (me_l (List.mem_of_getElem? (i := 2) rfl))))) (fun _ h => h) rfl dX12_handIn_45 ?_
              refine lv_iload_n hx hb dX12_handIn_48 rfl (lv_at hl 0 rfl) ?_
              refine lv_aload_n hx hb dX12_handIn_49 rfl (lv_at hl 2 rfl) ?_
              refine lv_iload_n hx hb dX12_handIn_50 rfl (lv_at hl 0 rfl) ?_
              refine z_ci hW hS hA (va_runV (As := [.int y6]) (rest := [.int y6, .ref (ad 40)]) ⟨hx, hb, hml, hown, hts⟩ (sx_X12_judges_p l G ad I8 J9 ⟨(by show 0 ≤ (I8 0 54).toInt ∧ (I8 0 54).toInt ≤ 10; exact lp5ms.1), (by show 0 ≤ (I8 0 55).toInt ∧ (I8 0 55).toInt ≤ 300; exact lp5ms.2)⟩ lp5Apc ⟨(by show 0 ≤ (I8 0 13).toInt ∧ (I8 0 13).toInt ≤ 12; exact lp5mb.1), (by show 0 ≤ (I8 0 14).toInt ∧ (I8 0 14).toInt ≤ 288; exact lp5mb.2)⟩ lp5Atf lp5Atm y6 (by omega) (by omega) (fun b hb => by rw [lp5fr 31 b (z_wr_c (by decide))]; exact hIs b hb) (fun j hj => by rw [lp5fr 37 j (z_wr_c (by decide))]; exact hD j (by omega)) _) (cwV 1 hts gX12_handIn_X12_judges rfl rfl rfl (by decide +kernel) ⟨Nat.le_of_ble_eq_true rfl, Nat.le_of_ble_eq_true rfl⟩) (z_preV (i := 0) hK hW rfl rfl) rfl rfl hl.1 rfl (lv_room (Nat.le_of_ble_eq_true rfl)) dX12_handIn_51 ⟨Nat.le_of_ble_eq_true rfl, Nat.le_of_ble_eq_true rfl⟩) (fun r u1 H locs hp hW hS => ?_)
              obtain ⟨e9, hp⟩ := hp
              rw [e9] at hW
              refine lv_topi (fun x34 ex34 => ?_)
              rw [← ex34] at hp
              have hP35 := hp
              refine z_iast (i := 40) hx hb hK hW hS rfl (z_ix rfl (by omega) (by omega)) dX12_handIn_54 (fun H locs hz1 hW hS => ?_)
              obtain ⟨I36, eI36⟩ : ∃ K : z_I, K = z_up I8 40 y6.toNatClampNeg x34 := ⟨_, rfl⟩
              rw [← eI36] at hW
              have f37 := z_fr_a lp5fr (show z_wa L_X12_handIn_p 40 = true by decide) eI36
              have a38 := z_rg_n lp5Apc (by decide) eI36
              have a39 := z_rg_n lp5Atf (by decide) eI36
              have a40 := z_rg_n lp5Atm (by decide) eI36
              refine lv_aload_n hx hb dX12_handIn_55 rfl (lv_at hl 2 rfl) ?_
              refine z_get (T := TX12) (N := 96) (ci := 12) (i := 0) (v := .ref (ad 33)) hx hb hts zj_X12_handIn_X12 hown hK hW rfl rfl 53 (by decide) (hts (.fieldLink RX12 114 "PetrolBoardModel" "wasIn" "[Z") (me_s (me_l (me_l (List.mem_of_getElem? (i := 3) rfl))))) (fun _ h => h) rfl dX12_handIn_56 ?_
              refine lv_aload_n hx hb dX12_handIn_59 rfl (lv_at hl 2 rfl) ?_
              refine z_get (T := TX12) (N := 96) (ci := 12) (i := 0) (v := .ref (ad 36)) hx hb hts zj_X12_handIn_X12 hown hK hW rfl rfl 59 (by decide) (hts (.fieldLink RX12 124 "PetrolBoardModel" "pourCoupon" "[I") (me_s (me_l (me_l (List.mem_of_getElem? (i := 4) rfl))))) (fun _ h => h) rfl dX12_handIn_60 ?_
              refine lv_iload_n hx hb dX12_handIn_63 rfl (lv_at hl 0 rfl) ?_
              refine z_iald (i := 36) hx hb hK hW rfl (z_ix rfl (by omega) (by omega)) dX12_handIn_64 ?_
              refine lv_topi (fun x41 ex41 => ?_)
              have h42 : 0 ≤ x41.toInt ∧ x41.toInt ≤ 99999 := by rw [ex41]; exact a38 _
              have hv43 : (I36 36 y6.toNatClampNeg).toInt = x41.toInt := by rw [ex41]
              have hz44 := z_clt (x := y6) rfl (by omega)
              have hc45 : x41.toInt = zr_C I y6.toNatClampNeg := by unfold zr_C; rw [← f37 36 y6.toNatClampNeg (z_wr_c (by decide))]; exact hv43.symm
              refine lv_iconst (v := 1) hx hb dX12_handIn_65 (by decide) ?_
              refine z_zast (i := 33) hx hb hK hW hS rfl (z_ix rfl (by omega) (by omega)) dX12_handIn_66 (fun H locs hz1 hW hS => ?_)
              obtain ⟨I46, eI46⟩ : ∃ K : z_I, K = z_up I36 33 x41.toNatClampNeg (vp_nar .boolean 1) := ⟨_, rfl⟩
              rw [← eI46] at hW
              have f47 := z_fr_a f37 (show z_wa L_X12_handIn_p 33 = true by decide) eI46
              have a48 := z_rg_n a38 (by decide) eI46
              have a49 := z_rg_n a39 (by decide) eI46
              have a50 := z_rg_n a40 (by decide) eI46
              refine lv_aload_n hx hb dX12_handIn_67 rfl (lv_at hl 2 rfl) ?_
              refine z_get (T := TX12) (N := 96) (ci := 12) (i := 0) (v := .ref (ad 40)) hx hb hts zj_X12_handIn_X12 hown hK hW rfl rfl 63 (by decide) (hts (.fieldLink RX12 136 "PetrolBoardModel" "pourJudged" "[I") (me_s (me_l (me_l (List.mem_of_getElem? (i := 2) rfl))))) (fun _ h => h) rfl dX12_handIn_68 ?_
              refine lv_iload_n hx hb dX12_handIn_71 rfl (lv_at hl 0 rfl) ?_
              refine z_iald (i := 40) hx hb hK hW rfl (z_ix rfl (by omega) (by omega)) dX12_handIn_72 ?_
              refine lv_topi (fun x51 ex51 => ?_)
              have hv52 : (I46 40 y6.toNatClampNeg).toInt = x51.toInt := by rw [ex51]
              have hz53 := z_clt (x := y6) rfl (by omega)
              have hw54 : (I46 40 y6.toNatClampNeg).toInt = x34.toInt := by rw [eI46, z_up_n (by decide), eI36, z_up_s]
              refine lv_if_ne (tgt := 79) hx hb dX12_handIn_73 (by decide) (fun c55 => ?_) (fun c55 => ?_)
              · have g56 := z_f_ne rfl z_l0 c55
                have b57 := Int32.toInt_lt x51
                obtain ⟨x58, ex58⟩ : ∃ y : Int32, y = y6 + 1 := ⟨_, rfl⟩
                have tx58 : x58.toInt = y6.toInt + 1 := z_tadd ex58 rfl z_l1 (by omega) (by omega)
                refine lv_iinc (v := x58) (lv' := [(3, .int x58), (2, .int y7), (0, .ref (ad 0)), (1, .int a1)]) hx hb dX12_handIn_79 hl (k := 0) rfl (by rw [ex58]; rfl) (by decide) rfl (fun ls hl => ?_)
                refine lv_goto (tgt := 14) hx hb dX12_handIn_82 (by decide) ?_
                exact lp5ih x58 y7 I46 J9 _ _ _ (by omega) (by omega) (by omega) (by omega) ⟨(by show 0 ≤ (I46 0 54).toInt ∧ (I46 0 54).toInt ≤ 10; rw [eI46, z_up_n (by decide), eI36, z_up_n (by decide)]; exact lp5ms.1), (by show 0 ≤ (I46 0 55).toInt ∧ (I46 0 55).toInt ≤ 300; rw [eI46, z_up_n (by decide), eI36, z_up_n (by decide)]; exact lp5ms.2)⟩ a48 ⟨(by show 0 ≤ (I46 0 13).toInt ∧ (I46 0 13).toInt ≤ 12; rw [eI46, z_up_n (by decide), eI36, z_up_n (by decide)]; exact lp5mb.1), (by show 0 ≤ (I46 0 14).toInt ∧ (I46 0 14).toInt ≤ 288; rw [eI46, z_up_n (by decide), eI36, z_up_n (by decide)]; exact lp5mb.2)⟩ a49 a50 (by have hz9 := (hP35.trans (zr_v_K (I := I) (W := (zr_Fw I a1.toInt y6.toNatClampNeg).2.1) (fun a k q q2 => lp5fr a k (zb_wr2 q q2 (by decide) (by decide))) (lp5H.2.1 _ (by rw [← hc45]; omega) (by rw [← hc45]; omega)))); have hc9 : zr_Sw I y6.toNatClampNeg = a1.toInt ∧ ¬ 0 ≤ (zr_Fw I a1.toInt y6.toNatClampNeg).1 y6.toNatClampNeg := (by omega); have hg9 := zr_good hz9 hc9; have hs9 := zr_stepw lp5H.1 lp5H.2.1 eI36 eI46 (by decide) hc45 (by omega) hz9 hc9; exact ⟨fun i => by rw [(show x58.toNatClampNeg = y6.toNatClampNeg + 1 from z_cln (by omega) (by omega))]; exact hs9.1 i, fun a a0 a9 => by rw [(show x58.toNatClampNeg = y6.toNatClampNeg + 1 from z_cln (by omega) (by omega))]; exact hs9.2 a a0 a9, by rw [(show x58.toNatClampNeg = y6.toNatClampNeg + 1 from z_cln (by omega) (by omega)), hg9]; first | (rw [if_pos (by omega)]; omega) | (rw [if_neg (by omega)]; omega), by omega, by omega⟩) f47 hW hS (lv_sub hl [0, 1, 2, 3] rfl)
              · have g59 := z_f_eq rfl z_l0 c55
                have b60 := Int32.toInt_lt x51
                obtain ⟨x61, ex61⟩ : ∃ y : Int32, y = y7 + 1 := ⟨_, rfl⟩
                have tx61 : x61.toInt = y7.toInt + 1 := z_tadd ex61 rfl z_l1 (by omega) (by omega)
                refine lv_iinc (v := x61) (lv' := [(2, .int x61), (3, .int y6), (0, .ref (ad 0)), (1, .int a1)]) hx hb dX12_handIn_76 hl (k := 1) rfl (by rw [ex61]; rfl) (by decide) rfl (fun ls hl => ?_)
                obtain ⟨x62, ex62⟩ : ∃ y : Int32, y = y6 + 1 := ⟨_, rfl⟩
                have tx62 : x62.toInt = y6.toInt + 1 := z_tadd ex62 rfl z_l1 (by omega) (by omega)
                refine lv_iinc (v := x62) (lv' := [(3, .int x62), (2, .int x61), (0, .ref (ad 0)), (1, .int a1)]) hx hb dX12_handIn_79 hl (k := 1) rfl (by rw [ex62]; rfl) (by decide) rfl (fun ls hl => ?_)
                refine lv_goto (tgt := 14) hx hb dX12_handIn_82 (by decide) ?_
                exact lp5ih x62 x61 I46 J9 _ _ _ (by omega) (by omega) (by omega) (by omega) ⟨(by show 0 ≤ (I46 0 54).toInt ∧ (I46 0 54).toInt ≤ 10; rw [eI46, z_up_n (by decide), eI36, z_up_n (by decide)]; exact lp5ms.1), (by show 0 ≤ (I46 0 55).toInt ∧ (I46 0 55).toInt ≤ 300; rw [eI46, z_up_n (by decide), eI36, z_up_n (by decide)]; exact lp5ms.2)⟩ a48 ⟨(by show 0 ≤ (I46 0 13).toInt ∧ (I46 0 13).toInt ≤ 12; rw [eI46, z_up_n (by decide), eI36, z_up_n (by decide)]; exact lp5mb.1), (by show 0 ≤ (I46 0 14).toInt ∧ (I46 0 14).toInt ≤ 288; rw [eI46, z_up_n (by decide), eI36, z_up_n (by decide)]; exact lp5mb.2)⟩ a49 a50 (by have hz9 := (hP35.trans (zr_v_K (I := I) (W := (zr_Fw I a1.toInt y6.toNatClampNeg).2.1) (fun a k q q2 => lp5fr a k (zb_wr2 q q2 (by decide) (by decide))) (lp5H.2.1 _ (by rw [← hc45]; omega) (by rw [← hc45]; omega)))); have hc9 : zr_Sw I y6.toNatClampNeg = a1.toInt ∧ ¬ 0 ≤ (zr_Fw I a1.toInt y6.toNatClampNeg).1 y6.toNatClampNeg := (by omega); have hg9 := zr_good hz9 hc9; have hs9 := zr_stepw lp5H.1 lp5H.2.1 eI36 eI46 (by decide) hc45 (by omega) hz9 hc9; exact ⟨fun i => by rw [(show x62.toNatClampNeg = y6.toNatClampNeg + 1 from z_cln (by omega) (by omega))]; exact hs9.1 i, fun a a0 a9 => by rw [(show x62.toNatClampNeg = y6.toNatClampNeg + 1 from z_cln (by omega) (by omega))]; exact hs9.2 a a0 a9, by rw [(show x62.toNatClampNeg = y6.toNatClampNeg + 1 from z_cln (by omega) (by omega)), hg9]; first | (rw [if_pos (by omega)]; omega) | (rw [if_neg (by omega)]; omega), by omega, by omega⟩) f47 hW hS (lv_sub hl [0, 1, 2, 3] rfl)
            · have g63 := z_f_nlt rfl z_l0 c31
              have b64 := Int32.toInt_lt x27
              refine lv_goto (tgt := 79) hx hb dX12_handIn_41 (by decide) ?_
              obtain ⟨x65, ex65⟩ : ∃ y : Int32, y = y6 + 1 := ⟨_, rfl⟩
              have tx65 : x65.toInt = y6.toInt + 1 := z_tadd ex65 rfl z_l1 (by omega) (by omega)
              refine lv_iinc (v := x65) (lv' := [(3, .int x65), (2, .int y7), (0, .ref (ad 0)), (1, .int a1)]) hx hb dX12_handIn_79 hl (k := 0) rfl (by rw [ex65]; rfl) (by decide) rfl (fun ls hl => ?_)
              refine lv_goto (tgt := 14) hx hb dX12_handIn_82 (by decide) ?_
              exact lp5ih x65 y7 I8 J9 _ _ _ (by omega) (by omega) (by omega) (by omega) ⟨(by show 0 ≤ (I8 0 54).toInt ∧ (I8 0 54).toInt ≤ 10; exact lp5ms.1), (by show 0 ≤ (I8 0 55).toInt ∧ (I8 0 55).toInt ≤ 300; exact lp5ms.2)⟩ lp5Apc ⟨(by show 0 ≤ (I8 0 13).toInt ∧ (I8 0 13).toInt ≤ 12; exact lp5mb.1), (by show 0 ≤ (I8 0 14).toInt ∧ (I8 0 14).toInt ≤ 288; exact lp5mb.2)⟩ lp5Atf lp5Atm (by have e9 := zr_F_n (I := I) (s := a1.toInt) (y := y6.toNatClampNeg) (by omega); exact ⟨fun i => by rw [(show x65.toNatClampNeg = y6.toNatClampNeg + 1 from z_cln (by omega) (by omega)), e9]; exact lp5H.1 i, fun a a0 a9 => by rw [(show x65.toNatClampNeg = y6.toNatClampNeg + 1 from z_cln (by omega) (by omega)), e9]; exact lp5H.2.1 a a0 a9, by rw [(show x65.toNatClampNeg = y6.toNatClampNeg + 1 from z_cln (by omega) (by omega)), e9]; exact lp5H.2.2.1, by omega, by omega⟩) lp5fr hW hS (lv_sub hl [0, 1, 2, 3] rfl)
    exact lp5 4294967296 (0) (0) I J _ _ _ (z_m0u _) (by rw [z_l0]; omega) (by rw [z_l0]; omega) (by rw [z_l0]; omega) ⟨(by show 0 ≤ (I 0 54).toInt ∧ (I 0 54).toInt ≤ 10; exact hms.1), (by show 0 ≤ (I 0 55).toInt ∧ (I 0 55).toInt ≤ 300; exact hms.2)⟩ hApc ⟨(by show 0 ≤ (I 0 13).toInt ∧ (I 0 13).toInt ≤ 12; exact hmb.1), (by show 0 ≤ (I 0 14).toInt ∧ (I 0 14).toInt ≤ 288; exact hmb.2)⟩ hAtf hAtm ⟨fun i => by rw [show (0 : Int32).toNatClampNeg = 0 by decide]; rfl, fun a _ _ => by rw [show (0 : Int32).toNatClampNeg = 0 by decide]; rfl, by rw [show (0 : Int32).toNatClampNeg = 0 by decide]; rfl, by omega, by have q0 := z_l0; omega⟩ z_fr_0 hW hS (lv_sub hl [0, 1, 2, 3] rfl)
  · have h66 := h1
    have r67 : 0 ≤ (I 0 54).toInt ∧ (I 0 54).toInt ≤ 10 := hms.1
    refine lv_if_ne (tgt := 10) hx hb dX12_handIn_5 (by decide) (fun c68 => absurd (by decide) c68) (fun c68 => ?_)
    refine lv_iconst (v := (-1)) hx hb dX12_handIn_8 (by decide) ?_
    exact z_iret hx hb hr hK hS (Nat.le_of_ble_eq_true rfl) (Nat.le_of_ble_eq_true rfl) hlocks dX12_handIn_9 (shM, ad, I, J, PM ad) hW ⟨I, J, rfl, ⟨(by show 0 ≤ (I 0 54).toInt ∧ (I 0 54).toInt ≤ 10; exact hms.1), (by show 0 ≤ (I 0 55).toInt ∧ (I 0 55).toInt ≤ 300; exact hms.2)⟩, hApc, ⟨(by show 0 ≤ (I 0 13).toInt ∧ (I 0 13).toInt ≤ 12; exact hmb.1), (by show 0 ≤ (I 0 14).toInt ∧ (I 0 14).toInt ≤ 288; exact hmb.2)⟩, hAtf, hAtm, z_fr_0, (Or.inr ⟨by omega, by decide, (fun j => ⟨rfl, rfl⟩)⟩)⟩
theorem z_RL_lend_q {Ix Im Ix1 Im1 : z_I} {q q1 : Int} {x t v : Int32} (h : z_RL Ix Im q) (hq : q + 7 ≤ q1) (eN : (Ix1 26 4).toInt = (Ix 26 4).toInt + 1) (x1 : ∀ j, Ix1 28 j = if j = (Ix 26 4).toNatClampNeg then x else Ix 28 j) (x2 : ∀ j, Ix1 29 j = if j = (Ix 26 4).toNatClampNeg then t else Ix 29 j) (m1 : ∀ j, Im1 32 j = if j = x.toInt.toNat then v else Im 32 j) (hv : v.toInt = t.toInt + 1) (hx : 0 ≤ x.toInt ∧ x.toInt < 72000) (ht : 0 ≤ t.toInt ∧ t.toInt ≤ 29) (hK : zb_K Ix x.toInt (Ix 26 4).toNatClampNeg = -1) : z_RL Ix1 Im1 q1 := by
  obtain ⟨⟨a1, a2⟩, a3, a4, a5⟩ := h
  have cN := z_clt (x := (Ix 26 4)) rfl a2
  have cM := z_clt (x := (Ix1 26 4)) rfl (by omega)
  have eM : (Ix1 26 4).toNatClampNeg = (Ix 26 4).toNatClampNeg + 1 := by omega
  have kL : ∀ j, j < (Ix 26 4).toNatClampNeg → Ix1 28 j = Ix 28 j := fun j hj => by rw [x1, if_neg (by omega)]
  have kT : ∀ j, j < (Ix 26 4).toNatClampNeg → Ix1 29 j = Ix 29 j := fun j hj => by rw [x2, if_neg (by omega)]
  have nL : Ix1 28 (Ix 26 4).toNatClampNeg = x := by rw [x1, if_pos rfl]
  have nT : Ix1 29 (Ix 26 4).toNatClampNeg = t := by rw [x2, if_pos rfl]
  have eK : ∀ a : Int, zb_K Ix1 a (Ix 26 4).toNatClampNeg = zb_K Ix a (Ix 26 4).toNatClampNeg := fun a => zb_K_c _ kL
  unfold z_RL
  rw [eM]
  refine ⟨⟨by omega, by omega⟩, fun k hk => ?_, fun a ha => ?_, fun b b0 b1 => ?_⟩
  · by_cases w : k = (Ix 26 4).toNatClampNeg
    · subst w
      rw [nL, nT]
      exact ⟨⟨hx.1, by omega⟩, ht⟩
    · rw [kL k (by omega), kT k (by omega)]
      exact a3 k (by omega)
  · rw [m1]
    by_cases w : a = x.toInt.toNat
    · have wa : (a : Int) = x.toInt := by omega
      have e1 : zb_K Ix1 (a : Int) ((Ix 26 4).toNatClampNeg + 1) = ((Ix 26 4).toNatClampNeg : Int) := zb_K_y (by rw [eK, wa]; exact hK) (by rw [nL, wa])
      rw [if_pos w, e1, if_neg (by omega), show ((((Ix 26 4).toNatClampNeg : Nat) : Int)).toNat = (Ix 26 4).toNatClampNeg from rfl, nT]
      exact hv
    · have wa : ¬ x.toInt = (a : Int) := by omega
      have e1 : zb_K Ix1 (a : Int) ((Ix 26 4).toNatClampNeg + 1) = zb_K Ix (a : Int) (Ix 26 4).toNatClampNeg := by
        by_cases z : zb_K Ix (a : Int) (Ix 26 4).toNatClampNeg = -1
        · rw [zb_K_n (by rw [eK]; exact z) (by rw [nL]; exact wa), z]
        · rw [zb_K, if_pos (by rw [eK]; exact z), eK]
      have bd := zb_K_b (I := Ix) (a := (a : Int)) (Ix 26 4).toNatClampNeg
      rw [if_neg w, e1, a4 a ha]
      by_cases z : zb_K Ix (a : Int) (Ix 26 4).toNatClampNeg = -1
      · rw [if_pos z, if_pos z]
      · rw [if_neg z, if_neg z, kT _ (by omega)]
  · have eC : zb_C Ix1 b (Ix 26 4).toNatClampNeg = zb_C Ix b (Ix 26 4).toNatClampNeg := zb_C_c _ kL
    by_cases w : x.toInt / 100 = b
    · have h0 : (Im 32 (100 * b + (((x.toInt % 100).toNat : Nat) : Int)).toNat).toInt = 0 := by
        rw [show (100 * b + (((x.toInt % 100).toNat : Nat) : Int)).toNat = x.toInt.toNat by omega, a4 x.toInt.toNat (by omega), show ((x.toInt.toNat : Nat) : Int) = x.toInt by omega, if_pos hK]
      rw [zb_C_y (by rw [nL]; exact w), eC, a5 b b0 b1, zb_M_1 (I := Im) (K := Im1) (k := (x.toInt % 100).toNat) b0 (by rw [h0]; decide) (by rw [m1, if_pos (by omega), hv]; omega) (fun j hj => by rw [m1, if_neg (by omega)]) 100, if_pos (by omega)]
    · rw [zb_C_n (by rw [nL]; exact w), eC, a5 b b0 b1, zb_M_c (I := Im) (K := Im1) 100 (fun j hj => by rw [m1, if_neg (by omega)])]
