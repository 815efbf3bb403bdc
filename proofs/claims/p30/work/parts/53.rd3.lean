

noncomputable def L_X9_atom_5 : z_L := [(12, 6), (12, 7), (17, 999), (12, 9)]
set_option maxHeartbeats 8000000 in
set_option maxRecDepth 100000 in
theorem sx_X9_atom_5 (l : Launch) (G : z_G) (ad : Nat → Nat) (c : z_C) (I : z_I) (hR : z_iR I) (hT : z_iT I) : z_M l yX9_atom wsX9_atom { frames := 15, cells := 0, slots := 0, locals := 325 } [.ref (ad 12), .int 5] G (shC c, ad, I, JX, PC c ad) (fun r u1 => ∃ I1 : z_I, u1 = (shC c, ad, I1, JX, PC c ad) ∧ z_iR I1 ∧ z_iT I1 ∧ z_fr L_X9_atom_5 I1 I ∧ (r = 1 ∨ r = 0)) 0 0 := by
  intro sz
  refine z_headQ (cc := cX9_atom) (maxL := 3) (ret := (some .boolean)) (by decide) rfl (Nat.le_of_ble_eq_true rfl) ?_
  intro p e s m below meth c0 ls hIn hK hsz hW hl
  obtain ⟨hx, hb, hr, hml, hown, hts, hlocks, hname⟩ := hIn
  subst hsz
  have hown : s.vm.findClass RX9 = some m.cls := hown
  have hA : ∀ q : Nat, s.heap.size ≤ q → z_A (shC c, ad, I, JX, PC c ad) s.heap.size q := fun q h => Or.inr h
  generalize hAe : z_A (shC c, ad, I, JX, PC c ad) s.heap.size = A at *
  have hS : va_S A s.heap s.heap [] := va_S.rf
  have hl : lv_has ls 3 [(0, .ref (ad 12)), (1, .int 5)] := hl
  have kT : (I 12 6).toInt ≤ 501 ∧ ((I 12 7).toInt = 401 ∨ (I 12 6).toInt ≤ 500) := hT
  refine lv_aload_n hx hb dX9_atom_0 rfl (lv_at hl 0 rfl) ?_
  refine z_get (T := TX9) (N := 14) (ci := 9) (i := 12) (v := .int (I 12 7)) hx hb hts zj_X9_atom_X9 hown hK hW rfl rfl 7 (by decide) (hts (.fieldLink RX9 62 "PetrolBoard$Reader" "token" "I") (me_s (me_l (me_l (List.mem_of_getElem? (i := 0) rfl))))) (fun _ h => h) rfl dX9_atom_1 ?_
  refine lv_sipush (v := 400) hx hb dX9_atom_4 (by decide) ?_
  refine lv_icmp_eq (tgt := 30) hx hb dX9_atom_7 (by decide) (fun c1 => ?_) (fun c1 => ?_)
  · have g2 := z_f_eq rfl z_l400 c1
    have b3 := Int32.toInt_lt (I 12 7)
    refine lv_aload_n hx hb dX9_atom_30 rfl (lv_at hl 0 rfl) ?_
    refine lv_aload_n hx hb dX9_atom_31 rfl (lv_at hl 0 rfl) ?_
    refine z_get (T := TX9) (N := 14) (ci := 9) (i := 12) (v := .int (I 12 7)) hx hb hts zj_X9_atom_X9 hown hK hW rfl rfl 7 (by decide) (hts (.fieldLink RX9 62 "PetrolBoard$Reader" "token" "I") (me_s (me_l (me_l (List.mem_of_getElem? (i := 0) rfl))))) (fun _ h => h) rfl dX9_atom_32 ?_
    refine lv_sipush (v := 400) hx hb dX9_atom_35 (by decide) ?_
    refine lv_icmp_ne (tgt := 48) hx hb dX9_atom_38 (by decide) (fun c4 => (by have g := z_f_ne rfl z_l400 c4; omega)) (fun c4 => ?_)
    have g5 := z_f_eq rfl z_l400 c4
    refine lv_aload_n hx hb dX9_atom_41 rfl (lv_at hl 0 rfl) ?_
    refine z_ci hW hS hA (va_runV (As := []) (rest := [.ref (ad 12)]) ⟨hx, hb, hml, hown, hts⟩ (sx_X9_numberHere l G ad c I ⟨(by show 0 ≤ (I 12 1).toInt ∧ (I 12 1).toInt ≤ 500; exact hR.1), (by show 0 ≤ (I 12 5).toInt ∧ (I 12 5).toInt ≤ 501; exact hR.2.1), (by show (-1) ≤ (I 12 6).toInt ∧ (I 12 6).toInt ≤ 1000000; exact hR.2.2.1), (by show 0 ≤ (I 12 9).toInt ∧ (I 12 9).toInt ≤ 500; exact hR.2.2.2.1), (by show 0 ≤ (I 12 13).toInt ∧ (I 12 13).toInt ≤ 24; exact hR.2.2.2.2)⟩  _) (cwV 0 hts gX9_atom_X9_numberHere rfl rfl rfl hy_X9_numberHere ⟨Nat.le_of_ble_eq_true rfl, Nat.le_of_ble_eq_true rfl⟩) (z_preV (i := 12) hK hW rfl rfl) rfl rfl hl.1 rfl (lv_room (Nat.le_of_ble_eq_true rfl)) dX9_atom_42 ⟨Nat.le_of_ble_eq_true rfl, Nat.le_of_ble_eq_true rfl⟩) (fun r u1 H locs hp hW hS => ?_)
    rw [hp] at hW
    refine lv_topi (fun x6 ex6 => ?_)
    refine lv_goto (tgt := 59) hx hb dX9_atom_45 (by decide) ?_
    refine z_cv hW hS hA (va_runV (As := [.int x6]) (rest := []) ⟨hx, hb, hml, hown, hts⟩ (sx_X9_emit l G ad c I ⟨(by show 0 ≤ (I 12 1).toInt ∧ (I 12 1).toInt ≤ 500; exact hR.1), (by show 0 ≤ (I 12 5).toInt ∧ (I 12 5).toInt ≤ 501; exact hR.2.1), (by show (-1) ≤ (I 12 6).toInt ∧ (I 12 6).toInt ≤ 1000000; exact hR.2.2.1), (by show 0 ≤ (I 12 9).toInt ∧ (I 12 9).toInt ≤ 500; exact hR.2.2.2.1), (by show 0 ≤ (I 12 13).toInt ∧ (I 12 13).toInt ≤ 24; exact hR.2.2.2.2)⟩ x6 _) (cwV 1 hts gX9_atom_X9_emit rfl rfl rfl hy_X9_emit ⟨Nat.le_of_ble_eq_true rfl, Nat.le_of_ble_eq_true rfl⟩) (z_preV (i := 12) hK hW rfl rfl) rfl rfl hl.1 rfl (lv_room (Nat.le_of_ble_eq_true rfl)) dX9_atom_59 ⟨Nat.le_of_ble_eq_true rfl, Nat.le_of_ble_eq_true rfl⟩) (fun u1 H locs hp hW hS => ?_)
    obtain ⟨I7, e9, hI7R, fI7⟩ := hp
    rw [e9] at hW
    have f8 := z_fr_sub (L := L_X9_atom_5) z_fr_0 fI7 (by decide)
    have k9 : (I7 12 6).toInt ≤ 501 ∧ ((I7 12 7).toInt = 401 ∨ (I7 12 6).toInt ≤ 500) := (by have q0 : (I7 12 6) = (I 12 6) := (by rw [fI7 12 6 (by decide)]); have q1 : (I7 12 7) = (I 12 7) := (by rw [fI7 12 7 (by decide)]); show (I7 12 6).toInt ≤ 501 ∧ ((I7 12 7).toInt = 401 ∨ (I7 12 6).toInt ≤ 500); rw [q0, q1]; first | omega | decide)
    have k10 : (I7 12 6).toInt = (I 12 6).toInt := by rw [fI7 12 6 (by decide)]
    have k11 : (I7 12 7).toInt = (I 12 7).toInt := by rw [fI7 12 7 (by decide)]
    refine lv_aload_n hx hb dX9_atom_62 rfl (lv_at hl 0 rfl) ?_
    refine z_cv hW hS hA (va_runV (As := []) (rest := []) ⟨hx, hb, hml, hown, hts⟩ (sx_X9_step l G ad c I7 ⟨(by show 0 ≤ (I7 12 1).toInt ∧ (I7 12 1).toInt ≤ 500; exact hI7R.1), (by show 0 ≤ (I7 12 5).toInt ∧ (I7 12 5).toInt ≤ 501; exact hI7R.2.1), (by show (-1) ≤ (I7 12 6).toInt ∧ (I7 12 6).toInt ≤ 1000000; exact hI7R.2.2.1), (by show 0 ≤ (I7 12 9).toInt ∧ (I7 12 9).toInt ≤ 500; exact hI7R.2.2.2.1), (by show 0 ≤ (I7 12 13).toInt ∧ (I7 12 13).toInt ≤ 24; exact hI7R.2.2.2.2)⟩   (by show (I7 12 6).toInt ≤ 500; first | omega | decide) _) (cwV 0 hts gX9_atom_X9_step rfl rfl rfl hy_X9_step ⟨Nat.le_of_ble_eq_true rfl, Nat.le_of_ble_eq_true rfl⟩) (z_preV (i := 12) hK hW rfl rfl) rfl rfl hl.1 rfl (lv_room (Nat.le_of_ble_eq_true rfl)) dX9_atom_63 ⟨Nat.le_of_ble_eq_true rfl, Nat.le_of_ble_eq_true rfl⟩) (fun u1 H locs hp hW hS => ?_)
    obtain ⟨I12, e9, hI12R, hI12T, fI12⟩ := hp
    rw [e9] at hW
    have f13 := z_fr_sub (L := L_X9_atom_5) f8 fI12 (by decide)
    have k14 : (I12 12 6).toInt ≤ 501 ∧ ((I12 12 7).toInt = 401 ∨ (I12 12 6).toInt ≤ 500) := hI12T
    refine lv_iconst (v := 1) hx hb dX9_atom_66 (by decide) ?_
    exact z_zret hx hb hr (by decide) hK hS (Nat.le_of_ble_eq_true rfl) (Nat.le_of_ble_eq_true rfl) hlocks dX9_atom_67 (shC c, ad, I12, JX, PC c ad) hW ⟨I12, rfl, ⟨(by show 0 ≤ (I12 12 1).toInt ∧ (I12 12 1).toInt ≤ 500; exact hI12R.1), (by show 0 ≤ (I12 12 5).toInt ∧ (I12 12 5).toInt ≤ 501; exact hI12R.2.1), (by show (-1) ≤ (I12 12 6).toInt ∧ (I12 12 6).toInt ≤ 1000000; exact hI12R.2.2.1), (by show 0 ≤ (I12 12 9).toInt ∧ (I12 12 9).toInt ≤ 500; exact hI12R.2.2.2.1), (by show 0 ≤ (I12 12 13).toInt ∧ (I12 12 13).toInt ≤ 24; exact hI12R.2.2.2.2)⟩, (by show (I12 12 6).toInt ≤ 501 ∧ ((I12 12 7).toInt = 401 ∨ (I12 12 6).toInt ≤ 500); first | omega | decide), f13, Or.inl rfl⟩
  · have g15 := z_f_ne rfl z_l400 c1
    have b16 := Int32.toInt_lt (I 12 7)
    refine lv_aload_n hx hb dX9_atom_10 rfl (lv_at hl 0 rfl) ?_
    refine z_get (T := TX9) (N := 14) (ci := 9) (i := 12) (v := .int (I 12 7)) hx hb hts zj_X9_atom_X9 hown hK hW rfl rfl 7 (by decide) (hts (.fieldLink RX9 62 "PetrolBoard$Reader" "token" "I") (me_s (me_l (me_l (List.mem_of_getElem? (i := 0) rfl))))) (fun _ h => h) rfl dX9_atom_11 ?_
    refine lv_sipush (v := 314) hx hb dX9_atom_14 (by decide) ?_
    refine lv_icmp_lt (tgt := 68) hx hb dX9_atom_17 (by decide) (fun c17 => ?_) (fun c17 => ?_)
    · have g18 := z_f_lt rfl z_l314 c17
      refine lv_aload_n hx hb dX9_atom_68 rfl (lv_at hl 0 rfl) ?_
      refine z_get (T := TX9) (N := 14) (ci := 9) (i := 12) (v := .int (I 12 7)) hx hb hts zj_X9_atom_X9 hown hK hW rfl rfl 7 (by decide) (hts (.fieldLink RX9 62 "PetrolBoard$Reader" "token" "I") (me_s (me_l (me_l (List.mem_of_getElem? (i := 0) rfl))))) (fun _ h => h) rfl dX9_atom_69 ?_
      refine lv_istore_n (lv' := [(2, .int (I 12 7)), (0, .ref (ad 12)), (1, .int 5)]) hx hb dX9_atom_72 rfl hl (by decide) rfl (fun ls hl => ?_)
      refine lv_iload_n hx hb dX9_atom_73 rfl (lv_at hl 0 rfl) ?_
      refine lv_bipush (v := 40) hx hb dX9_atom_74 (by decide) ?_
      refine lv_icmp_eq (tgt := 93) hx hb dX9_atom_76 (by decide) (fun c19 => ?_) (fun c19 => ?_)
      · have g20 := z_f_eq rfl z_l40 c19
        refine lv_iload_n hx hb dX9_atom_93 rfl (lv_at hl 2 rfl) ?_
        refine lv_bipush (v := 9) hx hb dX9_atom_94 (by decide) ?_
        refine lv_icmp_lt (tgt := 101) hx hb dX9_atom_96 (by decide) (fun c21 => ?_) (fun c21 => absurd (by decide) c21)
        refine lv_aload_n hx hb dX9_atom_101 rfl (lv_at hl 1 rfl) ?_
        refine z_cv hW hS hA (va_runV (As := []) (rest := []) ⟨hx, hb, hml, hown, hts⟩ (sx_X9_step l G ad c I ⟨(by show 0 ≤ (I 12 1).toInt ∧ (I 12 1).toInt ≤ 500; exact hR.1), (by show 0 ≤ (I 12 5).toInt ∧ (I 12 5).toInt ≤ 501; exact hR.2.1), (by show (-1) ≤ (I 12 6).toInt ∧ (I 12 6).toInt ≤ 1000000; exact hR.2.2.1), (by show 0 ≤ (I 12 9).toInt ∧ (I 12 9).toInt ≤ 500; exact hR.2.2.2.1), (by show 0 ≤ (I 12 13).toInt ∧ (I 12 13).toInt ≤ 24; exact hR.2.2.2.2)⟩   (by show (I 12 6).toInt ≤ 500; first | omega | decide) _) (cwV 0 hts gX9_atom_X9_step rfl rfl rfl hy_X9_step ⟨Nat.le_of_ble_eq_true rfl, Nat.le_of_ble_eq_true rfl⟩) (z_preV (i := 12) hK hW rfl rfl) rfl rfl hl.1 rfl (lv_room (Nat.le_of_ble_eq_true rfl)) dX9_atom_102 ⟨Nat.le_of_ble_eq_true rfl, Nat.le_of_ble_eq_true rfl⟩) (fun u1 H locs hp hW hS => ?_)
        obtain ⟨I22, e9, hI22R, hI22T, fI22⟩ := hp
        rw [e9] at hW
        have f23 := z_fr_sub (L := L_X9_atom_5) z_fr_0 fI22 (by decide)
        have k24 : (I22 12 6).toInt ≤ 501 ∧ ((I22 12 7).toInt = 401 ∨ (I22 12 6).toInt ≤ 500) := hI22T
        refine lv_iload_n hx hb dX9_atom_105 rfl (lv_at hl 0 rfl) ?_
        refine lv_bipush (v := 40) hx hb dX9_atom_106 (by decide) ?_
        refine lv_icmp_ne (tgt := 136) hx hb dX9_atom_108 (by decide) (fun c25 => (by have g := z_f_ne rfl z_l40 c25; omega)) (fun c25 => ?_)
        have g26 := z_f_eq rfl z_l40 c25
        refine lv_aload_n hx hb dX9_atom_111 rfl (lv_at hl 1 rfl) ?_
        refine lv_iload_n hx hb dX9_atom_112 rfl (lv_at hl 2 rfl) ?_
        refine lv_iconst (v := 1) hx hb dX9_atom_113 (by decide) ?_
        refine lv_iadd hx hb dX9_atom_114 ?_
        refine z_topi (v := 6) (by decide) ?_
        refine z_ci hW hS hA (va_runV (As := [.int 6]) (rest := []) ⟨hx, hb, hml, hown, hts⟩ (sx_X9_sum_6 l G ad c I22 ⟨(by show 0 ≤ (I22 12 1).toInt ∧ (I22 12 1).toInt ≤ 500; exact hI22R.1), (by show 0 ≤ (I22 12 5).toInt ∧ (I22 12 5).toInt ≤ 501; exact hI22R.2.1), (by show (-1) ≤ (I22 12 6).toInt ∧ (I22 12 6).toInt ≤ 1000000; exact hI22R.2.2.1), (by show 0 ≤ (I22 12 9).toInt ∧ (I22 12 9).toInt ≤ 500; exact hI22R.2.2.2.1), (by show 0 ≤ (I22 12 13).toInt ∧ (I22 12 13).toInt ≤ 24; exact hI22R.2.2.2.2)⟩ (by show (I22 12 6).toInt ≤ 501 ∧ ((I22 12 7).toInt = 401 ∨ (I22 12 6).toInt ≤ 500); first | omega | decide) _) (cwV 1 hts gX9_atom_X9_sum rfl rfl rfl hy_X9_sum ⟨Nat.le_of_ble_eq_true rfl, Nat.le_of_ble_eq_true rfl⟩) (z_preV (i := 12) hK hW rfl rfl) rfl rfl hl.1 rfl (lv_room (Nat.le_of_ble_eq_true rfl)) dX9_atom_115 ⟨Nat.le_of_ble_eq_true rfl, Nat.le_of_ble_eq_true rfl⟩) (fun r u1 H locs hp hW hS => ?_)
        obtain ⟨I27, e9, hI27R, hI27T, fI27, hp⟩ := hp
        rw [e9] at hW
        have f28 := z_fr_sub (L := L_X9_atom_5) f23 fI27 (by decide)
        have k29 : (I27 12 6).toInt ≤ 501 ∧ ((I27 12 7).toInt = 401 ∨ (I27 12 6).toInt ≤ 500) := hI27T
        rcases hp with rfl | rfl
        · refine lv_if_eq (tgt := 134) hx hb dX9_atom_118 (by decide) (fun c30 => absurd c30 (by decide)) (fun c30 => ?_)
          refine lv_aload_n hx hb dX9_atom_121 rfl (lv_at hl 1 rfl) ?_
          refine lv_bipush (v := 41) hx hb dX9_atom_122 (by decide) ?_
          refine z_ci hW hS hA (va_runV (As := [.int 41]) (rest := []) ⟨hx, hb, hml, hown, hts⟩ (sx_X9_taken l G ad c I27 ⟨(by show 0 ≤ (I27 12 1).toInt ∧ (I27 12 1).toInt ≤ 500; exact hI27R.1), (by show 0 ≤ (I27 12 5).toInt ∧ (I27 12 5).toInt ≤ 501; exact hI27R.2.1), (by show (-1) ≤ (I27 12 6).toInt ∧ (I27 12 6).toInt ≤ 1000000; exact hI27R.2.2.1), (by show 0 ≤ (I27 12 9).toInt ∧ (I27 12 9).toInt ≤ 500; exact hI27R.2.2.2.1), (by show 0 ≤ (I27 12 13).toInt ∧ (I27 12 13).toInt ≤ 24; exact hI27R.2.2.2.2)⟩ (by show (I27 12 6).toInt ≤ 501 ∧ ((I27 12 7).toInt = 401 ∨ (I27 12 6).toInt ≤ 500); first | omega | decide) 41 (by first | omega | decide) _) (cwV 1 hts gX9_atom_X9_taken rfl rfl rfl hy_X9_taken ⟨Nat.le_of_ble_eq_true rfl, Nat.le_of_ble_eq_true rfl⟩) (z_preV (i := 12) hK hW rfl rfl) rfl rfl hl.1 rfl (lv_room (Nat.le_of_ble_eq_true rfl)) dX9_atom_124 ⟨Nat.le_of_ble_eq_true rfl, Nat.le_of_ble_eq_true rfl⟩) (fun r u1 H locs hp hW hS => ?_)
          obtain ⟨I31, e9, hI31R, hI31T, fI31, hp⟩ := hp
          rw [e9] at hW
          have f32 := z_fr_sub (L := L_X9_atom_5) f28 fI31 (by decide)
          have k33 : (I31 12 6).toInt ≤ 501 ∧ ((I31 12 7).toInt = 401 ∨ (I31 12 6).toInt ≤ 500) := hI31T
          rcases hp with rfl | rfl
          · refine lv_if_eq (tgt := 134) hx hb dX9_atom_127 (by decide) (fun c34 => absurd c34 (by decide)) (fun c34 => ?_)
            refine lv_iconst (v := 1) hx hb dX9_atom_130 (by decide) ?_
            refine lv_goto (tgt := 135) hx hb dX9_atom_131 (by decide) ?_
            exact z_zret hx hb hr (by decide) hK hS (Nat.le_of_ble_eq_true rfl) (Nat.le_of_ble_eq_true rfl) hlocks dX9_atom_135 (shC c, ad, I31, JX, PC c ad) hW ⟨I31, rfl, ⟨(by show 0 ≤ (I31 12 1).toInt ∧ (I31 12 1).toInt ≤ 500; exact hI31R.1), (by show 0 ≤ (I31 12 5).toInt ∧ (I31 12 5).toInt ≤ 501; exact hI31R.2.1), (by show (-1) ≤ (I31 12 6).toInt ∧ (I31 12 6).toInt ≤ 1000000; exact hI31R.2.2.1), (by show 0 ≤ (I31 12 9).toInt ∧ (I31 12 9).toInt ≤ 500; exact hI31R.2.2.2.1), (by show 0 ≤ (I31 12 13).toInt ∧ (I31 12 13).toInt ≤ 24; exact hI31R.2.2.2.2)⟩, (by show (I31 12 6).toInt ≤ 501 ∧ ((I31 12 7).toInt = 401 ∨ (I31 12 6).toInt ≤ 500); first | omega | decide), f32, Or.inl rfl⟩
          · refine lv_if_eq (tgt := 134) hx hb dX9_atom_127 (by decide) (fun c35 => ?_) (fun c35 => absurd (by decide) c35)
            refine lv_iconst (v := 0) hx hb dX9_atom_134 (by decide) ?_
            exact z_zret hx hb hr (by decide) hK hS (Nat.le_of_ble_eq_true rfl) (Nat.le_of_ble_eq_true rfl) hlocks dX9_atom_135 (shC c, ad, I31, JX, PC c ad) hW ⟨I31, rfl, ⟨(by show 0 ≤ (I31 12 1).toInt ∧ (I31 12 1).toInt ≤ 500; exact hI31R.1), (by show 0 ≤ (I31 12 5).toInt ∧ (I31 12 5).toInt ≤ 501; exact hI31R.2.1), (by show (-1) ≤ (I31 12 6).toInt ∧ (I31 12 6).toInt ≤ 1000000; exact hI31R.2.2.1), (by show 0 ≤ (I31 12 9).toInt ∧ (I31 12 9).toInt ≤ 500; exact hI31R.2.2.2.1), (by show 0 ≤ (I31 12 13).toInt ∧ (I31 12 13).toInt ≤ 24; exact hI31R.2.2.2.2)⟩, (by show (I31 12 6).toInt ≤ 501 ∧ ((I31 12 7).toInt = 401 ∨ (I31 12 6).toInt ≤ 500); first | omega | decide), f32, Or.inr rfl⟩
        · refine lv_if_eq (tgt := 134) hx hb dX9_atom_118 (by decide) (fun c36 => ?_) (fun c36 => absurd (by decide) c36)
          refine lv_iconst (v := 0) hx hb dX9_atom_134 (by decide) ?_
          exact z_zret hx hb hr (by decide) hK hS (Nat.le_of_ble_eq_true rfl) (Nat.le_of_ble_eq_true rfl) hlocks dX9_atom_135 (shC c, ad, I27, JX, PC c ad) hW ⟨I27, rfl, ⟨(by show 0 ≤ (I27 12 1).toInt ∧ (I27 12 1).toInt ≤ 500; exact hI27R.1), (by show 0 ≤ (I27 12 5).toInt ∧ (I27 12 5).toInt ≤ 501; exact hI27R.2.1), (by show (-1) ≤ (I27 12 6).toInt ∧ (I27 12 6).toInt ≤ 1000000; exact hI27R.2.2.1), (by show 0 ≤ (I27 12 9).toInt ∧ (I27 12 9).toInt ≤ 500; exact hI27R.2.2.2.1), (by show 0 ≤ (I27 12 13).toInt ∧ (I27 12 13).toInt ≤ 24; exact hI27R.2.2.2.2)⟩, (by show (I27 12 6).toInt ≤ 501 ∧ ((I27 12 7).toInt = 401 ∨ (I27 12 6).toInt ≤ 500); first | omega | decide), f28, Or.inr rfl⟩
      · have g37 := z_f_ne rfl z_l40 c19
        refine lv_iload_n hx hb dX9_atom_79 rfl (lv_at hl 0 rfl) ?_
        refine lv_sipush (v := 312) hx hb dX9_atom_80 (by decide) ?_
        refine lv_icmp_eq (tgt := 93) hx hb dX9_atom_83 (by decide) (fun c38 => ?_) (fun c38 => ?_)
        · have g39 := z_f_eq rfl z_l312 c38
          refine lv_iload_n hx hb dX9_atom_93 rfl (lv_at hl 2 rfl) ?_
          refine lv_bipush (v := 9) hx hb dX9_atom_94 (by decide) ?_
          refine lv_icmp_lt (tgt := 101) hx hb dX9_atom_96 (by decide) (fun c40 => ?_) (fun c40 => absurd (by decide) c40)
          refine lv_aload_n hx hb dX9_atom_101 rfl (lv_at hl 1 rfl) ?_
          refine z_cv hW hS hA (va_runV (As := []) (rest := []) ⟨hx, hb, hml, hown, hts⟩ (sx_X9_step l G ad c I ⟨(by show 0 ≤ (I 12 1).toInt ∧ (I 12 1).toInt ≤ 500; exact hR.1), (by show 0 ≤ (I 12 5).toInt ∧ (I 12 5).toInt ≤ 501; exact hR.2.1), (by show (-1) ≤ (I 12 6).toInt ∧ (I 12 6).toInt ≤ 1000000; exact hR.2.2.1), (by show 0 ≤ (I 12 9).toInt ∧ (I 12 9).toInt ≤ 500; exact hR.2.2.2.1), (by show 0 ≤ (I 12 13).toInt ∧ (I 12 13).toInt ≤ 24; exact hR.2.2.2.2)⟩   (by show (I 12 6).toInt ≤ 500; first | omega | decide) _) (cwV 0 hts gX9_atom_X9_step rfl rfl rfl hy_X9_step ⟨Nat.le_of_ble_eq_true rfl, Nat.le_of_ble_eq_true rfl⟩) (z_preV (i := 12) hK hW rfl rfl) rfl rfl hl.1 rfl (lv_room (Nat.le_of_ble_eq_true rfl)) dX9_atom_102 ⟨Nat.le_of_ble_eq_true rfl, Nat.le_of_ble_eq_true rfl⟩) (fun u1 H locs hp hW hS => ?_)
          obtain ⟨I41, e9, hI41R, hI41T, fI41⟩ := hp
          rw [e9] at hW
          have f42 := z_fr_sub (L := L_X9_atom_5) z_fr_0 fI41 (by decide)
          have k43 : (I41 12 6).toInt ≤ 501 ∧ ((I41 12 7).toInt = 401 ∨ (I41 12 6).toInt ≤ 500) := hI41T
          refine lv_iload_n hx hb dX9_atom_105 rfl (lv_at hl 0 rfl) ?_
          refine lv_bipush (v := 40) hx hb dX9_atom_106 (by decide) ?_
          refine lv_icmp_ne (tgt := 136) hx hb dX9_atom_108 (by decide) (fun c44 => ?_) (fun c44 => (by have g := z_f_eq rfl z_l40 c44; omega))
          have g45 := z_f_ne rfl z_l40 c44
          refine lv_aload_n hx hb dX9_atom_136 rfl (lv_at hl 1 rfl) ?_
          refine lv_bipush (v := 40) hx hb dX9_atom_137 (by decide) ?_
          refine z_ci hW hS hA (va_runV (As := [.int 40]) (rest := []) ⟨hx, hb, hml, hown, hts⟩ (sx_X9_taken l G ad c I41 ⟨(by show 0 ≤ (I41 12 1).toInt ∧ (I41 12 1).toInt ≤ 500; exact hI41R.1), (by show 0 ≤ (I41 12 5).toInt ∧ (I41 12 5).toInt ≤ 501; exact hI41R.2.1), (by show (-1) ≤ (I41 12 6).toInt ∧ (I41 12 6).toInt ≤ 1000000; exact hI41R.2.2.1), (by show 0 ≤ (I41 12 9).toInt ∧ (I41 12 9).toInt ≤ 500; exact hI41R.2.2.2.1), (by show 0 ≤ (I41 12 13).toInt ∧ (I41 12 13).toInt ≤ 24; exact hI41R.2.2.2.2)⟩ (by show (I41 12 6).toInt ≤ 501 ∧ ((I41 12 7).toInt = 401 ∨ (I41 12 6).toInt ≤ 500); first | omega | decide) 40 (by first | omega | decide) _) (cwV 1 hts gX9_atom_X9_taken rfl rfl rfl hy_X9_taken ⟨Nat.le_of_ble_eq_true rfl, Nat.le_of_ble_eq_true rfl⟩) (z_preV (i := 12) hK hW rfl rfl) rfl rfl hl.1 rfl (lv_room (Nat.le_of_ble_eq_true rfl)) dX9_atom_139 ⟨Nat.le_of_ble_eq_true rfl, Nat.le_of_ble_eq_true rfl⟩) (fun r u1 H locs hp hW hS => ?_)
          obtain ⟨I46, e9, hI46R, hI46T, fI46, hp⟩ := hp
          rw [e9] at hW
          have f47 := z_fr_sub (L := L_X9_atom_5) f42 fI46 (by decide)
          have k48 : (I46 12 6).toInt ≤ 501 ∧ ((I46 12 7).toInt = 401 ∨ (I46 12 6).toInt ≤ 500) := hI46T
          rcases hp with rfl | rfl
          · refine lv_if_eq (tgt := 183) hx hb dX9_atom_142 (by decide) (fun c49 => absurd c49 (by decide)) (fun c49 => ?_)
            refine lv_aload_n hx hb dX9_atom_145 rfl (lv_at hl 1 rfl) ?_
            refine lv_iload_n hx hb dX9_atom_146 rfl (lv_at hl 2 rfl) ?_
            refine lv_iconst (v := 1) hx hb dX9_atom_147 (by decide) ?_
            refine lv_iadd hx hb dX9_atom_148 ?_
            refine z_topi (v := 6) (by decide) ?_
            refine z_ci hW hS hA (va_runV (As := [.int 6]) (rest := []) ⟨hx, hb, hml, hown, hts⟩ (sx_X9_sum_6 l G ad c I46 ⟨(by show 0 ≤ (I46 12 1).toInt ∧ (I46 12 1).toInt ≤ 500; exact hI46R.1), (by show 0 ≤ (I46 12 5).toInt ∧ (I46 12 5).toInt ≤ 501; exact hI46R.2.1), (by show (-1) ≤ (I46 12 6).toInt ∧ (I46 12 6).toInt ≤ 1000000; exact hI46R.2.2.1), (by show 0 ≤ (I46 12 9).toInt ∧ (I46 12 9).toInt ≤ 500; exact hI46R.2.2.2.1), (by show 0 ≤ (I46 12 13).toInt ∧ (I46 12 13).toInt ≤ 24; exact hI46R.2.2.2.2)⟩ (by show (I46 12 6).toInt ≤ 501 ∧ ((I46 12 7).toInt = 401 ∨ (I46 12 6).toInt ≤ 500); first | omega | decide) _) (cwV 1 hts gX9_atom_X9_sum rfl rfl rfl hy_X9_sum ⟨Nat.le_of_ble_eq_true rfl, Nat.le_of_ble_eq_true rfl⟩) (z_preV (i := 12) hK hW rfl rfl) rfl rfl hl.1 rfl (lv_room (Nat.le_of_ble_eq_true rfl)) dX9_atom_149 ⟨Nat.le_of_ble_eq_true rfl, Nat.le_of_ble_eq_true rfl⟩) (fun r u1 H locs hp hW hS => ?_)
            obtain ⟨I50, e9, hI50R, hI50T, fI50, hp⟩ := hp
            rw [e9] at hW
            have f51 := z_fr_sub (L := L_X9_atom_5) f47 fI50 (by decide)
            have k52 : (I50 12 6).toInt ≤ 501 ∧ ((I50 12 7).toInt = 401 ∨ (I50 12 6).toInt ≤ 500) := hI50T
            rcases hp with rfl | rfl
            · refine lv_if_eq (tgt := 183) hx hb dX9_atom_152 (by decide) (fun c53 => absurd c53 (by decide)) (fun c53 => ?_)
              refine lv_aload_n hx hb dX9_atom_155 rfl (lv_at hl 1 rfl) ?_
              refine lv_bipush (v := 44) hx hb dX9_atom_156 (by decide) ?_
              refine z_ci hW hS hA (va_runV (As := [.int 44]) (rest := []) ⟨hx, hb, hml, hown, hts⟩ (sx_X9_taken l G ad c I50 ⟨(by show 0 ≤ (I50 12 1).toInt ∧ (I50 12 1).toInt ≤ 500; exact hI50R.1), (by show 0 ≤ (I50 12 5).toInt ∧ (I50 12 5).toInt ≤ 501; exact hI50R.2.1), (by show (-1) ≤ (I50 12 6).toInt ∧ (I50 12 6).toInt ≤ 1000000; exact hI50R.2.2.1), (by show 0 ≤ (I50 12 9).toInt ∧ (I50 12 9).toInt ≤ 500; exact hI50R.2.2.2.1), (by show 0 ≤ (I50 12 13).toInt ∧ (I50 12 13).toInt ≤ 24; exact hI50R.2.2.2.2)⟩ (by show (I50 12 6).toInt ≤ 501 ∧ ((I50 12 7).toInt = 401 ∨ (I50 12 6).toInt ≤ 500); first | omega | decide) 44 (by first | omega | decide) _) (cwV 1 hts gX9_atom_X9_taken rfl rfl rfl hy_X9_taken ⟨Nat.le_of_ble_eq_true rfl, Nat.le_of_ble_eq_true rfl⟩) (z_preV (i := 12) hK hW rfl rfl) rfl rfl hl.1 rfl (lv_room (Nat.le_of_ble_eq_true rfl)) dX9_atom_158 ⟨Nat.le_of_ble_eq_true rfl, Nat.le_of_ble_eq_true rfl⟩) (fun r u1 H locs hp hW hS => ?_)
              obtain ⟨I54, e9, hI54R, hI54T, fI54, hp⟩ := hp
              rw [e9] at hW
              have f55 := z_fr_sub (L := L_X9_atom_5) f51 fI54 (by decide)
              have k56 : (I54 12 6).toInt ≤ 501 ∧ ((I54 12 7).toInt = 401 ∨ (I54 12 6).toInt ≤ 500) := hI54T
              rcases hp with rfl | rfl
              · refine lv_if_eq (tgt := 183) hx hb dX9_atom_161 (by decide) (fun c57 => absurd c57 (by decide)) (fun c57 => ?_)
                refine lv_aload_n hx hb dX9_atom_164 rfl (lv_at hl 1 rfl) ?_
                refine lv_iload_n hx hb dX9_atom_165 rfl (lv_at hl 2 rfl) ?_
                refine lv_iconst (v := 1) hx hb dX9_atom_166 (by decide) ?_
                refine lv_iadd hx hb dX9_atom_167 ?_
                refine z_topi (v := 6) (by decide) ?_
                refine z_ci hW hS hA (va_runV (As := [.int 6]) (rest := []) ⟨hx, hb, hml, hown, hts⟩ (sx_X9_sum_6 l G ad c I54 ⟨(by show 0 ≤ (I54 12 1).toInt ∧ (I54 12 1).toInt ≤ 500; exact hI54R.1), (by show 0 ≤ (I54 12 5).toInt ∧ (I54 12 5).toInt ≤ 501; exact hI54R.2.1), (by show (-1) ≤ (I54 12 6).toInt ∧ (I54 12 6).toInt ≤ 1000000; exact hI54R.2.2.1), (by show 0 ≤ (I54 12 9).toInt ∧ (I54 12 9).toInt ≤ 500; exact hI54R.2.2.2.1), (by show 0 ≤ (I54 12 13).toInt ∧ (I54 12 13).toInt ≤ 24; exact hI54R.2.2.2.2)⟩ (by show (I54 12 6).toInt ≤ 501 ∧ ((I54 12 7).toInt = 401 ∨ (I54 12 6).toInt ≤ 500); first | omega | decide) _) (cwV 1 hts gX9_atom_X9_sum rfl rfl rfl hy_X9_sum ⟨Nat.le_of_ble_eq_true rfl, Nat.le_of_ble_eq_true rfl⟩) (z_preV (i := 12) hK hW rfl rfl) rfl rfl hl.1 rfl (lv_room (Nat.le_of_ble_eq_true rfl)) dX9_atom_168 ⟨Nat.le_of_ble_eq_true rfl, Nat.le_of_ble_eq_true rfl⟩) (fun r u1 H locs hp hW hS => ?_)
                obtain ⟨I58, e9, hI58R, hI58T, fI58, hp⟩ := hp
                rw [e9] at hW
                have f59 := z_fr_sub (L := L_X9_atom_5) f55 fI58 (by decide)
                have k60 : (I58 12 6).toInt ≤ 501 ∧ ((I58 12 7).toInt = 401 ∨ (I58 12 6).toInt ≤ 500) := hI58T
                rcases hp with rfl | rfl
                · refine lv_if_eq (tgt := 183) hx hb dX9_atom_171 (by decide) (fun c61 => absurd c61 (by decide)) (fun c61 => ?_)
                  refine lv_aload_n hx hb dX9_atom_174 rfl (lv_at hl 1 rfl) ?_
                  refine lv_bipush (v := 41) hx hb dX9_atom_175 (by decide) ?_
                  refine z_ci hW hS hA (va_runV (As := [.int 41]) (rest := []) ⟨hx, hb, hml, hown, hts⟩ (sx_X9_taken l G ad c I58 ⟨(by show 0 ≤ (I58 12 1).toInt ∧ (I58 12 1).toInt ≤ 500; exact hI58R.1), (by show 0 ≤ (I58 12 5).toInt ∧ (I58 12 5).toInt ≤ 501; exact hI58R.2.1), (by show (-1) ≤ (I58 12 6).toInt ∧ (I58 12 6).toInt ≤ 1000000; exact hI58R.2.2.1), (by show 0 ≤ (I58 12 9).toInt ∧ (I58 12 9).toInt ≤ 500; exact hI58R.2.2.2.1), (by show 0 ≤ (I58 12 13).toInt ∧ (I58 12 13).toInt ≤ 24; exact hI58R.2.2.2.2)⟩ (by show (I58 12 6).toInt ≤ 501 ∧ ((I58 12 7).toInt = 401 ∨ (I58 12 6).toInt ≤ 500); first | omega | decide) 41 (by first | omega | decide) _) (cwV 1 hts gX9_atom_X9_taken rfl rfl rfl hy_X9_taken ⟨Nat.le_of_ble_eq_true rfl, Nat.le_of_ble_eq_true rfl⟩) (z_preV (i := 12) hK hW rfl rfl) rfl rfl hl.1 rfl (lv_room (Nat.le_of_ble_eq_true rfl)) dX9_atom_177 ⟨Nat.le_of_ble_eq_true rfl, Nat.le_of_ble_eq_true rfl⟩) (fun r u1 H locs hp hW hS => ?_)
                  obtain ⟨I62, e9, hI62R, hI62T, fI62, hp⟩ := hp
                  rw [e9] at hW
                  have f63 := z_fr_sub (L := L_X9_atom_5) f59 fI62 (by decide)
                  have k64 : (I62 12 6).toInt ≤ 501 ∧ ((I62 12 7).toInt = 401 ∨ (I62 12 6).toInt ≤ 500) := hI62T
                  rcases hp with rfl | rfl
                  · refine lv_if_ne (tgt := 185) hx hb dX9_atom_180 (by decide) (fun c65 => ?_) (fun c65 => absurd c65 (by decide))
                    refine lv_aload_n hx hb dX9_atom_185 rfl (lv_at hl 1 rfl) ?_
                    refine lv_iload_n hx hb dX9_atom_186 rfl (lv_at hl 0 rfl) ?_
                    refine lv_sipush (v := 312) hx hb dX9_atom_187 (by decide) ?_
                    refine lv_icmp_ne (tgt := 198) hx hb dX9_atom_190 (by decide) (fun c66 => (by have g := z_f_ne rfl z_l312 c66; omega)) (fun c66 => ?_)
                    have g67 := z_f_eq rfl z_l312 c66
                    refine lv_bipush (v := (-5)) hx hb dX9_atom_193 (by decide) ?_
                    refine lv_goto (tgt := 200) hx hb dX9_atom_195 (by decide) ?_
                    refine z_cv hW hS hA (va_runV (As := [.int (-5)]) (rest := []) ⟨hx, hb, hml, hown, hts⟩ (sx_X9_emit l G ad c I62 ⟨(by show 0 ≤ (I62 12 1).toInt ∧ (I62 12 1).toInt ≤ 500; exact hI62R.1), (by show 0 ≤ (I62 12 5).toInt ∧ (I62 12 5).toInt ≤ 501; exact hI62R.2.1), (by show (-1) ≤ (I62 12 6).toInt ∧ (I62 12 6).toInt ≤ 1000000; exact hI62R.2.2.1), (by show 0 ≤ (I62 12 9).toInt ∧ (I62 12 9).toInt ≤ 500; exact hI62R.2.2.2.1), (by show 0 ≤ (I62 12 13).toInt ∧ (I62 12 13).toInt ≤ 24; exact hI62R.2.2.2.2)⟩ (-5) _) (cwV 1 hts gX9_atom_X9_emit rfl rfl rfl hy_X9_emit ⟨Nat.le_of_ble_eq_true rfl, Nat.le_of_ble_eq_true rfl⟩) (z_preV (i := 12) hK hW rfl rfl) rfl rfl hl.1 rfl (lv_room (Nat.le_of_ble_eq_true rfl)) dX9_atom_200 ⟨Nat.le_of_ble_eq_true rfl, Nat.le_of_ble_eq_true rfl⟩) (fun u1 H locs hp hW hS => ?_)
                    obtain ⟨I68, e9, hI68R, fI68⟩ := hp
                    rw [e9] at hW
                    have f69 := z_fr_sub (L := L_X9_atom_5) f63 fI68 (by decide)
                    have k70 : (I68 12 6).toInt ≤ 501 ∧ ((I68 12 7).toInt = 401 ∨ (I68 12 6).toInt ≤ 500) := (by have q0 : (I68 12 6) = (I62 12 6) := (by rw [fI68 12 6 (by decide)]); have q1 : (I68 12 7) = (I62 12 7) := (by rw [fI68 12 7 (by decide)]); show (I68 12 6).toInt ≤ 501 ∧ ((I68 12 7).toInt = 401 ∨ (I68 12 6).toInt ≤ 500); rw [q0, q1]; first | omega | decide)
                    have k71 : (I68 12 6).toInt = (I62 12 6).toInt := by rw [fI68 12 6 (by decide)]
                    have k72 : (I68 12 7).toInt = (I62 12 7).toInt := by rw [fI68 12 7 (by decide)]
                    refine lv_iconst (v := 1) hx hb dX9_atom_203 (by decide) ?_
                    exact z_zret hx hb hr (by decide) hK hS (Nat.le_of_ble_eq_true rfl) (Nat.le_of_ble_eq_true rfl) hlocks dX9_atom_204 (shC c, ad, I68, JX, PC c ad) hW ⟨I68, rfl, ⟨(by show 0 ≤ (I68 12 1).toInt ∧ (I68 12 1).toInt ≤ 500; exact hI68R.1), (by show 0 ≤ (I68 12 5).toInt ∧ (I68 12 5).toInt ≤ 501; exact hI68R.2.1), (by show (-1) ≤ (I68 12 6).toInt ∧ (I68 12 6).toInt ≤ 1000000; exact hI68R.2.2.1), (by show 0 ≤ (I68 12 9).toInt ∧ (I68 12 9).toInt ≤ 500; exact hI68R.2.2.2.1), (by show 0 ≤ (I68 12 13).toInt ∧ (I68 12 13).toInt ≤ 24; exact hI68R.2.2.2.2)⟩, (by show (I68 12 6).toInt ≤ 501 ∧ ((I68 12 7).toInt = 401 ∨ (I68 12 6).toInt ≤ 500); first | omega | decide), f69, Or.inl rfl⟩
                  · refine lv_if_ne (tgt := 185) hx hb dX9_atom_180 (by decide) (fun c73 => absurd (by decide) c73) (fun c73 => ?_)
                    refine lv_iconst (v := 0) hx hb dX9_atom_183 (by decide) ?_
                    exact z_zret hx hb hr (by decide) hK hS (Nat.le_of_ble_eq_true rfl) (Nat.le_of_ble_eq_true rfl) hlocks dX9_atom_184 (shC c, ad, I62, JX, PC c ad) hW ⟨I62, rfl, ⟨(by show 0 ≤ (I62 12 1).toInt ∧ (I62 12 1).toInt ≤ 500; exact hI62R.1), (by show 0 ≤ (I62 12 5).toInt ∧ (I62 12 5).toInt ≤ 501; exact hI62R.2.1), (by show (-1) ≤ (I62 12 6).toInt ∧ (I62 12 6).toInt ≤ 1000000; exact hI62R.2.2.1), (by show 0 ≤ (I62 12 9).toInt ∧ (I62 12 9).toInt ≤ 500; exact hI62R.2.2.2.1), (by show 0 ≤ (I62 12 13).toInt ∧ (I62 12 13).toInt ≤ 24; exact hI62R.2.2.2.2)⟩, (by show (I62 12 6).toInt ≤ 501 ∧ ((I62 12 7).toInt = 401 ∨ (I62 12 6).toInt ≤ 500); first | omega | decide), f63, Or.inr rfl⟩
                · refine lv_if_eq (tgt := 183) hx hb dX9_atom_171 (by decide) (fun c74 => ?_) (fun c74 => absurd (by decide) c74)
                  refine lv_iconst (v := 0) hx hb dX9_atom_183 (by decide) ?_
                  exact z_zret hx hb hr (by decide) hK hS (Nat.le_of_ble_eq_true rfl) (Nat.le_of_ble_eq_true rfl) hlocks dX9_atom_184 (shC c, ad, I58, JX, PC c ad) hW ⟨I58, rfl, ⟨(by show 0 ≤ (I58 12 1).toInt ∧ (I58 12 1).toInt ≤ 500; exact hI58R.1), (by show 0 ≤ (I58 12 5).toInt ∧ (I58 12 5).toInt ≤ 501; exact hI58R.2.1), (by show (-1) ≤ (I58 12 6).toInt ∧ (I58 12 6).toInt ≤ 1000000; exact hI58R.2.2.1), (by show 0 ≤ (I58 12 9).toInt ∧ (I58 12 9).toInt ≤ 500; exact hI58R.2.2.2.1), (by show 0 ≤ (I58 12 13).toInt ∧ (I58 12 13).toInt ≤ 24; exact hI58R.2.2.2.2)⟩, (by show (I58 12 6).toInt ≤ 501 ∧ ((I58 12 7).toInt = 401 ∨ (I58 12 6).toInt ≤ 500); first | omega | decide), f59, Or.inr rfl⟩
              · refine lv_if_eq (tgt := 183) hx hb dX9_atom_161 (by decide) (fun c75 => ?_) (fun c75 => absurd (by decide) c75)
                refine lv_iconst (v := 0) hx hb dX9_atom_183 (by decide) ?_
                exact z_zret hx hb hr (by decide) hK hS (Nat.le_of_ble_eq_true rfl) (Nat.le_of_ble_eq_true rfl) hlocks dX9_atom_184 (shC c, ad, I54, JX, PC c ad) hW ⟨I54, rfl, ⟨(by show 0 ≤ (I54 12 1).toInt ∧ (I54 12 1).toInt ≤ 500; exact hI54R.1), (by show 0 ≤ (I54 12 5).toInt ∧ (I54 12 5).toInt ≤ 501; exact hI54R.2.1), (by show (-1) ≤ (I54 12 6).toInt ∧ (I54 12 6).toInt ≤ 1000000; exact hI54R.2.2.1), (by show 0 ≤ (I54 12 9).toInt ∧ (I54 12 9).toInt ≤ 500; exact hI54R.2.2.2.1), (by show 0 ≤ (I54 12 13).toInt ∧ (I54 12 13).toInt ≤ 24; exact hI54R.2.2.2.2)⟩, (by show (I54 12 6).toInt ≤ 501 ∧ ((I54 12 7).toInt = 401 ∨ (I54 12 6).toInt ≤ 500); first | omega | decide), f55, Or.inr rfl⟩
            · refine lv_if_eq (tgt := 183) hx hb dX9_atom_152 (by decide) (fun c76 => ?_) (fun c76 => absurd (by decide) c76)
              refine lv_iconst (v := 0) hx hb dX9_atom_183 (by decide) ?_
              exact z_zret hx hb hr (by decide) hK hS (Nat.le_of_ble_eq_true rfl) (Nat.le_of_ble_eq_true rfl) hlocks dX9_atom_184 (shC c, ad, I50, JX, PC c ad) hW ⟨I50, rfl, ⟨(by show 0 ≤ (I50 12 1).toInt ∧ (I50 12 1).toInt ≤ 500; exact hI50R.1), (by show 0 ≤ (I50 12 5).toInt ∧ (I50 12 5).toInt ≤ 501; exact hI50R.2.1), (by show (-1) ≤ (I50 12 6).toInt ∧ (I50 12 6).toInt ≤ 1000000; exact hI50R.2.2.1), (by show 0 ≤ (I50 12 9).toInt ∧ (I50 12 9).toInt ≤ 500; exact hI50R.2.2.2.1), (by show 0 ≤ (I50 12 13).toInt ∧ (I50 12 13).toInt ≤ 24; exact hI50R.2.2.2.2)⟩, (by show (I50 12 6).toInt ≤ 501 ∧ ((I50 12 7).toInt = 401 ∨ (I50 12 6).toInt ≤ 500); first | omega | decide), f51, Or.inr rfl⟩
          · refine lv_if_eq (tgt := 183) hx hb dX9_atom_142 (by decide) (fun c77 => ?_) (fun c77 => absurd (by decide) c77)
            refine lv_iconst (v := 0) hx hb dX9_atom_183 (by decide) ?_
            exact z_zret hx hb hr (by decide) hK hS (Nat.le_of_ble_eq_true rfl) (Nat.le_of_ble_eq_true rfl) hlocks dX9_atom_184 (shC c, ad, I46, JX, PC c ad) hW ⟨I46, rfl, ⟨(by show 0 ≤ (I46 12 1).toInt ∧ (I46 12 1).toInt ≤ 500; exact hI46R.1), (by show 0 ≤ (I46 12 5).toInt ∧ (I46 12 5).toInt ≤ 501; exact hI46R.2.1), (by show (-1) ≤ (I46 12 6).toInt ∧ (I46 12 6).toInt ≤ 1000000; exact hI46R.2.2.1), (by show 0 ≤ (I46 12 9).toInt ∧ (I46 12 9).toInt ≤ 500; exact hI46R.2.2.2.1), (by show 0 ≤ (I46 12 13).toInt ∧ (I46 12 13).toInt ≤ 24; exact hI46R.2.2.2.2)⟩, (by show (I46 12 6).toInt ≤ 501 ∧ ((I46 12 7).toInt = 401 ∨ (I46 12 6).toInt ≤ 500); first | omega | decide), f47, Or.inr rfl⟩
        · have g78 := z_f_ne rfl z_l312 c38
          refine lv_iload_n hx hb dX9_atom_86 rfl (lv_at hl 0 rfl) ?_
          refine lv_sipush (v := 313) hx hb dX9_atom_87 (by decide) ?_
          refine lv_icmp_ne (tgt := 99) hx hb dX9_atom_90 (by decide) (fun c79 => ?_) (fun c79 => ?_)
          · have g80 := z_f_ne rfl z_l313 c79
            refine lv_iconst (v := 0) hx hb dX9_atom_99 (by decide) ?_
            exact z_zret hx hb hr (by decide) hK hS (Nat.le_of_ble_eq_true rfl) (Nat.le_of_ble_eq_true rfl) hlocks dX9_atom_100 (shC c, ad, I, JX, PC c ad) hW ⟨I, rfl, ⟨(by show 0 ≤ (I 12 1).toInt ∧ (I 12 1).toInt ≤ 500; exact hR.1), (by show 0 ≤ (I 12 5).toInt ∧ (I 12 5).toInt ≤ 501; exact hR.2.1), (by show (-1) ≤ (I 12 6).toInt ∧ (I 12 6).toInt ≤ 1000000; exact hR.2.2.1), (by show 0 ≤ (I 12 9).toInt ∧ (I 12 9).toInt ≤ 500; exact hR.2.2.2.1), (by show 0 ≤ (I 12 13).toInt ∧ (I 12 13).toInt ≤ 24; exact hR.2.2.2.2)⟩, (by show (I 12 6).toInt ≤ 501 ∧ ((I 12 7).toInt = 401 ∨ (I 12 6).toInt ≤ 500); first | omega | decide), z_fr_0, Or.inr rfl⟩
          · have g81 := z_f_eq rfl z_l313 c79
            refine lv_iload_n hx hb dX9_atom_93 rfl (lv_at hl 2 rfl) ?_
            refine lv_bipush (v := 9) hx hb dX9_atom_94 (by decide) ?_
            refine lv_icmp_lt (tgt := 101) hx hb dX9_atom_96 (by decide) (fun c82 => ?_) (fun c82 => absurd (by decide) c82)
            refine lv_aload_n hx hb dX9_atom_101 rfl (lv_at hl 1 rfl) ?_
            refine z_cv hW hS hA (va_runV (As := []) (rest := []) ⟨hx, hb, hml, hown, hts⟩ (sx_X9_step l G ad c I ⟨(by show 0 ≤ (I 12 1).toInt ∧ (I 12 1).toInt ≤ 500; exact hR.1), (by show 0 ≤ (I 12 5).toInt ∧ (I 12 5).toInt ≤ 501; exact hR.2.1), (by show (-1) ≤ (I 12 6).toInt ∧ (I 12 6).toInt ≤ 1000000; exact hR.2.2.1), (by show 0 ≤ (I 12 9).toInt ∧ (I 12 9).toInt ≤ 500; exact hR.2.2.2.1), (by show 0 ≤ (I 12 13).toInt ∧ (I 12 13).toInt ≤ 24; exact hR.2.2.2.2)⟩   (by show (I 12 6).toInt ≤ 500; first | omega | decide) _) (cwV 0 hts gX9_atom_X9_step rfl rfl rfl hy_X9_step ⟨Nat.le_of_ble_eq_true rfl, Nat.le_of_ble_eq_true rfl⟩) (z_preV (i := 12) hK hW rfl rfl) rfl rfl hl.1 rfl (lv_room (Nat.le_of_ble_eq_true rfl)) dX9_atom_102 ⟨Nat.le_of_ble_eq_true rfl, Nat.le_of_ble_eq_true rfl⟩) (fun u1 H locs hp hW hS => ?_)
            obtain ⟨I83, e9, hI83R, hI83T, fI83⟩ := hp
            rw [e9] at hW
            have f84 := z_fr_sub (L := L_X9_atom_5) z_fr_0 fI83 (by decide)
            have k85 : (I83 12 6).toInt ≤ 501 ∧ ((I83 12 7).toInt = 401 ∨ (I83 12 6).toInt ≤ 500) := hI83T
            refine lv_iload_n hx hb dX9_atom_105 rfl (lv_at hl 0 rfl) ?_
            refine lv_bipush (v := 40) hx hb dX9_atom_106 (by decide) ?_
            refine lv_icmp_ne (tgt := 136) hx hb dX9_atom_108 (by decide) (fun c86 => ?_) (fun c86 => (by have g := z_f_eq rfl z_l40 c86; omega))
            have g87 := z_f_ne rfl z_l40 c86
            refine lv_aload_n hx hb dX9_atom_136 rfl (lv_at hl 1 rfl) ?_
            refine lv_bipush (v := 40) hx hb dX9_atom_137 (by decide) ?_
            refine z_ci hW hS hA (va_runV (As := [.int 40]) (rest := []) ⟨hx, hb, hml, hown, hts⟩ (sx_X9_taken l G ad c I83 ⟨(by show 0 ≤ (I83 12 1).toInt ∧ (I83 12 1).toInt ≤ 500; exact hI83R.1), (by show 0 ≤ (I83 12 5).toInt ∧ (I83 12 5).toInt ≤ 501; exact hI83R.2.1), (by show (-1) ≤ (I83 12 6).toInt ∧ (I83 12 6).toInt ≤ 1000000; exact hI83R.2.2.1), (by show 0 ≤ (I83 12 9).toInt ∧ (I83 12 9).toInt ≤ 500; exact hI83R.2.2.2.1), (by show 0 ≤ (I83 12 13).toInt ∧ (I83 12 13).toInt ≤ 24; exact hI83R.2.2.2.2)⟩ (by show (I83 12 6).toInt ≤ 501 ∧ ((I83 12 7).toInt = 401 ∨ (I83 12 6).toInt ≤ 500); first | omega | decide) 40 (by first | omega | decide) _) (cwV 1 hts gX9_atom_X9_taken rfl rfl rfl hy_X9_taken ⟨Nat.le_of_ble_eq_true rfl, Nat.le_of_ble_eq_true rfl⟩) (z_preV (i := 12) hK hW rfl rfl) rfl rfl hl.1 rfl (lv_room (Nat.le_of_ble_eq_true rfl)) dX9_atom_139 ⟨Nat.le_of_ble_eq_true rfl, Nat.le_of_ble_eq_true rfl⟩) (fun r u1 H locs hp hW hS => ?_)
            obtain ⟨I88, e9, hI88R, hI88T, fI88, hp⟩ := hp
            rw [e9] at hW
            have f89 := z_fr_sub (L := L_X9_atom_5) f84 fI88 (by decide)
            have k90 : (I88 12 6).toInt ≤ 501 ∧ ((I88 12 7).toInt = 401 ∨ (I88 12 6).toInt ≤ 500) := hI88T
            rcases hp with rfl | rfl
            · refine lv_if_eq (tgt := 183) hx hb dX9_atom_142 (by decide) (fun c91 => absurd c91 (by decide)) (fun c91 => ?_)
              refine lv_aload_n hx hb dX9_atom_145 rfl (lv_at hl 1 rfl) ?_
              refine lv_iload_n hx hb dX9_atom_146 rfl (lv_at hl 2 rfl) ?_
              refine lv_iconst (v := 1) hx hb dX9_atom_147 (by decide) ?_
              refine lv_iadd hx hb dX9_atom_148 ?_
              refine z_topi (v := 6) (by decide) ?_
              refine z_ci hW hS hA (va_runV (As := [.int 6]) (rest := []) ⟨hx, hb, hml, hown, hts⟩ (sx_X9_sum_6 l G ad c I88 ⟨(by show 0 ≤ (I88 12 1).toInt ∧ (I88 12 1).toInt ≤ 500; exact hI88R.1), (by show 0 ≤ (I88 12 5).toInt ∧ (I88 12 5).toInt ≤ 501; exact hI88R.2.1), (by show (-1) ≤ (I88 12 6).toInt ∧ (I88 12 6).toInt ≤ 1000000; exact hI88R.2.2.1), (by show 0 ≤ (I88 12 9).toInt ∧ (I88 12 9).toInt ≤ 500; exact hI88R.2.2.2.1), (by show 0 ≤ (I88 12 13).toInt ∧ (I88 12 13).toInt ≤ 24; exact hI88R.2.2.2.2)⟩ (by show (I88 12 6).toInt ≤ 501 ∧ ((I88 12 7).toInt = 401 ∨ (I88 12 6).toInt ≤ 500); first | omega | decide) _) (cwV 1 hts gX9_atom_X9_sum rfl rfl rfl hy_X9_sum ⟨Nat.le_of_ble_eq_true rfl, Nat.le_of_ble_eq_true rfl⟩) (z_preV (i := 12) hK hW rfl rfl) rfl rfl hl.1 rfl (lv_room (Nat.le_of_ble_eq_true rfl)) dX9_atom_149 ⟨Nat.le_of_ble_eq_true rfl, Nat.le_of_ble_eq_true rfl⟩) (fun r u1 H locs hp hW hS => ?_)
              obtain ⟨I92, e9, hI92R, hI92T, fI92, hp⟩ := hp
              rw [e9] at hW
              have f93 := z_fr_sub (L := L_X9_atom_5) f89 fI92 (by decide)
              have k94 : (I92 12 6).toInt ≤ 501 ∧ ((I92 12 7).toInt = 401 ∨ (I92 12 6).toInt ≤ 500) := hI92T
              rcases hp with rfl | rfl
              · refine lv_if_eq (tgt := 183) hx hb dX9_atom_152 (by decide) (fun c95 => absurd c95 (by decide)) (fun c95 => ?_)
                refine lv_aload_n hx hb dX9_atom_155 rfl (lv_at hl 1 rfl) ?_
                refine lv_bipush (v := 44) hx hb dX9_atom_156 (by decide) ?_
                refine z_ci hW hS hA (va_runV (As := [.int 44]) (rest := []) ⟨hx, hb, hml, hown, hts⟩ (sx_X9_taken l G ad c I92 ⟨(by show 0 ≤ (I92 12 1).toInt ∧ (I92 12 1).toInt ≤ 500; exact hI92R.1), (by show 0 ≤ (I92 12 5).toInt ∧ (I92 12 5).toInt ≤ 501; exact hI92R.2.1), (by show (-1) ≤ (I92 12 6).toInt ∧ (I92 12 6).toInt ≤ 1000000; exact hI92R.2.2.1), (by show 0 ≤ (I92 12 9).toInt ∧ (I92 12 9).toInt ≤ 500; exact hI92R.2.2.2.1), (by show 0 ≤ (I92 12 13).toInt ∧ (I92 12 13).toInt ≤ 24; exact hI92R.2.2.2.2)⟩ (by show (I92 12 6).toInt ≤ 501 ∧ ((I92 12 7).toInt = 401 ∨ (I92 12 6).toInt ≤ 500); first | omega | decide) 44 (by first | omega | decide) _) (cwV 1 hts gX9_atom_X9_taken rfl rfl rfl hy_X9_taken ⟨Nat.le_of_ble_eq_true rfl, Nat.le_of_ble_eq_true rfl⟩) (z_preV (i := 12) hK hW rfl rfl) rfl rfl hl.1 rfl (lv_room (Nat.le_of_ble_eq_true rfl)) dX9_atom_158 ⟨Nat.le_of_ble_eq_true rfl, Nat.le_of_ble_eq_true rfl⟩) (fun r u1 H locs hp hW hS => ?_)
                obtain ⟨I96, e9, hI96R, hI96T, fI96, hp⟩ := hp
                rw [e9] at hW
                have f97 := z_fr_sub (L := L_X9_atom_5) f93 fI96 (by decide)
                have k98 : (I96 12 6).toInt ≤ 501 ∧ ((I96 12 7).toInt = 401 ∨ (I96 12 6).toInt ≤ 500) := hI96T
                rcases hp with rfl | rfl
                · refine lv_if_eq (tgt := 183) hx hb dX9_atom_161 (by decide) (fun c99 => absurd c99 (by decide)) (fun c99 => ?_)
                  refine lv_aload_n hx hb dX9_atom_164 rfl (lv_at hl 1 rfl) ?_
                  refine lv_iload_n hx hb dX9_atom_165 rfl (lv_at hl 2 rfl) ?_
                  refine lv_iconst (v := 1) hx hb dX9_atom_166 (by decide) ?_
                  refine lv_iadd hx hb dX9_atom_167 ?_
                  refine z_topi (v := 6) (by decide) ?_
                  refine z_ci hW hS hA (va_runV (As := [.int 6]) (rest := []) ⟨hx, hb, hml, hown, hts⟩ (sx_X9_sum_6 l G ad c I96 ⟨(by show 0 ≤ (I96 12 1).toInt ∧ (I96 12 1).toInt ≤ 500; exact hI96R.1), (by show 0 ≤ (I96 12 5).toInt ∧ (I96 12 5).toInt ≤ 501; exact hI96R.2.1), (by show (-1) ≤ (I96 12 6).toInt ∧ (I96 12 6).toInt ≤ 1000000; exact hI96R.2.2.1), (by show 0 ≤ (I96 12 9).toInt ∧ (I96 12 9).toInt ≤ 500; exact hI96R.2.2.2.1), (by show 0 ≤ (I96 12 13).toInt ∧ (I96 12 13).toInt ≤ 24; exact hI96R.2.2.2.2)⟩ (by show (I96 12 6).toInt ≤ 501 ∧ ((I96 12 7).toInt = 401 ∨ (I96 12 6).toInt ≤ 500); first | omega | decide) _) (cwV 1 hts gX9_atom_X9_sum rfl rfl rfl hy_X9_sum ⟨Nat.le_of_ble_eq_true rfl, Nat.le_of_ble_eq_true rfl⟩) (z_preV (i := 12) hK hW rfl rfl) rfl rfl hl.1 rfl (lv_room (Nat.le_of_ble_eq_true rfl)) dX9_atom_168 ⟨Nat.le_of_ble_eq_true rfl, Nat.le_of_ble_eq_true rfl⟩) (fun r u1 H locs hp hW hS => ?_)
                  obtain ⟨I100, e9, hI100R, hI100T, fI100, hp⟩ := hp
                  rw [e9] at hW
                  have f101 := z_fr_sub (L := L_X9_atom_5) f97 fI100 (by decide)
                  have k102 : (I100 12 6).toInt ≤ 501 ∧ ((I100 12 7).toInt = 401 ∨ (I100 12 6).toInt ≤ 500) := hI100T
                  rcases hp with rfl | rfl
                  · refine lv_if_eq (tgt := 183) hx hb dX9_atom_171 (by decide) (fun c103 => absurd c103 (by decide)) (fun c103 => ?_)
                    refine lv_aload_n hx hb dX9_atom_174 rfl (lv_at hl 1 rfl) ?_
                    refine lv_bipush (v := 41) hx hb dX9_atom_175 (by decide) ?_
                    refine z_ci hW hS hA (va_runV (As := [.int 41]) (rest := []) ⟨hx, hb, hml, hown, hts⟩ (sx_X9_taken l G ad c I100 ⟨(by show 0 ≤ (I100 12 1).toInt ∧ (I100 12 1).toInt ≤ 500; exact hI100R.1), (by show 0 ≤ (I100 12 5).toInt ∧ (I100 12 5).toInt ≤ 501; exact hI100R.2.1), (by show (-1) ≤ (I100 12 6).toInt ∧ (I100 12 6).toInt ≤ 1000000; exact hI100R.2.2.1), (by show 0 ≤ (I100 12 9).toInt ∧ (I100 12 9).toInt ≤ 500; exact hI100R.2.2.2.1), (by show 0 ≤ (I100 12 13).toInt ∧ (I100 12 13).toInt ≤ 24; exact hI100R.2.2.2.2)⟩ (by show (I100 12 6).toInt ≤ 501 ∧ ((I100 12 7).toInt = 401 ∨ (I100 12 6).toInt ≤ 500); first | omega | decide) 41 (by first | omega | decide) _) (cwV 1 hts gX9_atom_X9_taken rfl rfl rfl hy_X9_taken ⟨Nat.le_of_ble_eq_true rfl, Nat.le_of_ble_eq_true rfl⟩) (z_preV (i := 12) hK hW rfl rfl) rfl rfl hl.1 rfl (lv_room (Nat.le_of_ble_eq_true rfl)) dX9_atom_177 ⟨Nat.le_of_ble_eq_true rfl, Nat.le_of_ble_eq_true rfl⟩) (fun r u1 H locs hp hW hS => ?_)
                    obtain ⟨I104, e9, hI104R, hI104T, fI104, hp⟩ := hp
                    rw [e9] at hW
                    have f105 := z_fr_sub (L := L_X9_atom_5) f101 fI104 (by decide)
                    have k106 : (I104 12 6).toInt ≤ 501 ∧ ((I104 12 7).toInt = 401 ∨ (I104 12 6).toInt ≤ 500) := hI104T
                    rcases hp with rfl | rfl
                    · refine lv_if_ne (tgt := 185) hx hb dX9_atom_180 (by decide) (fun c107 => ?_) (fun c107 => absurd c107 (by decide))
                      refine lv_aload_n hx hb dX9_atom_185 rfl (lv_at hl 1 rfl) ?_
                      refine lv_iload_n hx hb dX9_atom_186 rfl (lv_at hl 0 rfl) ?_
                      refine lv_sipush (v := 312) hx hb dX9_atom_187 (by decide) ?_
                      refine lv_icmp_ne (tgt := 198) hx hb dX9_atom_190 (by decide) (fun c108 => ?_) (fun c108 => (by have g := z_f_eq rfl z_l312 c108; omega))
                      have g109 := z_f_ne rfl z_l312 c108
                      refine lv_bipush (v := (-6)) hx hb dX9_atom_198 (by decide) ?_
                      refine z_cv hW hS hA (va_runV (As := [.int (-6)]) (rest := []) ⟨hx, hb, hml, hown, hts⟩ (sx_X9_emit l G ad c I104 ⟨(by show 0 ≤ (I104 12 1).toInt ∧ (I104 12 1).toInt ≤ 500; exact hI104R.1), (by show 0 ≤ (I104 12 5).toInt ∧ (I104 12 5).toInt ≤ 501; exact hI104R.2.1), (by show (-1) ≤ (I104 12 6).toInt ∧ (I104 12 6).toInt ≤ 1000000; exact hI104R.2.2.1), (by show 0 ≤ (I104 12 9).toInt ∧ (I104 12 9).toInt ≤ 500; exact hI104R.2.2.2.1), (by show 0 ≤ (I104 12 13).toInt ∧ (I104 12 13).toInt ≤ 24; exact hI104R.2.2.2.2)⟩ (-6) _) (cwV 1 hts gX9_atom_X9_emit rfl rfl rfl hy_X9_emit ⟨Nat.le_of_ble_eq_true rfl, Nat.le_of_ble_eq_true rfl⟩) (z_preV (i := 12) hK hW rfl rfl) rfl rfl hl.1 rfl (lv_room (Nat.le_of_ble_eq_true rfl)) dX9_atom_200 ⟨Nat.le_of_ble_eq_true rfl, Nat.le_of_ble_eq_true rfl⟩) (fun u1 H locs hp hW hS => ?_)
                      obtain ⟨I110, e9, hI110R, fI110⟩ := hp
                      rw [e9] at hW
                      have f111 := z_fr_sub (L := L_X9_atom_5) f105 fI110 (by decide)
                      have k112 : (I110 12 6).toInt ≤ 501 ∧ ((I110 12 7).toInt = 401 ∨ (I110 12 6).toInt ≤ 500) := (by have q0 : (I110 12 6) = (I104 12 6) := (by rw [fI110 12 6 (by decide)]); have q1 : (I110 12 7) = (I104 12 7) := (by rw [fI110 12 7 (by decide)]); show (I110 12 6).toInt ≤ 501 ∧ ((I110 12 7).toInt = 401 ∨ (I110 12 6).toInt ≤ 500); rw [q0, q1]; first | omega | decide)
                      have k113 : (I110 12 6).toInt = (I104 12 6).toInt := by rw [fI110 12 6 (by decide)]
                      have k114 : (I110 12 7).toInt = (I104 12 7).toInt := by rw [fI110 12 7 (by decide)]
                      refine lv_iconst (v := 1) hx hb dX9_atom_203 (by decide) ?_
                      exact z_zret hx hb hr (by decide) hK hS (Nat.le_of_ble_eq_true rfl) (Nat.le_of_ble_eq_true rfl) hlocks dX9_atom_204 (shC c, ad, I110, JX, PC c ad) hW ⟨I110, rfl, ⟨(by show 0 ≤ (I110 12 1).toInt ∧ (I110 12 1).toInt ≤ 500; exact hI110R.1), (by show 0 ≤ (I110 12 5).toInt ∧ (I110 12 5).toInt ≤ 501; exact hI110R.2.1), (by show (-1) ≤ (I110 12 6).toInt ∧ (I110 12 6).toInt ≤ 1000000; exact hI110R.2.2.1), (by show 0 ≤ (I110 12 9).toInt ∧ (I110 12 9).toInt ≤ 500; exact hI110R.2.2.2.1), (by show 0 ≤ (I110 12 13).toInt ∧ (I110 12 13).toInt ≤ 24; exact hI110R.2.2.2.2)⟩, (by show (I110 12 6).toInt ≤ 501 ∧ ((I110 12 7).toInt = 401 ∨ (I110 12 6).toInt ≤ 500); first | omega | decide), f111, Or.inl rfl⟩
                    · refine lv_if_ne (tgt := 185) hx hb dX9_atom_180 (by decide) (fun c115 => absurd (by decide) c115) (fun c115 => ?_)
                      refine lv_iconst (v := 0) hx hb dX9_atom_183 (by decide) ?_
                      exact z_zret hx hb hr (by decide) hK hS (Nat.le_of_ble_eq_true rfl) (Nat.le_of_ble_eq_true rfl) hlocks dX9_atom_184 (shC c, ad, I104, JX, PC c ad) hW ⟨I104, rfl, ⟨(by show 0 ≤ (I104 12 1).toInt ∧ (I104 12 1).toInt ≤ 500; exact hI104R.1), (by show 0 ≤ (I104 12 5).toInt ∧ (I104 12 5).toInt ≤ 501; exact hI104R.2.1), (by show (-1) ≤ (I104 12 6).toInt ∧ (I104 12 6).toInt ≤ 1000000; exact hI104R.2.2.1), (by show 0 ≤ (I104 12 9).toInt ∧ (I104 12 9).toInt ≤ 500; exact hI104R.2.2.2.1), (by show 0 ≤ (I104 12 13).toInt ∧ (I104 12 13).toInt ≤ 24; exact hI104R.2.2.2.2)⟩, (by show (I104 12 6).toInt ≤ 501 ∧ ((I104 12 7).toInt = 401 ∨ (I104 12 6).toInt ≤ 500); first | omega | decide), f105, Or.inr rfl⟩
                  · refine lv_if_eq (tgt := 183) hx hb dX9_atom_171 (by decide) (fun c116 => ?_) (fun c116 => absurd (by decide) c116)
                    refine lv_iconst (v := 0) hx hb dX9_atom_183 (by decide) ?_
                    exact z_zret hx hb hr (by decide) hK hS (Nat.le_of_ble_eq_true rfl) (Nat.le_of_ble_eq_true rfl) hlocks dX9_atom_184 (shC c, ad, I100, JX, PC c ad) hW ⟨I100, rfl, ⟨(by show 0 ≤ (I100 12 1).toInt ∧ (I100 12 1).toInt ≤ 500; exact hI100R.1), (by show 0 ≤ (I100 12 5).toInt ∧ (I100 12 5).toInt ≤ 501; exact hI100R.2.1), (by show (-1) ≤ (I100 12 6).toInt ∧ (I100 12 6).toInt ≤ 1000000; exact hI100R.2.2.1), (by show 0 ≤ (I100 12 9).toInt ∧ (I100 12 9).toInt ≤ 500; exact hI100R.2.2.2.1), (by show 0 ≤ (I100 12 13).toInt ∧ (I100 12 13).toInt ≤ 24; exact hI100R.2.2.2.2)⟩, (by show (I100 12 6).toInt ≤ 501 ∧ ((I100 12 7).toInt = 401 ∨ (I100 12 6).toInt ≤ 500); first | omega | decide), f101, Or.inr rfl⟩
                · refine lv_if_eq (tgt := 183) hx hb dX9_atom_161 (by decide) (fun c117 => ?_) (fun c117 => absurd (by decide) c117)
                  refine lv_iconst (v := 0) hx hb dX9_atom_183 (by decide) ?_
                  exact z_zret hx hb hr (by decide) hK hS (Nat.le_of_ble_eq_true rfl) (Nat.le_of_ble_eq_true rfl) hlocks dX9_atom_184 (shC c, ad, I96, JX, PC c ad) hW ⟨I96, rfl, ⟨(by show 0 ≤ (I96 12 1).toInt ∧ (I96 12 1).toInt ≤ 500; exact hI96R.1), (by show 0 ≤ (I96 12 5).toInt ∧ (I96 12 5).toInt ≤ 501; exact hI96R.2.1), (by show (-1) ≤ (I96 12 6).toInt ∧ (I96 12 6).toInt ≤ 1000000; exact hI96R.2.2.1), (by show 0 ≤ (I96 12 9).toInt ∧ (I96 12 9).toInt ≤ 500; exact hI96R.2.2.2.1), (by show 0 ≤ (I96 12 13).toInt ∧ (I96 12 13).toInt ≤ 24; exact hI96R.2.2.2.2)⟩, (by show (I96 12 6).toInt ≤ 501 ∧ ((I96 12 7).toInt = 401 ∨ (I96 12 6).toInt ≤ 500); first | omega | decide), f97, Or.inr rfl⟩
              · refine lv_if_eq (tgt := 183) hx hb dX9_atom_152 (by decide) (fun c118 => ?_) (fun c118 => absurd (by decide) c118)
                refine lv_iconst (v := 0) hx hb dX9_atom_183 (by decide) ?_
                exact z_zret hx hb hr (by decide) hK hS (Nat.le_of_ble_eq_true rfl) (Nat.le_of_ble_eq_true rfl) hlocks dX9_atom_184 (shC c, ad, I92, JX, PC c ad) hW ⟨I92, rfl, ⟨(by show 0 ≤ (I92 12 1).toInt ∧ (I92 12 1).toInt ≤ 500; exact hI92R.1), (by show 0 ≤ (I92 12 5).toInt ∧ (I92 12 5).toInt ≤ 501; exact hI92R.2.1), (by show (-1) ≤ (I92 12 6).toInt ∧ (I92 12 6).toInt ≤ 1000000; exact hI92R.2.2.1), (by show 0 ≤ (I92 12 9).toInt ∧ (I92 12 9).toInt ≤ 500; exact hI92R.2.2.2.1), (by show 0 ≤ (I92 12 13).toInt ∧ (I92 12 13).toInt ≤ 24; exact hI92R.2.2.2.2)⟩, (by show (I92 12 6).toInt ≤ 501 ∧ ((I92 12 7).toInt = 401 ∨ (I92 12 6).toInt ≤ 500); first | omega | decide), f93, Or.inr rfl⟩
            · refine lv_if_eq (tgt := 183) hx hb dX9_atom_142 (by decide) (fun c119 => ?_) (fun c119 => absurd (by decide) c119)
              refine lv_iconst (v := 0) hx hb dX9_atom_183 (by decide) ?_
              exact z_zret hx hb hr (by decide) hK hS (Nat.le_of_ble_eq_true rfl) (Nat.le_of_ble_eq_true rfl) hlocks dX9_atom_184 (shC c, ad, I88, JX, PC c ad) hW ⟨I88, rfl, ⟨(by show 0 ≤ (I88 12 1).toInt ∧ (I88 12 1).toInt ≤ 500; exact hI88R.1), (by show 0 ≤ (I88 12 5).toInt ∧ (I88 12 5).toInt ≤ 501; exact hI88R.2.1), (by show (-1) ≤ (I88 12 6).toInt ∧ (I88 12 6).toInt ≤ 1000000; exact hI88R.2.2.1), (by show 0 ≤ (I88 12 9).toInt ∧ (I88 12 9).toInt ≤ 500; exact hI88R.2.2.2.1), (by show 0 ≤ (I88 12 13).toInt ∧ (I88 12 13).toInt ≤ 24; exact hI88R.2.2.2.2)⟩, (by show (I88 12 6).toInt ≤ 501 ∧ ((I88 12 7).toInt = 401 ∨ (I88 12 6).toInt ≤ 500); first | omega | decide), f89, Or.inr rfl⟩
    · have g120 := z_f_nlt rfl z_l314 c17
      refine lv_aload_n hx hb dX9_atom_20 rfl (lv_at hl 0 rfl) ?_
      refine z_get (T := TX9) (N := 14) (ci := 9) (i := 12) (v := .int (I 12 7)) hx hb hts zj_X9_atom_X9 hown hK hW rfl rfl 7 (by decide) (hts (.fieldLink RX9 62 "PetrolBoard$Reader" "token" "I") (me_s (me_l (me_l (List.mem_of_getElem? (i := 0) rfl))))) (fun _ h => h) rfl dX9_atom_21 ?_
      refine lv_sipush (v := 320) hx hb dX9_atom_24 (by decide) ?_
      refine lv_icmp_gt (tgt := 68) hx hb dX9_atom_27 (by decide) (fun c121 => ?_) (fun c121 => ?_)
      · have g122 := z_f_gt rfl z_l320 c121
        refine lv_aload_n hx hb dX9_atom_68 rfl (lv_at hl 0 rfl) ?_
        refine z_get (T := TX9) (N := 14) (ci := 9) (i := 12) (v := .int (I 12 7)) hx hb hts zj_X9_atom_X9 hown hK hW rfl rfl 7 (by decide) (hts (.fieldLink RX9 62 "PetrolBoard$Reader" "token" "I") (me_s (me_l (me_l (List.mem_of_getElem? (i := 0) rfl))))) (fun _ h => h) rfl dX9_atom_69 ?_
        refine lv_istore_n (lv' := [(2, .int (I 12 7)), (0, .ref (ad 12)), (1, .int 5)]) hx hb dX9_atom_72 rfl hl (by decide) rfl (fun ls hl => ?_)
        refine lv_iload_n hx hb dX9_atom_73 rfl (lv_at hl 0 rfl) ?_
        refine lv_bipush (v := 40) hx hb dX9_atom_74 (by decide) ?_
        refine lv_icmp_eq (tgt := 93) hx hb dX9_atom_76 (by decide) (fun c123 => (by have g := z_f_eq rfl z_l40 c123; omega)) (fun c123 => ?_)
        have g124 := z_f_ne rfl z_l40 c123
        refine lv_iload_n hx hb dX9_atom_79 rfl (lv_at hl 0 rfl) ?_
        refine lv_sipush (v := 312) hx hb dX9_atom_80 (by decide) ?_
        refine lv_icmp_eq (tgt := 93) hx hb dX9_atom_83 (by decide) (fun c125 => (by have g := z_f_eq rfl z_l312 c125; omega)) (fun c125 => ?_)
        have g126 := z_f_ne rfl z_l312 c125
        refine lv_iload_n hx hb dX9_atom_86 rfl (lv_at hl 0 rfl) ?_
        refine lv_sipush (v := 313) hx hb dX9_atom_87 (by decide) ?_
        refine lv_icmp_ne (tgt := 99) hx hb dX9_atom_90 (by decide) (fun c127 => ?_) (fun c127 => (by have g := z_f_eq rfl z_l313 c127; omega))
        have g128 := z_f_ne rfl z_l313 c127
        refine lv_iconst (v := 0) hx hb dX9_atom_99 (by decide) ?_
        exact z_zret hx hb hr (by decide) hK hS (Nat.le_of_ble_eq_true rfl) (Nat.le_of_ble_eq_true rfl) hlocks dX9_atom_100 (shC c, ad, I, JX, PC c ad) hW ⟨I, rfl, ⟨(by show 0 ≤ (I 12 1).toInt ∧ (I 12 1).toInt ≤ 500; exact hR.1), (by show 0 ≤ (I 12 5).toInt ∧ (I 12 5).toInt ≤ 501; exact hR.2.1), (by show (-1) ≤ (I 12 6).toInt ∧ (I 12 6).toInt ≤ 1000000; exact hR.2.2.1), (by show 0 ≤ (I 12 9).toInt ∧ (I 12 9).toInt ≤ 500; exact hR.2.2.2.1), (by show 0 ≤ (I 12 13).toInt ∧ (I 12 13).toInt ≤ 24; exact hR.2.2.2.2)⟩, (by show (I 12 6).toInt ≤ 501 ∧ ((I 12 7).toInt = 401 ∨ (I 12 6).toInt ≤ 500); first | omega | decide), z_fr_0, Or.inr rfl⟩
      · have g129 := z_f_ngt rfl z_l320 c121
        refine lv_aload_n hx hb dX9_atom_30 rfl (lv_at hl 0 rfl) ?_
        refine lv_aload_n hx hb dX9_atom_31 rfl (lv_at hl 0 rfl) ?_
        refine z_get (T := TX9) (N := 14) (ci := 9) (i := 12) (v := .int (I 12 7)) hx hb hts zj_X9_atom_X9 hown hK hW rfl rfl 7 (by decide) (hts (.fieldLink RX9 62 "PetrolBoard$Reader" "token" "I") (me_s (me_l (me_l (List.mem_of_getElem? (i := 0) rfl))))) (fun _ h => h) rfl dX9_atom_32 ?_
        refine lv_sipush (v := 400) hx hb dX9_atom_35 (by decide) ?_
        refine lv_icmp_ne (tgt := 48) hx hb dX9_atom_38 (by decide) (fun c130 => ?_) (fun c130 => (by have g := z_f_eq rfl z_l400 c130; omega))
        have g131 := z_f_ne rfl z_l400 c130
        refine lv_bipush (v := (-20)) hx hb dX9_atom_48 (by decide) ?_
        refine lv_aload_n hx hb dX9_atom_50 rfl (lv_at hl 0 rfl) ?_
        refine z_get (T := TX9) (N := 14) (ci := 9) (i := 12) (v := .int (I 12 7)) hx hb hts zj_X9_atom_X9 hown hK hW rfl rfl 7 (by decide) (hts (.fieldLink RX9 62 "PetrolBoard$Reader" "token" "I") (me_s (me_l (me_l (List.mem_of_getElem? (i := 0) rfl))))) (fun _ h => h) rfl dX9_atom_51 ?_
        refine lv_sipush (v := 314) hx hb dX9_atom_54 (by decide) ?_
        refine lv_isub hx hb dX9_atom_57 ?_
        refine lv_topi (fun x132 ex132 => ?_)
        have tx132 : x132.toInt = (I 12 7).toInt - 314 := z_tsub ex132 rfl z_l314 (by omega) (by omega)
        refine lv_isub hx hb dX9_atom_58 ?_
        refine lv_topi (fun x133 ex133 => ?_)
        have tx133 : x133.toInt = (-20) - x132.toInt := z_tsub ex133 z_lm20 rfl (by omega) (by omega)
        refine z_cv hW hS hA (va_runV (As := [.int x133]) (rest := []) ⟨hx, hb, hml, hown, hts⟩ (sx_X9_emit l G ad c I ⟨(by show 0 ≤ (I 12 1).toInt ∧ (I 12 1).toInt ≤ 500; exact hR.1), (by show 0 ≤ (I 12 5).toInt ∧ (I 12 5).toInt ≤ 501; exact hR.2.1), (by show (-1) ≤ (I 12 6).toInt ∧ (I 12 6).toInt ≤ 1000000; exact hR.2.2.1), (by show 0 ≤ (I 12 9).toInt ∧ (I 12 9).toInt ≤ 500; exact hR.2.2.2.1), (by show 0 ≤ (I 12 13).toInt ∧ (I 12 13).toInt ≤ 24; exact hR.2.2.2.2)⟩ x133 _) (cwV 1 hts gX9_atom_X9_emit rfl rfl rfl hy_X9_emit ⟨Nat.le_of_ble_eq_true rfl, Nat.le_of_ble_eq_true rfl⟩) (z_preV (i := 12) hK hW rfl rfl) rfl rfl hl.1 rfl (lv_room (Nat.le_of_ble_eq_true rfl)) dX9_atom_59 ⟨Nat.le_of_ble_eq_true rfl, Nat.le_of_ble_eq_true rfl⟩) (fun u1 H locs hp hW hS => ?_)
        obtain ⟨I134, e9, hI134R, fI134⟩ := hp
        rw [e9] at hW
        have f135 := z_fr_sub (L := L_X9_atom_5) z_fr_0 fI134 (by decide)
        have k136 : (I134 12 6).toInt ≤ 501 ∧ ((I134 12 7).toInt = 401 ∨ (I134 12 6).toInt ≤ 500) := (by have q0 : (I134 12 6) = (I 12 6) := (by rw [fI134 12 6 (by decide)]); have q1 : (I134 12 7) = (I 12 7) := (by rw [fI134 12 7 (by decide)]); show (I134 12 6).toInt ≤ 501 ∧ ((I134 12 7).toInt = 401 ∨ (I134 12 6).toInt ≤ 500); rw [q0, q1]; first | omega | decide)
        have k137 : (I134 12 6).toInt = (I 12 6).toInt := by rw [fI134 12 6 (by decide)]
        have k138 : (I134 12 7).toInt = (I 12 7).toInt := by rw [fI134 12 7 (by decide)]
        refine lv_aload_n hx hb dX9_atom_62 rfl (lv_at hl 0 rfl) ?_
        refine z_cv hW hS hA (va_runV (As := []) (rest := []) ⟨hx, hb, hml, hown, hts⟩ (sx_X9_step l G ad c I134 ⟨(by show 0 ≤ (I134 12 1).toInt ∧ (I134 12 1).toInt ≤ 500; exact hI134R.1), (by show 0 ≤ (I134 12 5).toInt ∧ (I134 12 5).toInt ≤ 501; exact hI134R.2.1), (by show (-1) ≤ (I134 12 6).toInt ∧ (I134 12 6).toInt ≤ 1000000; exact hI134R.2.2.1), (by show 0 ≤ (I134 12 9).toInt ∧ (I134 12 9).toInt ≤ 500; exact hI134R.2.2.2.1), (by show 0 ≤ (I134 12 13).toInt ∧ (I134 12 13).toInt ≤ 24; exact hI134R.2.2.2.2)⟩   (by show (I134 12 6).toInt ≤ 500; first | omega | decide) _) (cwV 0 hts gX9_atom_X9_step rfl rfl rfl hy_X9_step ⟨Nat.le_of_ble_eq_true rfl, Nat.le_of_ble_eq_true rfl⟩) (z_preV (i := 12) hK hW rfl rfl) rfl rfl hl.1 rfl (lv_room (Nat.le_of_ble_eq_true rfl)) dX9_atom_63 ⟨Nat.le_of_ble_eq_true rfl, Nat.le_of_ble_eq_true rfl⟩) (fun u1 H locs hp hW hS => ?_)
        obtain ⟨I139, e9, hI139R, hI139T, fI139⟩ := hp
        rw [e9] at hW
        have f140 := z_fr_sub (L := L_X9_atom_5) f135 fI139 (by decide)
        have k141 : (I139 12 6).toInt ≤ 501 ∧ ((I139 12 7).toInt = 401 ∨ (I139 12 6).toInt ≤ 500) := hI139T
        refine lv_iconst (v := 1) hx hb dX9_atom_66 (by decide) ?_
        exact z_zret hx hb hr (by decide) hK hS (Nat.le_of_ble_eq_true rfl) (Nat.le_of_ble_eq_true rfl) hlocks dX9_atom_67 (shC c, ad, I139, JX, PC c ad) hW ⟨I139, rfl, ⟨(by show 0 ≤ (I139 12 1).toInt ∧ (I139 12 1).toInt ≤ 500; exact hI139R.1), (by show 0 ≤ (I139 12 5).toInt ∧ (I139 12 5).toInt ≤ 501; exact hI139R.2.1), (by show (-1) ≤ (I139 12 6).toInt ∧ (I139 12 6).toInt ≤ 1000000; exact hI139R.2.2.1), (by show 0 ≤ (I139 12 9).toInt ∧ (I139 12 9).toInt ≤ 500; exact hI139R.2.2.2.1), (by show 0 ≤ (I139 12 13).toInt ∧ (I139 12 13).toInt ≤ 24; exact hI139R.2.2.2.2)⟩, (by show (I139 12 6).toInt ≤ 501 ∧ ((I139 12 7).toInt = 401 ∨ (I139 12 6).toInt ≤ 500); first | omega | decide), f140, Or.inl rfl⟩
noncomputable def L_X9_product_5 : z_L := [(12, 6), (12, 7), (17, 999), (12, 9)]
set_option maxHeartbeats 8000000 in
set_option maxRecDepth 100000 in
theorem sx_X9_product_5 (l : Launch) (G : z_G) (ad : Nat → Nat) (c : z_C) (I : z_I) (hR : z_iR I) (hT : z_iT I) : z_M l yX9_product wsX9_product { frames := 16, cells := 0, slots := 0, locals := 347 } [.ref (ad 12), .int 5] G (shC c, ad, I, JX, PC c ad) (fun r u1 => ∃ I1 : z_I, u1 = (shC c, ad, I1, JX, PC c ad) ∧ z_iR I1 ∧ z_iT I1 ∧ z_fr L_X9_product_5 I1 I ∧ (r = 1 ∨ r = 0)) 0 0 := by
  intro sz
  refine z_headQ (cc := cX9_product) (maxL := 4) (ret := (some .boolean)) (by decide) rfl (Nat.le_of_ble_eq_true rfl) ?_
  intro p e s m below meth c0 ls hIn hK hsz hW hl
  obtain ⟨hx, hb, hr, hml, hown, hts, hlocks, hname⟩ := hIn
  subst hsz
  have hown : s.vm.findClass RX9 = some m.cls := hown
  have hA : ∀ q : Nat, s.heap.size ≤ q → z_A (shC c, ad, I, JX, PC c ad) s.heap.size q := fun q h => Or.inr h
  generalize hAe : z_A (shC c, ad, I, JX, PC c ad) s.heap.size = A at *
  have hS : va_S A s.heap s.heap [] := va_S.rf
  have hl : lv_has ls 4 [(0, .ref (ad 12)), (1, .int 5)] := hl
  have kT : (I 12 6).toInt ≤ 501 ∧ ((I 12 7).toInt = 401 ∨ (I 12 6).toInt ≤ 500) := hT
  refine lv_aload_n hx hb dX9_product_0 rfl (lv_at hl 0 rfl) ?_
  refine lv_iload_n hx hb dX9_product_1 rfl (lv_at hl 1 rfl) ?_
  refine z_ci hW hS hA (va_runV (As := [.int 5]) (rest := []) ⟨hx, hb, hml, hown, hts⟩ (sx_X9_atom_5 l G ad c I ⟨(by show 0 ≤ (I 12 1).toInt ∧ (I 12 1).toInt ≤ 500; exact hR.1), (by show 0 ≤ (I 12 5).toInt ∧ (I 12 5).toInt ≤ 501; exact hR.2.1), (by show (-1) ≤ (I 12 6).toInt ∧ (I 12 6).toInt ≤ 1000000; exact hR.2.2.1), (by show 0 ≤ (I 12 9).toInt ∧ (I 12 9).toInt ≤ 500; exact hR.2.2.2.1), (by show 0 ≤ (I 12 13).toInt ∧ (I 12 13).toInt ≤ 24; exact hR.2.2.2.2)⟩ (by show (I 12 6).toInt ≤ 501 ∧ ((I 12 7).toInt = 401 ∨ (I 12 6).toInt ≤ 500); first | omega | decide) _) (cwV 1 hts gX9_product_X9_atom rfl rfl rfl hy_X9_atom ⟨Nat.le_of_ble_eq_true rfl, Nat.le_of_ble_eq_true rfl⟩) (z_preV (i := 12) hK hW rfl rfl) rfl rfl hl.1 rfl (lv_room (Nat.le_of_ble_eq_true rfl)) dX9_product_2 ⟨Nat.le_of_ble_eq_true rfl, Nat.le_of_ble_eq_true rfl⟩) (fun r u1 H locs hp hW hS => ?_)
  obtain ⟨I1, e9, hI1R, hI1T, fI1, hp⟩ := hp
  rw [e9] at hW
  have f2 := z_fr_sub (L := L_X9_product_5) z_fr_0 fI1 (by decide)
  have k3 : (I1 12 6).toInt ≤ 501 ∧ ((I1 12 7).toInt = 401 ∨ (I1 12 6).toInt ≤ 500) := hI1T
  rcases hp with rfl | rfl
  · refine lv_if_ne (tgt := 10) hx hb dX9_product_5 (by decide) (fun c4 => ?_) (fun c4 => absurd c4 (by decide))
    refine lv_iconst (v := 0) hx hb dX9_product_10 (by decide) ?_
    refine lv_istore_n (lv' := [(2, .int 0), (0, .ref (ad 12)), (1, .int 5)]) hx hb dX9_product_11 rfl hl (by decide) rfl (fun ls hl => ?_)
    have lp5 : ∀ (f : Nat) (y6 : Int32) (I7 : z_I) (H : Heap) (locs : List Loc) (ls : Array Slot), (2147483647 < y6.toInt + (f : Int)) → (0 ≤ y6.toInt) → (z_iR I7) → (z_iT I7) → (z_fr L_X9_product_5 I7 I) → z_W G A (shC c, ad, I7, JX, PC c ad) H → va_S A s.heap H locs → lv_has ls 4 [(2, .int y6), (0, .ref (ad 12)), (1, .int 5)] → W p l e (headSpec wsX9_product { frames := 16, cells := 0, slots := 0, locals := 347 }).room s m ([.ref (ad 12), .int 5] : List Value).toArray below meth c0 H locs 0 0 (MQ below (va_Qi (fun (r : Int32) (u1 : z_U) => ∃ I1 : z_I, u1 = (shC c, ad, I1, JX, PC c ad) ∧ z_iR I1 ∧ z_iT I1 ∧ z_fr L_X9_product_5 I1 I ∧ (r = 1 ∨ r = 0)) (z_B G A) A) ([.ref (ad 12), .int 5] : List Value).toArray s 0 0 A) (F0 m 12 ls []) := by
      intro f
      induction f with
      | zero => intro y6 I7  H locs ls lp5m lp5l2 lp5R lp5T lp5fr hW hS hl; exact absurd lp5m (by have := Int32.toInt_lt y6; have := Int32.le_toInt y6; omega)
      | succ f lp5ih =>
        intro y6 I7  H locs ls lp5m lp5l2 lp5R lp5T lp5fr hW hS hl
        have k8 : (I7 12 6).toInt ≤ 501 ∧ ((I7 12 7).toInt = 401 ∨ (I7 12 6).toInt ≤ 500) := lp5T
        refine lv_iload_n hx hb dX9_product_12 rfl (lv_at hl 0 rfl) ?_
        refine lv_sipush (v := 500) hx hb dX9_product_13 (by decide) ?_
        refine lv_icmp_ge (tgt := 79) hx hb dX9_product_16 (by decide) (fun c9 => ?_) (fun c9 => ?_)
        · have g10 := z_f_ge rfl z_l500 c9
          have b11 := Int32.toInt_lt y6
          refine lv_iconst (v := 1) hx hb dX9_product_79 (by decide) ?_
          exact z_zret hx hb hr (by decide) hK hS (Nat.le_of_ble_eq_true rfl) (Nat.le_of_ble_eq_true rfl) hlocks dX9_product_80 (shC c, ad, I7, JX, PC c ad) hW ⟨I7, rfl, ⟨(by show 0 ≤ (I7 12 1).toInt ∧ (I7 12 1).toInt ≤ 500; exact lp5R.1), (by show 0 ≤ (I7 12 5).toInt ∧ (I7 12 5).toInt ≤ 501; exact lp5R.2.1), (by show (-1) ≤ (I7 12 6).toInt ∧ (I7 12 6).toInt ≤ 1000000; exact lp5R.2.2.1), (by show 0 ≤ (I7 12 9).toInt ∧ (I7 12 9).toInt ≤ 500; exact lp5R.2.2.2.1), (by show 0 ≤ (I7 12 13).toInt ∧ (I7 12 13).toInt ≤ 24; exact lp5R.2.2.2.2)⟩, (by show (I7 12 6).toInt ≤ 501 ∧ ((I7 12 7).toInt = 401 ∨ (I7 12 6).toInt ≤ 500); first | omega | decide), lp5fr, Or.inl rfl⟩
        · have g12 := z_f_nge rfl z_l500 c9
          have b13 := Int32.toInt_lt y6
          refine lv_aload_n hx hb dX9_product_19 rfl (lv_at hl 1 rfl) ?_
          refine z_get (T := TX9) (N := 14) (ci := 9) (i := 12) (v := .int (I7 12 7)) hx hb hts zj_X9_product_X9 hown hK hW rfl rfl 7 (by decide) (hts (.fieldLink RX9 62 "PetrolBoard$Reader" "token" "I") (me_s (me_l (me_l (List.mem_of_getElem? (i := 0) rfl))))) (fun _ h => h) rfl dX9_product_20 ?_
          refine lv_bipush (v := 42) hx hb dX9_product_23 (by decide) ?_
          refine lv_icmp_eq (tgt := 37) hx hb dX9_product_25 (by decide) (fun c14 => ?_) (fun c14 => ?_)
          · have g15 := z_f_eq rfl z_l42 c14
            have b16 := Int32.toInt_lt (I7 12 7)
            refine lv_aload_n hx hb dX9_product_37 rfl (lv_at hl 1 rfl) ?_
            refine z_get (T := TX9) (N := 14) (ci := 9) (i := 12) (v := .int (I7 12 7)) hx hb hts zj_X9_product_X9 hown hK hW rfl rfl 7 (by decide) (hts (.fieldLink RX9 62 "PetrolBoard$Reader" "token" "I") (me_s (me_l (me_l (List.mem_of_getElem? (i := 0) rfl))))) (fun _ h => h) rfl dX9_product_38 ?_
            refine lv_istore_n (lv' := [(3, .int (I7 12 7)), (2, .int y6), (0, .ref (ad 12)), (1, .int 5)]) hx hb dX9_product_41 rfl hl (by decide) rfl (fun ls hl => ?_)
            refine lv_aload_n hx hb dX9_product_42 rfl (lv_at hl 2 rfl) ?_
            refine z_cv hW hS hA (va_runV (As := []) (rest := []) ⟨hx, hb, hml, hown, hts⟩ (sx_X9_step l G ad c I7 ⟨(by show 0 ≤ (I7 12 1).toInt ∧ (I7 12 1).toInt ≤ 500; exact lp5R.1), (by show 0 ≤ (I7 12 5).toInt ∧ (I7 12 5).toInt ≤ 501; exact lp5R.2.1), (by show (-1) ≤ (I7 12 6).toInt ∧ (I7 12 6).toInt ≤ 1000000; exact lp5R.2.2.1), (by show 0 ≤ (I7 12 9).toInt ∧ (I7 12 9).toInt ≤ 500; exact lp5R.2.2.2.1), (by show 0 ≤ (I7 12 13).toInt ∧ (I7 12 13).toInt ≤ 24; exact lp5R.2.2.2.2)⟩   (by show (I7 12 6).toInt ≤ 500; first | omega | decide) _) (cwV 0 hts gX9_product_X9_step rfl rfl rfl hy_X9_step ⟨Nat.le_of_ble_eq_true rfl, Nat.le_of_ble_eq_true rfl⟩) (z_preV (i := 12) hK hW rfl rfl) rfl rfl hl.1 rfl (lv_room (Nat.le_of_ble_eq_true rfl)) dX9_product_43 ⟨Nat.le_of_ble_eq_true rfl, Nat.le_of_ble_eq_true rfl⟩) (fun u1 H locs hp hW hS => ?_)
            obtain ⟨I17, e9, hI17R, hI17T, fI17⟩ := hp
            rw [e9] at hW
            have f18 := z_fr_sub (L := L_X9_product_5) lp5fr fI17 (by decide)
            have k19 : (I17 12 6).toInt ≤ 501 ∧ ((I17 12 7).toInt = 401 ∨ (I17 12 6).toInt ≤ 500) := hI17T
            refine lv_aload_n hx hb dX9_product_46 rfl (lv_at hl 2 rfl) ?_
            refine lv_iload_n hx hb dX9_product_47 rfl (lv_at hl 3 rfl) ?_
            refine z_ci hW hS hA (va_runV (As := [.int 5]) (rest := []) ⟨hx, hb, hml, hown, hts⟩ (sx_X9_atom_5 l G ad c I17 ⟨(by show 0 ≤ (I17 12 1).toInt ∧ (I17 12 1).toInt ≤ 500; exact hI17R.1), (by show 0 ≤ (I17 12 5).toInt ∧ (I17 12 5).toInt ≤ 501; exact hI17R.2.1), (by show (-1) ≤ (I17 12 6).toInt ∧ (I17 12 6).toInt ≤ 1000000; exact hI17R.2.2.1), (by show 0 ≤ (I17 12 9).toInt ∧ (I17 12 9).toInt ≤ 500; exact hI17R.2.2.2.1), (by show 0 ≤ (I17 12 13).toInt ∧ (I17 12 13).toInt ≤ 24; exact hI17R.2.2.2.2)⟩ (by show (I17 12 6).toInt ≤ 501 ∧ ((I17 12 7).toInt = 401 ∨ (I17 12 6).toInt ≤ 500); first | omega | decide) _) (cwV 1 hts gX9_product_X9_atom rfl rfl rfl hy_X9_atom ⟨Nat.le_of_ble_eq_true rfl, Nat.le_of_ble_eq_true rfl⟩) (z_preV (i := 12) hK hW rfl rfl) rfl rfl hl.1 rfl (lv_room (Nat.le_of_ble_eq_true rfl)) dX9_product_48 ⟨Nat.le_of_ble_eq_true rfl, Nat.le_of_ble_eq_true rfl⟩) (fun r u1 H locs hp hW hS => ?_)
            obtain ⟨I20, e9, hI20R, hI20T, fI20, hp⟩ := hp
            rw [e9] at hW
            have f21 := z_fr_sub (L := L_X9_product_5) f18 fI20 (by decide)
            have k22 : (I20 12 6).toInt ≤ 501 ∧ ((I20 12 7).toInt = 401 ∨ (I20 12 6).toInt ≤ 500) := hI20T
            rcases hp with rfl | rfl
            · refine lv_if_ne (tgt := 56) hx hb dX9_product_51 (by decide) (fun c23 => ?_) (fun c23 => absurd c23 (by decide))
              refine lv_aload_n hx hb dX9_product_56 rfl (lv_at hl 2 rfl) ?_
              refine lv_iload_n hx hb dX9_product_57 rfl (lv_at hl 0 rfl) ?_
              refine lv_bipush (v := 42) hx hb dX9_product_58 (by decide) ?_
              refine lv_icmp_ne (tgt := 68) hx hb dX9_product_60 (by decide) (fun c24 => (by have g := z_f_ne rfl z_l42 c24; omega)) (fun c24 => ?_)
              have g25 := z_f_eq rfl z_l42 c24
              refine lv_bipush (v := (-3)) hx hb dX9_product_63 (by decide) ?_
              refine lv_goto (tgt := 70) hx hb dX9_product_65 (by decide) ?_
              refine z_cv hW hS hA (va_runV (As := [.int (-3)]) (rest := []) ⟨hx, hb, hml, hown, hts⟩ (sx_X9_emit l G ad c I20 ⟨(by show 0 ≤ (I20 12 1).toInt ∧ (I20 12 1).toInt ≤ 500; exact hI20R.1), (by show 0 ≤ (I20 12 5).toInt ∧ (I20 12 5).toInt ≤ 501; exact hI20R.2.1), (by show (-1) ≤ (I20 12 6).toInt ∧ (I20 12 6).toInt ≤ 1000000; exact hI20R.2.2.1), (by show 0 ≤ (I20 12 9).toInt ∧ (I20 12 9).toInt ≤ 500; exact hI20R.2.2.2.1), (by show 0 ≤ (I20 12 13).toInt ∧ (I20 12 13).toInt ≤ 24; exact hI20R.2.2.2.2)⟩ (-3) _) (cwV 1 hts gX9_product_X9_emit rfl rfl rfl hy_X9_emit ⟨Nat.le_of_ble_eq_true rfl, Nat.le_of_ble_eq_true rfl⟩) (z_preV (i := 12) hK hW rfl rfl) rfl rfl hl.1 rfl (lv_room (Nat.le_of_ble_eq_true rfl)) dX9_product_70 ⟨Nat.le_of_ble_eq_true rfl, Nat.le_of_ble_eq_true rfl⟩) (fun u1 H locs hp hW hS => ?_)
              obtain ⟨I26, e9, hI26R, fI26⟩ := hp
              rw [e9] at hW
              have f27 := z_fr_sub (L := L_X9_product_5) f21 fI26 (by decide)
              have k28 : (I26 12 6).toInt ≤ 501 ∧ ((I26 12 7).toInt = 401 ∨ (I26 12 6).toInt ≤ 500) := (by have q0 : (I26 12 6) = (I20 12 6) := (by rw [fI26 12 6 (by decide)]); have q1 : (I26 12 7) = (I20 12 7) := (by rw [fI26 12 7 (by decide)]); show (I26 12 6).toInt ≤ 501 ∧ ((I26 12 7).toInt = 401 ∨ (I26 12 6).toInt ≤ 500); rw [q0, q1]; first | omega | decide)
              have k29 : (I26 12 6).toInt = (I20 12 6).toInt := by rw [fI26 12 6 (by decide)]
              have k30 : (I26 12 7).toInt = (I20 12 7).toInt := by rw [fI26 12 7 (by decide)]
              obtain ⟨x31, ex31⟩ : ∃ y : Int32, y = y6 + 1 := ⟨_, rfl⟩
              have tx31 : x31.toInt = y6.toInt + 1 := z_tadd ex31 rfl z_l1 (by omega) (by omega)
              refine lv_iinc (v := x31) (lv' := [(2, .int x31), (3, .int (I7 12 7)), (0, .ref (ad 12)), (1, .int 5)]) hx hb dX9_product_73 hl (k := 1) rfl (by rw [ex31]; rfl) (by decide) rfl (fun ls hl => ?_)
              refine lv_goto (tgt := 12) hx hb dX9_product_76 (by decide) ?_
              exact lp5ih x31 I26  _ _ _ (by omega) (by omega) ⟨(by show 0 ≤ (I26 12 1).toInt ∧ (I26 12 1).toInt ≤ 500; exact hI26R.1), (by show 0 ≤ (I26 12 5).toInt ∧ (I26 12 5).toInt ≤ 501; exact hI26R.2.1), (by show (-1) ≤ (I26 12 6).toInt ∧ (I26 12 6).toInt ≤ 1000000; exact hI26R.2.2.1), (by show 0 ≤ (I26 12 9).toInt ∧ (I26 12 9).toInt ≤ 500; exact hI26R.2.2.2.1), (by show 0 ≤ (I26 12 13).toInt ∧ (I26 12 13).toInt ≤ 24; exact hI26R.2.2.2.2)⟩ (by show (I26 12 6).toInt ≤ 501 ∧ ((I26 12 7).toInt = 401 ∨ (I26 12 6).toInt ≤ 500); first | omega | decide) f27 hW hS (lv_sub hl [0, 2, 3] rfl)
            · refine lv_if_ne (tgt := 56) hx hb dX9_product_51 (by decide) (fun c32 => absurd (by decide) c32) (fun c32 => ?_)
              refine lv_iconst (v := 0) hx hb dX9_product_54 (by decide) ?_
              exact z_zret hx hb hr (by decide) hK hS (Nat.le_of_ble_eq_true rfl) (Nat.le_of_ble_eq_true rfl) hlocks dX9_product_55 (shC c, ad, I20, JX, PC c ad) hW ⟨I20, rfl, ⟨(by show 0 ≤ (I20 12 1).toInt ∧ (I20 12 1).toInt ≤ 500; exact hI20R.1), (by show 0 ≤ (I20 12 5).toInt ∧ (I20 12 5).toInt ≤ 501; exact hI20R.2.1), (by show (-1) ≤ (I20 12 6).toInt ∧ (I20 12 6).toInt ≤ 1000000; exact hI20R.2.2.1), (by show 0 ≤ (I20 12 9).toInt ∧ (I20 12 9).toInt ≤ 500; exact hI20R.2.2.2.1), (by show 0 ≤ (I20 12 13).toInt ∧ (I20 12 13).toInt ≤ 24; exact hI20R.2.2.2.2)⟩, (by show (I20 12 6).toInt ≤ 501 ∧ ((I20 12 7).toInt = 401 ∨ (I20 12 6).toInt ≤ 500); first | omega | decide), f21, Or.inr rfl⟩
          · have g33 := z_f_ne rfl z_l42 c14
            have b34 := Int32.toInt_lt (I7 12 7)
            refine lv_aload_n hx hb dX9_product_28 rfl (lv_at hl 1 rfl) ?_
            refine z_get (T := TX9) (N := 14) (ci := 9) (i := 12) (v := .int (I7 12 7)) hx hb hts zj_X9_product_X9 hown hK hW rfl rfl 7 (by decide) (hts (.fieldLink RX9 62 "PetrolBoard$Reader" "token" "I") (me_s (me_l (me_l (List.mem_of_getElem? (i := 0) rfl))))) (fun _ h => h) rfl dX9_product_29 ?_
            refine lv_bipush (v := 47) hx hb dX9_product_32 (by decide) ?_
            refine lv_icmp_ne (tgt := 79) hx hb dX9_product_34 (by decide) (fun c35 => ?_) (fun c35 => ?_)
            · have g36 := z_f_ne rfl z_l47 c35
              refine lv_iconst (v := 1) hx hb dX9_product_79 (by decide) ?_
              exact z_zret hx hb hr (by decide) hK hS (Nat.le_of_ble_eq_true rfl) (Nat.le_of_ble_eq_true rfl) hlocks dX9_product_80 (shC c, ad, I7, JX, PC c ad) hW ⟨I7, rfl, ⟨(by show 0 ≤ (I7 12 1).toInt ∧ (I7 12 1).toInt ≤ 500; exact lp5R.1), (by show 0 ≤ (I7 12 5).toInt ∧ (I7 12 5).toInt ≤ 501; exact lp5R.2.1), (by show (-1) ≤ (I7 12 6).toInt ∧ (I7 12 6).toInt ≤ 1000000; exact lp5R.2.2.1), (by show 0 ≤ (I7 12 9).toInt ∧ (I7 12 9).toInt ≤ 500; exact lp5R.2.2.2.1), (by show 0 ≤ (I7 12 13).toInt ∧ (I7 12 13).toInt ≤ 24; exact lp5R.2.2.2.2)⟩, (by show (I7 12 6).toInt ≤ 501 ∧ ((I7 12 7).toInt = 401 ∨ (I7 12 6).toInt ≤ 500); first | omega | decide), lp5fr, Or.inl rfl⟩
            · have g37 := z_f_eq rfl z_l47 c35
              refine lv_aload_n hx hb dX9_product_37 rfl (lv_at hl 1 rfl) ?_
              refine z_get (T := TX9) (N := 14) (ci := 9) (i := 12) (v := .int (I7 12 7)) hx hb hts zj_X9_product_X9 hown hK hW rfl rfl 7 (by decide) (hts (.fieldLink RX9 62 "PetrolBoard$Reader" "token" "I") (me_s (me_l (me_l (List.mem_of_getElem? (i := 0) rfl))))) (fun _ h => h) rfl dX9_product_38 ?_
              refine lv_istore_n (lv' := [(3, .int (I7 12 7)), (2, .int y6), (0, .ref (ad 12)), (1, .int 5)]) hx hb dX9_product_41 rfl hl (by decide) rfl (fun ls hl => ?_)
              refine lv_aload_n hx hb dX9_product_42 rfl (lv_at hl 2 rfl) ?_
              refine z_cv hW hS hA (va_runV (As := []) (rest := []) ⟨hx, hb, hml, hown, hts⟩ (sx_X9_step l G ad c I7 ⟨(by show 0 ≤ (I7 12 1).toInt ∧ (I7 12 1).toInt ≤ 500; exact lp5R.1), (by show 0 ≤ (I7 12 5).toInt ∧ (I7 12 5).toInt ≤ 501; exact lp5R.2.1), (by show (-1) ≤ (I7 12 6).toInt ∧ (I7 12 6).toInt ≤ 1000000; exact lp5R.2.2.1), (by show 0 ≤ (I7 12 9).toInt ∧ (I7 12 9).toInt ≤ 500; exact lp5R.2.2.2.1), (by show 0 ≤ (I7 12 13).toInt ∧ (I7 12 13).toInt ≤ 24; exact lp5R.2.2.2.2)⟩   (by show (I7 12 6).toInt ≤ 500; first | omega | decide) _) (cwV 0 hts gX9_product_X9_step rfl rfl rfl hy_X9_step ⟨Nat.le_of_ble_eq_true rfl, Nat.le_of_ble_eq_true rfl⟩) (z_preV (i := 12) hK hW rfl rfl) rfl rfl hl.1 rfl (lv_room (Nat.le_of_ble_eq_true rfl)) dX9_product_43 ⟨Nat.le_of_ble_eq_true rfl, Nat.le_of_ble_eq_true rfl⟩) (fun u1 H locs hp hW hS => ?_)
              obtain ⟨I38, e9, hI38R, hI38T, fI38⟩ := hp
              rw [e9] at hW
              have f39 := z_fr_sub (L := L_X9_product_5) lp5fr fI38 (by decide)
              have k40 : (I38 12 6).toInt ≤ 501 ∧ ((I38 12 7).toInt = 401 ∨ (I38 12 6).toInt ≤ 500) := hI38T
              refine lv_aload_n hx hb dX9_product_46 rfl (lv_at hl 2 rfl) ?_
              refine lv_iload_n hx hb dX9_product_47 rfl (lv_at hl 3 rfl) ?_
              refine z_ci hW hS hA (va_runV (As := [.int 5]) (rest := []) ⟨hx, hb, hml, hown, hts⟩ (sx_X9_atom_5 l G ad c I38 ⟨(by show 0 ≤ (I38 12 1).toInt ∧ (I38 12 1).toInt ≤ 500; exact hI38R.1), (by show 0 ≤ (I38 12 5).toInt ∧ (I38 12 5).toInt ≤ 501; exact hI38R.2.1), (by show (-1) ≤ (I38 12 6).toInt ∧ (I38 12 6).toInt ≤ 1000000; exact hI38R.2.2.1), (by show 0 ≤ (I38 12 9).toInt ∧ (I38 12 9).toInt ≤ 500; exact hI38R.2.2.2.1), (by show 0 ≤ (I38 12 13).toInt ∧ (I38 12 13).toInt ≤ 24; exact hI38R.2.2.2.2)⟩ (by show (I38 12 6).toInt ≤ 501 ∧ ((I38 12 7).toInt = 401 ∨ (I38 12 6).toInt ≤ 500); first | omega | decide) _) (cwV 1 hts gX9_product_X9_atom rfl rfl rfl hy_X9_atom ⟨Nat.le_of_ble_eq_true rfl, Nat.le_of_ble_eq_true rfl⟩) (z_preV (i := 12) hK hW rfl rfl) rfl rfl hl.1 rfl (lv_room (Nat.le_of_ble_eq_true rfl)) dX9_product_48 ⟨Nat.le_of_ble_eq_true rfl, Nat.le_of_ble_eq_true rfl⟩) (fun r u1 H locs hp hW hS => ?_)
              obtain ⟨I41, e9, hI41R, hI41T, fI41, hp⟩ := hp
              rw [e9] at hW
              have f42 := z_fr_sub (L := L_X9_product_5) f39 fI41 (by decide)
              have k43 : (I41 12 6).toInt ≤ 501 ∧ ((I41 12 7).toInt = 401 ∨ (I41 12 6).toInt ≤ 500) := hI41T
              rcases hp with rfl | rfl
              · refine lv_if_ne (tgt := 56) hx hb dX9_product_51 (by decide) (fun c44 => ?_) (fun c44 => absurd c44 (by decide))
                refine lv_aload_n hx hb dX9_product_56 rfl (lv_at hl 2 rfl) ?_
                refine lv_iload_n hx hb dX9_product_57 rfl (lv_at hl 0 rfl) ?_
                refine lv_bipush (v := 42) hx hb dX9_product_58 (by decide) ?_
                refine lv_icmp_ne (tgt := 68) hx hb dX9_product_60 (by decide) (fun c45 => ?_) (fun c45 => (by have g := z_f_eq rfl z_l42 c45; omega))
                have g46 := z_f_ne rfl z_l42 c45
                refine lv_bipush (v := (-4)) hx hb dX9_product_68 (by decide) ?_
                refine z_cv hW hS hA (va_runV (As := [.int (-4)]) (rest := []) ⟨hx, hb, hml, hown, hts⟩ (sx_X9_emit l G ad c I41 ⟨(by show 0 ≤ (I41 12 1).toInt ∧ (I41 12 1).toInt ≤ 500; exact hI41R.1), (by show 0 ≤ (I41 12 5).toInt ∧ (I41 12 5).toInt ≤ 501; exact hI41R.2.1), (by show (-1) ≤ (I41 12 6).toInt ∧ (I41 12 6).toInt ≤ 1000000; exact hI41R.2.2.1), (by show 0 ≤ (I41 12 9).toInt ∧ (I41 12 9).toInt ≤ 500; exact hI41R.2.2.2.1), (by show 0 ≤ (I41 12 13).toInt ∧ (I41 12 13).toInt ≤ 24; exact hI41R.2.2.2.2)⟩ (-4) _) (cwV 1 hts gX9_product_X9_emit rfl rfl rfl hy_X9_emit ⟨Nat.le_of_ble_eq_true rfl, Nat.le_of_ble_eq_true rfl⟩) (z_preV (i := 12) hK hW rfl rfl) rfl rfl hl.1 rfl (lv_room (Nat.le_of_ble_eq_true rfl)) dX9_product_70 ⟨Nat.le_of_ble_eq_true rfl, Nat.le_of_ble_eq_true rfl⟩) (fun u1 H locs hp hW hS => ?_)
                obtain ⟨I47, e9, hI47R, fI47⟩ := hp
                rw [e9] at hW
                have f48 := z_fr_sub (L := L_X9_product_5) f42 fI47 (by decide)
                have k49 : (I47 12 6).toInt ≤ 501 ∧ ((I47 12 7).toInt = 401 ∨ (I47 12 6).toInt ≤ 500) := (by have q0 : (I47 12 6) = (I41 12 6) := (by rw [fI47 12 6 (by decide)]); have q1 : (I47 12 7) = (I41 12 7) := (by rw [fI47 12 7 (by decide)]); show (I47 12 6).toInt ≤ 501 ∧ ((I47 12 7).toInt = 401 ∨ (I47 12 6).toInt ≤ 500); rw [q0, q1]; first | omega | decide)
                have k50 : (I47 12 6).toInt = (I41 12 6).toInt := by rw [fI47 12 6 (by decide)]
                have k51 : (I47 12 7).toInt = (I41 12 7).toInt := by rw [fI47 12 7 (by decide)]
                obtain ⟨x52, ex52⟩ : ∃ y : Int32, y = y6 + 1 := ⟨_, rfl⟩
                have tx52 : x52.toInt = y6.toInt + 1 := z_tadd ex52 rfl z_l1 (by omega) (by omega)
                refine lv_iinc (v := x52) (lv' := [(2, .int x52), (3, .int (I7 12 7)), (0, .ref (ad 12)), (1, .int 5)]) hx hb dX9_product_73 hl (k := 1) rfl (by rw [ex52]; rfl) (by decide) rfl (fun ls hl => ?_)
                refine lv_goto (tgt := 12) hx hb dX9_product_76 (by decide) ?_
                exact lp5ih x52 I47  _ _ _ (by omega) (by omega) ⟨(by show 0 ≤ (I47 12 1).toInt ∧ (I47 12 1).toInt ≤ 500; exact hI47R.1), (by show 0 ≤ (I47 12 5).toInt ∧ (I47 12 5).toInt ≤ 501; exact hI47R.2.1), (by show (-1) ≤ (I47 12 6).toInt ∧ (I47 12 6).toInt ≤ 1000000; exact hI47R.2.2.1), (by show 0 ≤ (I47 12 9).toInt ∧ (I47 12 9).toInt ≤ 500; exact hI47R.2.2.2.1), (by show 0 ≤ (I47 12 13).toInt ∧ (I47 12 13).toInt ≤ 24; exact hI47R.2.2.2.2)⟩ (by show (I47 12 6).toInt ≤ 501 ∧ ((I47 12 7).toInt = 401 ∨ (I47 12 6).toInt ≤ 500); first | omega | decide) f48 hW hS (lv_sub hl [0, 2, 3] rfl)
              · refine lv_if_ne (tgt := 56) hx hb dX9_product_51 (by decide) (fun c53 => absurd (by decide) c53) (fun c53 => ?_)
                refine lv_iconst (v := 0) hx hb dX9_product_54 (by decide) ?_
                exact z_zret hx hb hr (by decide) hK hS (Nat.le_of_ble_eq_true rfl) (Nat.le_of_ble_eq_true rfl) hlocks dX9_product_55 (shC c, ad, I41, JX, PC c ad) hW ⟨I41, rfl, ⟨(by show 0 ≤ (I41 12 1).toInt ∧ (I41 12 1).toInt ≤ 500; exact hI41R.1), (by show 0 ≤ (I41 12 5).toInt ∧ (I41 12 5).toInt ≤ 501; exact hI41R.2.1), (by show (-1) ≤ (I41 12 6).toInt ∧ (I41 12 6).toInt ≤ 1000000; exact hI41R.2.2.1), (by show 0 ≤ (I41 12 9).toInt ∧ (I41 12 9).toInt ≤ 500; exact hI41R.2.2.2.1), (by show 0 ≤ (I41 12 13).toInt ∧ (I41 12 13).toInt ≤ 24; exact hI41R.2.2.2.2)⟩, (by show (I41 12 6).toInt ≤ 501 ∧ ((I41 12 7).toInt = 401 ∨ (I41 12 6).toInt ≤ 500); first | omega | decide), f42, Or.inr rfl⟩
    exact lp5 4294967296 (0) I1  _ _ _ (z_m0u _) (by rw [z_l0]; omega) ⟨(by show 0 ≤ (I1 12 1).toInt ∧ (I1 12 1).toInt ≤ 500; exact hI1R.1), (by show 0 ≤ (I1 12 5).toInt ∧ (I1 12 5).toInt ≤ 501; exact hI1R.2.1), (by show (-1) ≤ (I1 12 6).toInt ∧ (I1 12 6).toInt ≤ 1000000; exact hI1R.2.2.1), (by show 0 ≤ (I1 12 9).toInt ∧ (I1 12 9).toInt ≤ 500; exact hI1R.2.2.2.1), (by show 0 ≤ (I1 12 13).toInt ∧ (I1 12 13).toInt ≤ 24; exact hI1R.2.2.2.2)⟩ (by show (I1 12 6).toInt ≤ 501 ∧ ((I1 12 7).toInt = 401 ∨ (I1 12 6).toInt ≤ 500); first | omega | decide) f2 hW hS (lv_sub hl [0, 1, 2] rfl)
  · refine lv_if_ne (tgt := 10) hx hb dX9_product_5 (by decide) (fun c54 => absurd (by decide) c54) (fun c54 => ?_)
    refine lv_iconst (v := 0) hx hb dX9_product_8 (by decide) ?_
    exact z_zret hx hb hr (by decide) hK hS (Nat.le_of_ble_eq_true rfl) (Nat.le_of_ble_eq_true rfl) hlocks dX9_product_9 (shC c, ad, I1, JX, PC c ad) hW ⟨I1, rfl, ⟨(by show 0 ≤ (I1 12 1).toInt ∧ (I1 12 1).toInt ≤ 500; exact hI1R.1), (by show 0 ≤ (I1 12 5).toInt ∧ (I1 12 5).toInt ≤ 501; exact hI1R.2.1), (by show (-1) ≤ (I1 12 6).toInt ∧ (I1 12 6).toInt ≤ 1000000; exact hI1R.2.2.1), (by show 0 ≤ (I1 12 9).toInt ∧ (I1 12 9).toInt ≤ 500; exact hI1R.2.2.2.1), (by show 0 ≤ (I1 12 13).toInt ∧ (I1 12 13).toInt ≤ 24; exact hI1R.2.2.2.2)⟩, (by show (I1 12 6).toInt ≤ 501 ∧ ((I1 12 7).toInt = 401 ∨ (I1 12 6).toInt ≤ 500); first | omega | decide), f2, Or.inr rfl⟩
noncomputable def L_X9_sum_5 : z_L := [(12, 6), (12, 7), (17, 999), (12, 9)]
set_option maxHeartbeats 8000000 in
set_option maxRecDepth 100000 in
theorem sx_X9_sum_5 (l : Launch) (G : z_G) (ad : Nat → Nat) (c : z_C) (I : z_I) (hR : z_iR I) (hT : z_iT I) : z_M l yX9_sum wsX9_sum { frames := 17, cells := 0, slots := 0, locals := 370 } [.ref (ad 12), .int 5] G (shC c, ad, I, JX, PC c ad) (fun r u1 => ∃ I1 : z_I, u1 = (shC c, ad, I1, JX, PC c ad) ∧ z_iR I1 ∧ z_iT I1 ∧ z_fr L_X9_sum_5 I1 I ∧ (r = 1 ∨ r = 0)) 0 0 := by
  intro sz
  refine z_headQ (cc := cX9_sum) (maxL := 4) (ret := (some .boolean)) (by decide) rfl (Nat.le_of_ble_eq_true rfl) ?_
  intro p e s m below meth c0 ls hIn hK hsz hW hl
  obtain ⟨hx, hb, hr, hml, hown, hts, hlocks, hname⟩ := hIn
  subst hsz
  have hown : s.vm.findClass RX9 = some m.cls := hown
  have hA : ∀ q : Nat, s.heap.size ≤ q → z_A (shC c, ad, I, JX, PC c ad) s.heap.size q := fun q h => Or.inr h
  generalize hAe : z_A (shC c, ad, I, JX, PC c ad) s.heap.size = A at *
  have hS : va_S A s.heap s.heap [] := va_S.rf
  have hl : lv_has ls 4 [(0, .ref (ad 12)), (1, .int 5)] := hl
  have kT : (I 12 6).toInt ≤ 501 ∧ ((I 12 7).toInt = 401 ∨ (I 12 6).toInt ≤ 500) := hT
  refine lv_aload_n hx hb dX9_sum_0 rfl (lv_at hl 0 rfl) ?_
  refine lv_iload_n hx hb dX9_sum_1 rfl (lv_at hl 1 rfl) ?_
  refine z_ci hW hS hA (va_runV (As := [.int 5]) (rest := []) ⟨hx, hb, hml, hown, hts⟩ (sx_X9_product_5 l G ad c I ⟨(by show 0 ≤ (I 12 1).toInt ∧ (I 12 1).toInt ≤ 500; exact hR.1), (by show 0 ≤ (I 12 5).toInt ∧ (I 12 5).toInt ≤ 501; exact hR.2.1), (by show (-1) ≤ (I 12 6).toInt ∧ (I 12 6).toInt ≤ 1000000; exact hR.2.2.1), (by show 0 ≤ (I 12 9).toInt ∧ (I 12 9).toInt ≤ 500; exact hR.2.2.2.1), (by show 0 ≤ (I 12 13).toInt ∧ (I 12 13).toInt ≤ 24; exact hR.2.2.2.2)⟩ (by show (I 12 6).toInt ≤ 501 ∧ ((I 12 7).toInt = 401 ∨ (I 12 6).toInt ≤ 500); first | omega | decide) _) (cwV 1 hts gX9_sum_X9_product rfl rfl rfl hy_X9_product ⟨Nat.le_of_ble_eq_true rfl, Nat.le_of_ble_eq_true rfl⟩) (z_preV (i := 12) hK hW rfl rfl) rfl rfl hl.1 rfl (lv_room (Nat.le_of_ble_eq_true rfl)) dX9_sum_2 ⟨Nat.le_of_ble_eq_true rfl, Nat.le_of_ble_eq_true rfl⟩) (fun r u1 H locs hp hW hS => ?_)
  obtain ⟨I1, e9, hI1R, hI1T, fI1, hp⟩ := hp
  rw [e9] at hW
  have f2 := z_fr_sub (L := L_X9_sum_5) z_fr_0 fI1 (by decide)
  have k3 : (I1 12 6).toInt ≤ 501 ∧ ((I1 12 7).toInt = 401 ∨ (I1 12 6).toInt ≤ 500) := hI1T
  rcases hp with rfl | rfl
  · refine lv_if_ne (tgt := 10) hx hb dX9_sum_5 (by decide) (fun c4 => ?_) (fun c4 => absurd c4 (by decide))
    refine lv_iconst (v := 0) hx hb dX9_sum_10 (by decide) ?_
    refine lv_istore_n (lv' := [(2, .int 0), (0, .ref (ad 12)), (1, .int 5)]) hx hb dX9_sum_11 rfl hl (by decide) rfl (fun ls hl => ?_)
    have lp5 : ∀ (f : Nat) (y6 : Int32) (I7 : z_I) (H : Heap) (locs : List Loc) (ls : Array Slot), (2147483647 < y6.toInt + (f : Int)) → (0 ≤ y6.toInt) → (z_iR I7) → (z_iT I7) → (z_fr L_X9_sum_5 I7 I) → z_W G A (shC c, ad, I7, JX, PC c ad) H → va_S A s.heap H locs → lv_has ls 4 [(2, .int y6), (0, .ref (ad 12)), (1, .int 5)] → W p l e (headSpec wsX9_sum { frames := 17, cells := 0, slots := 0, locals := 370 }).room s m ([.ref (ad 12), .int 5] : List Value).toArray below meth c0 H locs 0 0 (MQ below (va_Qi (fun (r : Int32) (u1 : z_U) => ∃ I1 : z_I, u1 = (shC c, ad, I1, JX, PC c ad) ∧ z_iR I1 ∧ z_iT I1 ∧ z_fr L_X9_sum_5 I1 I ∧ (r = 1 ∨ r = 0)) (z_B G A) A) ([.ref (ad 12), .int 5] : List Value).toArray s 0 0 A) (F0 m 12 ls []) := by
      intro f
      induction f with
      | zero => intro y6 I7  H locs ls lp5m lp5l2 lp5R lp5T lp5fr hW hS hl; exact absurd lp5m (by have := Int32.toInt_lt y6; have := Int32.le_toInt y6; omega)
      | succ f lp5ih =>
        intro y6 I7  H locs ls lp5m lp5l2 lp5R lp5T lp5fr hW hS hl
        have k8 : (I7 12 6).toInt ≤ 501 ∧ ((I7 12 7).toInt = 401 ∨ (I7 12 6).toInt ≤ 500) := lp5T
        refine lv_iload_n hx hb dX9_sum_12 rfl (lv_at hl 0 rfl) ?_
        refine lv_sipush (v := 500) hx hb dX9_sum_13 (by decide) ?_
        refine lv_icmp_ge (tgt := 78) hx hb dX9_sum_16 (by decide) (fun c9 => ?_) (fun c9 => ?_)
        · have g10 := z_f_ge rfl z_l500 c9
          have b11 := Int32.toInt_lt y6
          refine lv_iconst (v := 1) hx hb dX9_sum_78 (by decide) ?_
          exact z_zret hx hb hr (by decide) hK hS (Nat.le_of_ble_eq_true rfl) (Nat.le_of_ble_eq_true rfl) hlocks dX9_sum_79 (shC c, ad, I7, JX, PC c ad) hW ⟨I7, rfl, ⟨(by show 0 ≤ (I7 12 1).toInt ∧ (I7 12 1).toInt ≤ 500; exact lp5R.1), (by show 0 ≤ (I7 12 5).toInt ∧ (I7 12 5).toInt ≤ 501; exact lp5R.2.1), (by show (-1) ≤ (I7 12 6).toInt ∧ (I7 12 6).toInt ≤ 1000000; exact lp5R.2.2.1), (by show 0 ≤ (I7 12 9).toInt ∧ (I7 12 9).toInt ≤ 500; exact lp5R.2.2.2.1), (by show 0 ≤ (I7 12 13).toInt ∧ (I7 12 13).toInt ≤ 24; exact lp5R.2.2.2.2)⟩, (by show (I7 12 6).toInt ≤ 501 ∧ ((I7 12 7).toInt = 401 ∨ (I7 12 6).toInt ≤ 500); first | omega | decide), lp5fr, Or.inl rfl⟩
        · have g12 := z_f_nge rfl z_l500 c9
          have b13 := Int32.toInt_lt y6
          refine lv_aload_n hx hb dX9_sum_19 rfl (lv_at hl 1 rfl) ?_
          refine z_get (T := TX9) (N := 14) (ci := 9) (i := 12) (v := .int (I7 12 7)) hx hb hts zj_X9_sum_X9 hown hK hW rfl rfl 7 (by decide) (hts (.fieldLink RX9 62 "PetrolBoard$Reader" "token" "I") (me_s (me_l (me_l (List.mem_of_getElem? (i := 0) rfl))))) (fun _ h => h) rfl dX9_sum_20 ?_
          refine lv_bipush (v := 43) hx hb dX9_sum_23 (by decide) ?_
          refine lv_icmp_eq (tgt := 37) hx hb dX9_sum_25 (by decide) (fun c14 => ?_) (fun c14 => ?_)
          · have g15 := z_f_eq rfl z_l43 c14
            have b16 := Int32.toInt_lt (I7 12 7)
            refine lv_aload_n hx hb dX9_sum_37 rfl (lv_at hl 1 rfl) ?_
            refine z_get (T := TX9) (N := 14) (ci := 9) (i := 12) (v := .int (I7 12 7)) hx hb hts zj_X9_sum_X9 hown hK hW rfl rfl 7 (by decide) (hts (.fieldLink RX9 62 "PetrolBoard$Reader" "token" "I") (me_s (me_l (me_l (List.mem_of_getElem? (i := 0) rfl))))) (fun _ h => h) rfl dX9_sum_38 ?_
            refine lv_istore_n (lv' := [(3, .int (I7 12 7)), (2, .int y6), (0, .ref (ad 12)), (1, .int 5)]) hx hb dX9_sum_41 rfl hl (by decide) rfl (fun ls hl => ?_)
            refine lv_aload_n hx hb dX9_sum_42 rfl (lv_at hl 2 rfl) ?_
            refine z_cv hW hS hA (va_runV (As := []) (rest := []) ⟨hx, hb, hml, hown, hts⟩ (sx_X9_step l G ad c I7 ⟨(by show 0 ≤ (I7 12 1).toInt ∧ (I7 12 1).toInt ≤ 500; exact lp5R.1), (by show 0 ≤ (I7 12 5).toInt ∧ (I7 12 5).toInt ≤ 501; exact lp5R.2.1), (by show (-1) ≤ (I7 12 6).toInt ∧ (I7 12 6).toInt ≤ 1000000; exact lp5R.2.2.1), (by show 0 ≤ (I7 12 9).toInt ∧ (I7 12 9).toInt ≤ 500; exact lp5R.2.2.2.1), (by show 0 ≤ (I7 12 13).toInt ∧ (I7 12 13).toInt ≤ 24; exact lp5R.2.2.2.2)⟩   (by show (I7 12 6).toInt ≤ 500; first | omega | decide) _) (cwV 0 hts gX9_sum_X9_step rfl rfl rfl hy_X9_step ⟨Nat.le_of_ble_eq_true rfl, Nat.le_of_ble_eq_true rfl⟩) (z_preV (i := 12) hK hW rfl rfl) rfl rfl hl.1 rfl (lv_room (Nat.le_of_ble_eq_true rfl)) dX9_sum_43 ⟨Nat.le_of_ble_eq_true rfl, Nat.le_of_ble_eq_true rfl⟩) (fun u1 H locs hp hW hS => ?_)
            obtain ⟨I17, e9, hI17R, hI17T, fI17⟩ := hp
            rw [e9] at hW
            have f18 := z_fr_sub (L := L_X9_sum_5) lp5fr fI17 (by decide)
            have k19 : (I17 12 6).toInt ≤ 501 ∧ ((I17 12 7).toInt = 401 ∨ (I17 12 6).toInt ≤ 500) := hI17T
            refine lv_aload_n hx hb dX9_sum_46 rfl (lv_at hl 2 rfl) ?_
            refine lv_iload_n hx hb dX9_sum_47 rfl (lv_at hl 3 rfl) ?_
            refine z_ci hW hS hA (va_runV (As := [.int 5]) (rest := []) ⟨hx, hb, hml, hown, hts⟩ (sx_X9_product_5 l G ad c I17 ⟨(by show 0 ≤ (I17 12 1).toInt ∧ (I17 12 1).toInt ≤ 500; exact hI17R.1), (by show 0 ≤ (I17 12 5).toInt ∧ (I17 12 5).toInt ≤ 501; exact hI17R.2.1), (by show (-1) ≤ (I17 12 6).toInt ∧ (I17 12 6).toInt ≤ 1000000; exact hI17R.2.2.1), (by show 0 ≤ (I17 12 9).toInt ∧ (I17 12 9).toInt ≤ 500; exact hI17R.2.2.2.1), (by show 0 ≤ (I17 12 13).toInt ∧ (I17 12 13).toInt ≤ 24; exact hI17R.2.2.2.2)⟩ (by show (I17 12 6).toInt ≤ 501 ∧ ((I17 12 7).toInt = 401 ∨ (I17 12 6).toInt ≤ 500); first | omega | decide) _) (cwV 1 hts gX9_sum_X9_product rfl rfl rfl hy_X9_product ⟨Nat.le_of_ble_eq_true rfl, Nat.le_of_ble_eq_true rfl⟩) (z_preV (i := 12) hK hW rfl rfl) rfl rfl hl.1 rfl (lv_room (Nat.le_of_ble_eq_true rfl)) dX9_sum_48 ⟨Nat.le_of_ble_eq_true rfl, Nat.le_of_ble_eq_true rfl⟩) (fun r u1 H locs hp hW hS => ?_)
            obtain ⟨I20, e9, hI20R, hI20T, fI20, hp⟩ := hp
            rw [e9] at hW
            have f21 := z_fr_sub (L := L_X9_sum_5) f18 fI20 (by decide)
            have k22 : (I20 12 6).toInt ≤ 501 ∧ ((I20 12 7).toInt = 401 ∨ (I20 12 6).toInt ≤ 500) := hI20T
            rcases hp with rfl | rfl
            · refine lv_if_ne (tgt := 56) hx hb dX9_sum_51 (by decide) (fun c23 => ?_) (fun c23 => absurd c23 (by decide))
              refine lv_aload_n hx hb dX9_sum_56 rfl (lv_at hl 2 rfl) ?_
              refine lv_iload_n hx hb dX9_sum_57 rfl (lv_at hl 0 rfl) ?_
              refine lv_bipush (v := 43) hx hb dX9_sum_58 (by decide) ?_
              refine lv_icmp_ne (tgt := 67) hx hb dX9_sum_60 (by decide) (fun c24 => (by have g := z_f_ne rfl z_l43 c24; omega)) (fun c24 => ?_)
              have g25 := z_f_eq rfl z_l43 c24
              refine lv_iconst (v := (-1)) hx hb dX9_sum_63 (by decide) ?_
              refine lv_goto (tgt := 69) hx hb dX9_sum_64 (by decide) ?_
              refine z_cv hW hS hA (va_runV (As := [.int (-1)]) (rest := []) ⟨hx, hb, hml, hown, hts⟩ (sx_X9_emit l G ad c I20 ⟨(by show 0 ≤ (I20 12 1).toInt ∧ (I20 12 1).toInt ≤ 500; exact hI20R.1), (by show 0 ≤ (I20 12 5).toInt ∧ (I20 12 5).toInt ≤ 501; exact hI20R.2.1), (by show (-1) ≤ (I20 12 6).toInt ∧ (I20 12 6).toInt ≤ 1000000; exact hI20R.2.2.1), (by show 0 ≤ (I20 12 9).toInt ∧ (I20 12 9).toInt ≤ 500; exact hI20R.2.2.2.1), (by show 0 ≤ (I20 12 13).toInt ∧ (I20 12 13).toInt ≤ 24; exact hI20R.2.2.2.2)⟩ (-1) _) (cwV 1 hts gX9_sum_X9_emit rfl rfl rfl hy_X9_emit ⟨Nat.le_of_ble_eq_true rfl, Nat.le_of_ble_eq_true rfl⟩) (z_preV (i := 12) hK hW rfl rfl) rfl rfl hl.1 rfl (lv_room (Nat.le_of_ble_eq_true rfl)) dX9_sum_69 ⟨Nat.le_of_ble_eq_true rfl, Nat.le_of_ble_eq_true rfl⟩) (fun u1 H locs hp hW hS => ?_)
              obtain ⟨I26, e9, hI26R, fI26⟩ := hp
              rw [e9] at hW
              have f27 := z_fr_sub (L := L_X9_sum_5) f21 fI26 (by decide)
              have k28 : (I26 12 6).toInt ≤ 501 ∧ ((I26 12 7).toInt = 401 ∨ (I26 12 6).toInt ≤ 500) := (by have q0 : (I26 12 6) = (I20 12 6) := (by rw [fI26 12 6 (by decide)]); have q1 : (I26 12 7) = (I20 12 7) := (by rw [fI26 12 7 (by decide)]); show (I26 12 6).toInt ≤ 501 ∧ ((I26 12 7).toInt = 401 ∨ (I26 12 6).toInt ≤ 500); rw [q0, q1]; first | omega | decide)
              have k29 : (I26 12 6).toInt = (I20 12 6).toInt := by rw [fI26 12 6 (by decide)]
              have k30 : (I26 12 7).toInt = (I20 12 7).toInt := by rw [fI26 12 7 (by decide)]
              obtain ⟨x31, ex31⟩ : ∃ y : Int32, y = y6 + 1 := ⟨_, rfl⟩
              have tx31 : x31.toInt = y6.toInt + 1 := z_tadd ex31 rfl z_l1 (by omega) (by omega)
              refine lv_iinc (v := x31) (lv' := [(2, .int x31), (3, .int (I7 12 7)), (0, .ref (ad 12)), (1, .int 5)]) hx hb dX9_sum_72 hl (k := 1) rfl (by rw [ex31]; rfl) (by decide) rfl (fun ls hl => ?_)
              refine lv_goto (tgt := 12) hx hb dX9_sum_75 (by decide) ?_
              exact lp5ih x31 I26  _ _ _ (by omega) (by omega) ⟨(by show 0 ≤ (I26 12 1).toInt ∧ (I26 12 1).toInt ≤ 500; exact hI26R.1), (by show 0 ≤ (I26 12 5).toInt ∧ (I26 12 5).toInt ≤ 501; exact hI26R.2.1), (by show (-1) ≤ (I26 12 6).toInt ∧ (I26 12 6).toInt ≤ 1000000; exact hI26R.2.2.1), (by show 0 ≤ (I26 12 9).toInt ∧ (I26 12 9).toInt ≤ 500; exact hI26R.2.2.2.1), (by show 0 ≤ (I26 12 13).toInt ∧ (I26 12 13).toInt ≤ 24; exact hI26R.2.2.2.2)⟩ (by show (I26 12 6).toInt ≤ 501 ∧ ((I26 12 7).toInt = 401 ∨ (I26 12 6).toInt ≤ 500); first | omega | decide) f27 hW hS (lv_sub hl [0, 2, 3] rfl)
            · refine lv_if_ne (tgt := 56) hx hb dX9_sum_51 (by decide) (fun c32 => absurd (by decide) c32) (fun c32 => ?_)
              refine lv_iconst (v := 0) hx hb dX9_sum_54 (by decide) ?_
              exact z_zret hx hb hr (by decide) hK hS (Nat.le_of_ble_eq_true rfl) (Nat.le_of_ble_eq_true rfl) hlocks dX9_sum_55 (shC c, ad, I20, JX, PC c ad) hW ⟨I20, rfl, ⟨(by show 0 ≤ (I20 12 1).toInt ∧ (I20 12 1).toInt ≤ 500; exact hI20R.1), (by show 0 ≤ (I20 12 5).toInt ∧ (I20 12 5).toInt ≤ 501; exact hI20R.2.1), (by show (-1) ≤ (I20 12 6).toInt ∧ (I20 12 6).toInt ≤ 1000000; exact hI20R.2.2.1), (by show 0 ≤ (I20 12 9).toInt ∧ (I20 12 9).toInt ≤ 500; exact hI20R.2.2.2.1), (by show 0 ≤ (I20 12 13).toInt ∧ (I20 12 13).toInt ≤ 24; exact hI20R.2.2.2.2)⟩, (by show (I20 12 6).toInt ≤ 501 ∧ ((I20 12 7).toInt = 401 ∨ (I20 12 6).toInt ≤ 500); first | omega | decide), f21, Or.inr rfl⟩
          · have g33 := z_f_ne rfl z_l43 c14
            have b34 := Int32.toInt_lt (I7 12 7)
            refine lv_aload_n hx hb dX9_sum_28 rfl (lv_at hl 1 rfl) ?_
            refine z_get (T := TX9) (N := 14) (ci := 9) (i := 12) (v := .int (I7 12 7)) hx hb hts zj_X9_sum_X9 hown hK hW rfl rfl 7 (by decide) (hts (.fieldLink RX9 62 "PetrolBoard$Reader" "token" "I") (me_s (me_l (me_l (List.mem_of_getElem? (i := 0) rfl))))) (fun _ h => h) rfl dX9_sum_29 ?_
            refine lv_bipush (v := 45) hx hb dX9_sum_32 (by decide) ?_
            refine lv_icmp_ne (tgt := 78) hx hb dX9_sum_34 (by decide) (fun c35 => ?_) (fun c35 => ?_)
            · have g36 := z_f_ne rfl z_l45 c35
              refine lv_iconst (v := 1) hx hb dX9_sum_78 (by decide) ?_
              exact z_zret hx hb hr (by decide) hK hS (Nat.le_of_ble_eq_true rfl) (Nat.le_of_ble_eq_true rfl) hlocks dX9_sum_79 (shC c, ad, I7, JX, PC c ad) hW ⟨I7, rfl, ⟨(by show 0 ≤ (I7 12 1).toInt ∧ (I7 12 1).toInt ≤ 500; exact lp5R.1), (by show 0 ≤ (I7 12 5).toInt ∧ (I7 12 5).toInt ≤ 501; exact lp5R.2.1), (by show (-1) ≤ (I7 12 6).toInt ∧ (I7 12 6).toInt ≤ 1000000; exact lp5R.2.2.1), (by show 0 ≤ (I7 12 9).toInt ∧ (I7 12 9).toInt ≤ 500; exact lp5R.2.2.2.1), (by show 0 ≤ (I7 12 13).toInt ∧ (I7 12 13).toInt ≤ 24; exact lp5R.2.2.2.2)⟩, (by show (I7 12 6).toInt ≤ 501 ∧ ((I7 12 7).toInt = 401 ∨ (I7 12 6).toInt ≤ 500); first | omega | decide), lp5fr, Or.inl rfl⟩
            · have g37 := z_f_eq rfl z_l45 c35
              refine lv_aload_n hx hb dX9_sum_37 rfl (lv_at hl 1 rfl) ?_
              refine z_get (T := TX9) (N := 14) (ci := 9) (i := 12) (v := .int (I7 12 7)) hx hb hts zj_X9_sum_X9 hown hK hW rfl rfl 7 (by decide) (hts (.fieldLink RX9 62 "PetrolBoard$Reader" "token" "I") (me_s (me_l (me_l (List.mem_of_getElem? (i := 0) rfl))))) (fun _ h => h) rfl dX9_sum_38 ?_
              refine lv_istore_n (lv' := [(3, .int (I7 12 7)), (2, .int y6), (0, .ref (ad 12)), (1, .int 5)]) hx hb dX9_sum_41 rfl hl (by decide) rfl (fun ls hl => ?_)
              refine lv_aload_n hx hb dX9_sum_42 rfl (lv_at hl 2 rfl) ?_
              refine z_cv hW hS hA (va_runV (As := []) (rest := []) ⟨hx, hb, hml, hown, hts⟩ (sx_X9_step l G ad c I7 ⟨(by show 0 ≤ (I7 12 1).toInt ∧ (I7 12 1).toInt ≤ 500; exact lp5R.1), (by show 0 ≤ (I7 12 5).toInt ∧ (I7 12 5).toInt ≤ 501; exact lp5R.2.1), (by show (-1) ≤ (I7 12 6).toInt ∧ (I7 12 6).toInt ≤ 1000000; exact lp5R.2.2.1), (by show 0 ≤ (I7 12 9).toInt ∧ (I7 12 9).toInt ≤ 500; exact lp5R.2.2.2.1), (by show 0 ≤ (I7 12 13).toInt ∧ (I7 12 13).toInt ≤ 24; exact lp5R.2.2.2.2)⟩   (by show (I7 12 6).toInt ≤ 500; first | omega | decide) _) (cwV 0 hts gX9_sum_X9_step rfl rfl rfl hy_X9_step ⟨Nat.le_of_ble_eq_true rfl, Nat.le_of_ble_eq_true rfl⟩) (z_preV (i := 12) hK hW rfl rfl) rfl rfl hl.1 rfl (lv_room (Nat.le_of_ble_eq_true rfl)) dX9_sum_43 ⟨Nat.le_of_ble_eq_true rfl, Nat.le_of_ble_eq_true rfl⟩) (fun u1 H locs hp hW hS => ?_)
              obtain ⟨I38, e9, hI38R, hI38T, fI38⟩ := hp
              rw [e9] at hW
              have f39 := z_fr_sub (L := L_X9_sum_5) lp5fr fI38 (by decide)
              have k40 : (I38 12 6).toInt ≤ 501 ∧ ((I38 12 7).toInt = 401 ∨ (I38 12 6).toInt ≤ 500) := hI38T
              refine lv_aload_n hx hb dX9_sum_46 rfl (lv_at hl 2 rfl) ?_
              refine lv_iload_n hx hb dX9_sum_47 rfl (lv_at hl 3 rfl) ?_
              refine z_ci hW hS hA (va_runV (As := [.int 5]) (rest := []) ⟨hx, hb, hml, hown, hts⟩ (sx_X9_product_5 l G ad c I38 ⟨(by show 0 ≤ (I38 12 1).toInt ∧ (I38 12 1).toInt ≤ 500; exact hI38R.1), (by show 0 ≤ (I38 12 5).toInt ∧ (I38 12 5).toInt ≤ 501; exact hI38R.2.1), (by show (-1) ≤ (I38 12 6).toInt ∧ (I38 12 6).toInt ≤ 1000000; exact hI38R.2.2.1), (by show 0 ≤ (I38 12 9).toInt ∧ (I38 12 9).toInt ≤ 500; exact hI38R.2.2.2.1), (by show 0 ≤ (I38 12 13).toInt ∧ (I38 12 13).toInt ≤ 24; exact hI38R.2.2.2.2)⟩ (by show (I38 12 6).toInt ≤ 501 ∧ ((I38 12 7).toInt = 401 ∨ (I38 12 6).toInt ≤ 500); first | omega | decide) _) (cwV 1 hts gX9_sum_X9_product rfl rfl rfl hy_X9_product ⟨Nat.le_of_ble_eq_true rfl, Nat.le_of_ble_eq_true rfl⟩) (z_preV (i := 12) hK hW rfl rfl) rfl rfl hl.1 rfl (lv_room (Nat.le_of_ble_eq_true rfl)) dX9_sum_48 ⟨Nat.le_of_ble_eq_true rfl, Nat.le_of_ble_eq_true rfl⟩) (fun r u1 H locs hp hW hS => ?_)
              obtain ⟨I41, e9, hI41R, hI41T, fI41, hp⟩ := hp
              rw [e9] at hW
              have f42 := z_fr_sub (L := L_X9_sum_5) f39 fI41 (by decide)
              have k43 : (I41 12 6).toInt ≤ 501 ∧ ((I41 12 7).toInt = 401 ∨ (I41 12 6).toInt ≤ 500) := hI41T
              rcases hp with rfl | rfl
              · refine lv_if_ne (tgt := 56) hx hb dX9_sum_51 (by decide) (fun c44 => ?_) (fun c44 => absurd c44 (by decide))
                refine lv_aload_n hx hb dX9_sum_56 rfl (lv_at hl 2 rfl) ?_
                refine lv_iload_n hx hb dX9_sum_57 rfl (lv_at hl 0 rfl) ?_
                refine lv_bipush (v := 43) hx hb dX9_sum_58 (by decide) ?_
                refine lv_icmp_ne (tgt := 67) hx hb dX9_sum_60 (by decide) (fun c45 => ?_) (fun c45 => (by have g := z_f_eq rfl z_l43 c45; omega))
                have g46 := z_f_ne rfl z_l43 c45
                refine lv_bipush (v := (-2)) hx hb dX9_sum_67 (by decide) ?_
                refine z_cv hW hS hA (va_runV (As := [.int (-2)]) (rest := []) ⟨hx, hb, hml, hown, hts⟩ (sx_X9_emit l G ad c I41 ⟨(by show 0 ≤ (I41 12 1).toInt ∧ (I41 12 1).toInt ≤ 500; exact hI41R.1), (by show 0 ≤ (I41 12 5).toInt ∧ (I41 12 5).toInt ≤ 501; exact hI41R.2.1), (by show (-1) ≤ (I41 12 6).toInt ∧ (I41 12 6).toInt ≤ 1000000; exact hI41R.2.2.1), (by show 0 ≤ (I41 12 9).toInt ∧ (I41 12 9).toInt ≤ 500; exact hI41R.2.2.2.1), (by show 0 ≤ (I41 12 13).toInt ∧ (I41 12 13).toInt ≤ 24; exact hI41R.2.2.2.2)⟩ (-2) _) (cwV 1 hts gX9_sum_X9_emit rfl rfl rfl hy_X9_emit ⟨Nat.le_of_ble_eq_true rfl, Nat.le_of_ble_eq_true rfl⟩) (z_preV (i := 12) hK hW rfl rfl) rfl rfl hl.1 rfl (lv_room (Nat.le_of_ble_eq_true rfl)) dX9_sum_69 ⟨Nat.le_of_ble_eq_true rfl, Nat.le_of_ble_eq_true rfl⟩) (fun u1 H locs hp hW hS => ?_)
                obtain ⟨I47, e9, hI47R, fI47⟩ := hp
                rw [e9] at hW
                have f48 := z_fr_sub (L := L_X9_sum_5) f42 fI47 (by decide)
                have k49 : (I47 12 6).toInt ≤ 501 ∧ ((I47 12 7).toInt = 401 ∨ (I47 12 6).toInt ≤ 500) := (by have q0 : (I47 12 6) = (I41 12 6) := (by rw [fI47 12 6 (by decide)]); have q1 : (I47 12 7) = (I41 12 7) := (by rw [fI47 12 7 (by decide)]); show (I47 12 6).toInt ≤ 501 ∧ ((I47 12 7).toInt = 401 ∨ (I47 12 6).toInt ≤ 500); rw [q0, q1]; first | omega | decide)
                have k50 : (I47 12 6).toInt = (I41 12 6).toInt := by rw [fI47 12 6 (by decide)]
                have k51 : (I47 12 7).toInt = (I41 12 7).toInt := by rw [fI47 12 7 (by decide)]
                obtain ⟨x52, ex52⟩ : ∃ y : Int32, y = y6 + 1 := ⟨_, rfl⟩
                have tx52 : x52.toInt = y6.toInt + 1 := z_tadd ex52 rfl z_l1 (by omega) (by omega)
                refine lv_iinc (v := x52) (lv' := [(2, .int x52), (3, .int (I7 12 7)), (0, .ref (ad 12)), (1, .int 5)]) hx hb dX9_sum_72 hl (k := 1) rfl (by rw [ex52]; rfl) (by decide) rfl (fun ls hl => ?_)
                refine lv_goto (tgt := 12) hx hb dX9_sum_75 (by decide) ?_
                exact lp5ih x52 I47  _ _ _ (by omega) (by omega) ⟨(by show 0 ≤ (I47 12 1).toInt ∧ (I47 12 1).toInt ≤ 500; exact hI47R.1), (by show 0 ≤ (I47 12 5).toInt ∧ (I47 12 5).toInt ≤ 501; exact hI47R.2.1), (by show (-1) ≤ (I47 12 6).toInt ∧ (I47 12 6).toInt ≤ 1000000; exact hI47R.2.2.1), (by show 0 ≤ (I47 12 9).toInt ∧ (I47 12 9).toInt ≤ 500; exact hI47R.2.2.2.1), (by show 0 ≤ (I47 12 13).toInt ∧ (I47 12 13).toInt ≤ 24; exact hI47R.2.2.2.2)⟩ (by show (I47 12 6).toInt ≤ 501 ∧ ((I47 12 7).toInt = 401 ∨ (I47 12 6).toInt ≤ 500); first | omega | decide) f48 hW hS (lv_sub hl [0, 2, 3] rfl)
              · refine lv_if_ne (tgt := 56) hx hb dX9_sum_51 (by decide) (fun c53 => absurd (by decide) c53) (fun c53 => ?_)
                refine lv_iconst (v := 0) hx hb dX9_sum_54 (by decide) ?_
                exact z_zret hx hb hr (by decide) hK hS (Nat.le_of_ble_eq_true rfl) (Nat.le_of_ble_eq_true rfl) hlocks dX9_sum_55 (shC c, ad, I41, JX, PC c ad) hW ⟨I41, rfl, ⟨(by show 0 ≤ (I41 12 1).toInt ∧ (I41 12 1).toInt ≤ 500; exact hI41R.1), (by show 0 ≤ (I41 12 5).toInt ∧ (I41 12 5).toInt ≤ 501; exact hI41R.2.1), (by show (-1) ≤ (I41 12 6).toInt ∧ (I41 12 6).toInt ≤ 1000000; exact hI41R.2.2.1), (by show 0 ≤ (I41 12 9).toInt ∧ (I41 12 9).toInt ≤ 500; exact hI41R.2.2.2.1), (by show 0 ≤ (I41 12 13).toInt ∧ (I41 12 13).toInt ≤ 24; exact hI41R.2.2.2.2)⟩, (by show (I41 12 6).toInt ≤ 501 ∧ ((I41 12 7).toInt = 401 ∨ (I41 12 6).toInt ≤ 500); first | omega | decide), f42, Or.inr rfl⟩
    exact lp5 4294967296 (0) I1  _ _ _ (z_m0u _) (by rw [z_l0]; omega) ⟨(by show 0 ≤ (I1 12 1).toInt ∧ (I1 12 1).toInt ≤ 500; exact hI1R.1), (by show 0 ≤ (I1 12 5).toInt ∧ (I1 12 5).toInt ≤ 501; exact hI1R.2.1), (by show (-1) ≤ (I1 12 6).toInt ∧ (I1 12 6).toInt ≤ 1000000; exact hI1R.2.2.1), (by show 0 ≤ (I1 12 9).toInt ∧ (I1 12 9).toInt ≤ 500; exact hI1R.2.2.2.1), (by show 0 ≤ (I1 12 13).toInt ∧ (I1 12 13).toInt ≤ 24; exact hI1R.2.2.2.2)⟩ (by show (I1 12 6).toInt ≤ 501 ∧ ((I1 12 7).toInt = 401 ∨ (I1 12 6).toInt ≤ 500); first | omega | decide) f2 hW hS (lv_sub hl [0, 1, 2] rfl)
  · refine lv_if_ne (tgt := 10) hx hb dX9_sum_5 (by decide) (fun c54 => absurd (by decide) c54) (fun c54 => ?_)
    refine lv_iconst (v := 0) hx hb dX9_sum_8 (by decide) ?_
    exact z_zret hx hb hr (by decide) hK hS (Nat.le_of_ble_eq_true rfl) (Nat.le_of_ble_eq_true rfl) hlocks dX9_sum_9 (shC c, ad, I1, JX, PC c ad) hW ⟨I1, rfl, ⟨(by show 0 ≤ (I1 12 1).toInt ∧ (I1 12 1).toInt ≤ 500; exact hI1R.1), (by show 0 ≤ (I1 12 5).toInt ∧ (I1 12 5).toInt ≤ 501; exact hI1R.2.1), (by show (-1) ≤ (I1 12 6).toInt ∧ (I1 12 6).toInt ≤ 1000000; exact hI1R.2.2.1), (by show 0 ≤ (I1 12 9).toInt ∧ (I1 12 9).toInt ≤ 500; exact hI1R.2.2.2.1), (by show 0 ≤ (I1 12 13).toInt ∧ (I1 12 13).toInt ≤ 24; exact hI1R.2.2.2.2)⟩, (by show (I1 12 6).toInt ≤ 501 ∧ ((I1 12 7).toInt = 401 ∨ (I1 12 6).toInt ≤ 500); first | omega | decide), f2, Or.inr rfl⟩
noncomputable def L_X9_opened_5 : z_L := [(12, 6), (12, 7), (17, 999), (12, 9)]
set_option maxHeartbeats 8000000 in
set_option maxRecDepth 100000 in
theorem sx_X9_opened_5 (l : Launch) (G : z_G) (ad : Nat → Nat) (c : z_C) (I : z_I) (hR : z_iR I) (hT : z_iT I) (q1 : (I 12 6).toInt ≤ 500) : z_M l yX9_opened wsX9_opened { frames := 21, cells := 0, slots := 0, locals := 451 } [.ref (ad 12), .int 5] G (shC c, ad, I, JX, PC c ad) (fun r u1 => ∃ I1 : z_I, u1 = (shC c, ad, I1, JX, PC c ad) ∧ z_iR I1 ∧ z_iT I1 ∧ z_fr L_X9_opened_5 I1 I ∧ (r = 1 ∨ r = 0)) 0 0 := by
  intro sz
  refine z_headQ (cc := cX9_opened) (maxL := 3) (ret := (some .boolean)) (by decide) rfl (Nat.le_of_ble_eq_true rfl) ?_
  intro p e s m below meth c0 ls hIn hK hsz hW hl
  obtain ⟨hx, hb, hr, hml, hown, hts, hlocks, hname⟩ := hIn
  subst hsz
  have hown : s.vm.findClass RX9 = some m.cls := hown
  have hA : ∀ q : Nat, s.heap.size ≤ q → z_A (shC c, ad, I, JX, PC c ad) s.heap.size q := fun q h => Or.inr h
  generalize hAe : z_A (shC c, ad, I, JX, PC c ad) s.heap.size = A at *
  have hS : va_S A s.heap s.heap [] := va_S.rf
  have hl : lv_has ls 3 [(0, .ref (ad 12)), (1, .int 5)] := hl
  have kT : (I 12 6).toInt ≤ 501 ∧ ((I 12 7).toInt = 401 ∨ (I 12 6).toInt ≤ 500) := hT
  refine lv_iload_n hx hb dX9_opened_0 rfl (lv_at hl 1 rfl) ?_
  refine lv_bipush (v := 9) hx hb dX9_opened_1 (by decide) ?_
  refine lv_icmp_lt (tgt := 8) hx hb dX9_opened_3 (by decide) (fun c1 => ?_) (fun c1 => absurd (by decide) c1)
  refine lv_aload_n hx hb dX9_opened_8 rfl (lv_at hl 0 rfl) ?_
  refine z_get (T := TX9) (N := 14) (ci := 9) (i := 12) (v := .int (I 12 7)) hx hb hts zj_X9_opened_X9 hown hK hW rfl rfl 7 (by decide) (hts (.fieldLink RX9 62 "PetrolBoard$Reader" "token" "I") (me_s (me_l (me_l (List.mem_of_getElem? (i := 0) rfl))))) (fun _ h => h) rfl dX9_opened_9 ?_
  refine lv_sipush (v := 311) hx hb dX9_opened_12 (by decide) ?_
  refine lv_icmp_ne (tgt := 22) hx hb dX9_opened_15 (by decide) (fun c2 => ?_) (fun c2 => ?_)
  · have g3 := z_f_ne rfl z_l311 c2
    have b4 := Int32.toInt_lt (I 12 7)
    refine lv_iconst (v := 0) hx hb dX9_opened_22 (by decide) ?_
    refine lv_istore_n (lv' := [(2, .int 0), (0, .ref (ad 12)), (1, .int 5)]) hx hb dX9_opened_23 rfl hl (by decide) rfl (fun ls hl => ?_)
    refine lv_aload_n hx hb dX9_opened_24 rfl (lv_at hl 1 rfl) ?_
    refine z_cv hW hS hA (va_runV (As := []) (rest := []) ⟨hx, hb, hml, hown, hts⟩ (sx_X9_step l G ad c I ⟨(by show 0 ≤ (I 12 1).toInt ∧ (I 12 1).toInt ≤ 500; exact hR.1), (by show 0 ≤ (I 12 5).toInt ∧ (I 12 5).toInt ≤ 501; exact hR.2.1), (by show (-1) ≤ (I 12 6).toInt ∧ (I 12 6).toInt ≤ 1000000; exact hR.2.2.1), (by show 0 ≤ (I 12 9).toInt ∧ (I 12 9).toInt ≤ 500; exact hR.2.2.2.1), (by show 0 ≤ (I 12 13).toInt ∧ (I 12 13).toInt ≤ 24; exact hR.2.2.2.2)⟩   (by show (I 12 6).toInt ≤ 500; first | omega | decide) _) (cwV 0 hts gX9_opened_X9_step rfl rfl rfl hy_X9_step ⟨Nat.le_of_ble_eq_true rfl, Nat.le_of_ble_eq_true rfl⟩) (z_preV (i := 12) hK hW rfl rfl) rfl rfl hl.1 rfl (lv_room (Nat.le_of_ble_eq_true rfl)) dX9_opened_25 ⟨Nat.le_of_ble_eq_true rfl, Nat.le_of_ble_eq_true rfl⟩) (fun u1 H locs hp hW hS => ?_)
    obtain ⟨I5, e9, hI5R, hI5T, fI5⟩ := hp
    rw [e9] at hW
    have f6 := z_fr_sub (L := L_X9_opened_5) z_fr_0 fI5 (by decide)
    have k7 : (I5 12 6).toInt ≤ 501 ∧ ((I5 12 7).toInt = 401 ∨ (I5 12 6).toInt ≤ 500) := hI5T
    refine lv_iload_n hx hb dX9_opened_28 rfl (lv_at hl 0 rfl) ?_
    refine lv_if_ne (tgt := 57) hx hb dX9_opened_29 (by decide) (fun c8 => absurd (by decide) c8) (fun c8 => ?_)
    refine lv_aload_n hx hb dX9_opened_32 rfl (lv_at hl 1 rfl) ?_
    refine lv_iload_n hx hb dX9_opened_33 rfl (lv_at hl 2 rfl) ?_
    refine lv_iconst (v := 1) hx hb dX9_opened_34 (by decide) ?_
    refine lv_iadd hx hb dX9_opened_35 ?_
    refine z_topi (v := 6) (by decide) ?_
    refine z_ci hW hS hA (va_runV (As := [.int 6]) (rest := []) ⟨hx, hb, hml, hown, hts⟩ (sx_X9_either_6 l G ad c I5 ⟨(by show 0 ≤ (I5 12 1).toInt ∧ (I5 12 1).toInt ≤ 500; exact hI5R.1), (by show 0 ≤ (I5 12 5).toInt ∧ (I5 12 5).toInt ≤ 501; exact hI5R.2.1), (by show (-1) ≤ (I5 12 6).toInt ∧ (I5 12 6).toInt ≤ 1000000; exact hI5R.2.2.1), (by show 0 ≤ (I5 12 9).toInt ∧ (I5 12 9).toInt ≤ 500; exact hI5R.2.2.2.1), (by show 0 ≤ (I5 12 13).toInt ∧ (I5 12 13).toInt ≤ 24; exact hI5R.2.2.2.2)⟩ (by show (I5 12 6).toInt ≤ 501 ∧ ((I5 12 7).toInt = 401 ∨ (I5 12 6).toInt ≤ 500); first | omega | decide) _) (cwV 1 hts gX9_opened_X9_either rfl rfl rfl hy_X9_either ⟨Nat.le_of_ble_eq_true rfl, Nat.le_of_ble_eq_true rfl⟩) (z_preV (i := 12) hK hW rfl rfl) rfl rfl hl.1 rfl (lv_room (Nat.le_of_ble_eq_true rfl)) dX9_opened_36 ⟨Nat.le_of_ble_eq_true rfl, Nat.le_of_ble_eq_true rfl⟩) (fun r u1 H locs hp hW hS => ?_)
    obtain ⟨I9, e9, hI9R, hI9T, fI9, hp⟩ := hp
    rw [e9] at hW
    have f10 := z_fr_sub (L := L_X9_opened_5) f6 fI9 (by decide)
    have k11 : (I9 12 6).toInt ≤ 501 ∧ ((I9 12 7).toInt = 401 ∨ (I9 12 6).toInt ≤ 500) := hI9T
    rcases hp with rfl | rfl
    · refine lv_if_eq (tgt := 55) hx hb dX9_opened_39 (by decide) (fun c12 => absurd c12 (by decide)) (fun c12 => ?_)
      refine lv_aload_n hx hb dX9_opened_42 rfl (lv_at hl 1 rfl) ?_
      refine lv_bipush (v := 125) hx hb dX9_opened_43 (by decide) ?_
      refine z_ci hW hS hA (va_runV (As := [.int 125]) (rest := []) ⟨hx, hb, hml, hown, hts⟩ (sx_X9_taken l G ad c I9 ⟨(by show 0 ≤ (I9 12 1).toInt ∧ (I9 12 1).toInt ≤ 500; exact hI9R.1), (by show 0 ≤ (I9 12 5).toInt ∧ (I9 12 5).toInt ≤ 501; exact hI9R.2.1), (by show (-1) ≤ (I9 12 6).toInt ∧ (I9 12 6).toInt ≤ 1000000; exact hI9R.2.2.1), (by show 0 ≤ (I9 12 9).toInt ∧ (I9 12 9).toInt ≤ 500; exact hI9R.2.2.2.1), (by show 0 ≤ (I9 12 13).toInt ∧ (I9 12 13).toInt ≤ 24; exact hI9R.2.2.2.2)⟩ (by show (I9 12 6).toInt ≤ 501 ∧ ((I9 12 7).toInt = 401 ∨ (I9 12 6).toInt ≤ 500); first | omega | decide) 125 (by first | omega | decide) _) (cwV 1 hts gX9_opened_X9_taken rfl rfl rfl hy_X9_taken ⟨Nat.le_of_ble_eq_true rfl, Nat.le_of_ble_eq_true rfl⟩) (z_preV (i := 12) hK hW rfl rfl) rfl rfl hl.1 rfl (lv_room (Nat.le_of_ble_eq_true rfl)) dX9_opened_45 ⟨Nat.le_of_ble_eq_true rfl, Nat.le_of_ble_eq_true rfl⟩) (fun r u1 H locs hp hW hS => ?_)
      obtain ⟨I13, e9, hI13R, hI13T, fI13, hp⟩ := hp
      rw [e9] at hW
      have f14 := z_fr_sub (L := L_X9_opened_5) f10 fI13 (by decide)
      have k15 : (I13 12 6).toInt ≤ 501 ∧ ((I13 12 7).toInt = 401 ∨ (I13 12 6).toInt ≤ 500) := hI13T
      rcases hp with rfl | rfl
      · refine lv_if_eq (tgt := 55) hx hb dX9_opened_48 (by decide) (fun c16 => absurd c16 (by decide)) (fun c16 => ?_)
        refine lv_iconst (v := 1) hx hb dX9_opened_51 (by decide) ?_
        refine lv_goto (tgt := 56) hx hb dX9_opened_52 (by decide) ?_
        exact z_zret hx hb hr (by decide) hK hS (Nat.le_of_ble_eq_true rfl) (Nat.le_of_ble_eq_true rfl) hlocks dX9_opened_56 (shC c, ad, I13, JX, PC c ad) hW ⟨I13, rfl, ⟨(by show 0 ≤ (I13 12 1).toInt ∧ (I13 12 1).toInt ≤ 500; exact hI13R.1), (by show 0 ≤ (I13 12 5).toInt ∧ (I13 12 5).toInt ≤ 501; exact hI13R.2.1), (by show (-1) ≤ (I13 12 6).toInt ∧ (I13 12 6).toInt ≤ 1000000; exact hI13R.2.2.1), (by show 0 ≤ (I13 12 9).toInt ∧ (I13 12 9).toInt ≤ 500; exact hI13R.2.2.2.1), (by show 0 ≤ (I13 12 13).toInt ∧ (I13 12 13).toInt ≤ 24; exact hI13R.2.2.2.2)⟩, (by show (I13 12 6).toInt ≤ 501 ∧ ((I13 12 7).toInt = 401 ∨ (I13 12 6).toInt ≤ 500); first | omega | decide), f14, Or.inl rfl⟩
      · refine lv_if_eq (tgt := 55) hx hb dX9_opened_48 (by decide) (fun c17 => ?_) (fun c17 => absurd (by decide) c17)
        refine lv_iconst (v := 0) hx hb dX9_opened_55 (by decide) ?_
        exact z_zret hx hb hr (by decide) hK hS (Nat.le_of_ble_eq_true rfl) (Nat.le_of_ble_eq_true rfl) hlocks dX9_opened_56 (shC c, ad, I13, JX, PC c ad) hW ⟨I13, rfl, ⟨(by show 0 ≤ (I13 12 1).toInt ∧ (I13 12 1).toInt ≤ 500; exact hI13R.1), (by show 0 ≤ (I13 12 5).toInt ∧ (I13 12 5).toInt ≤ 501; exact hI13R.2.1), (by show (-1) ≤ (I13 12 6).toInt ∧ (I13 12 6).toInt ≤ 1000000; exact hI13R.2.2.1), (by show 0 ≤ (I13 12 9).toInt ∧ (I13 12 9).toInt ≤ 500; exact hI13R.2.2.2.1), (by show 0 ≤ (I13 12 13).toInt ∧ (I13 12 13).toInt ≤ 24; exact hI13R.2.2.2.2)⟩, (by show (I13 12 6).toInt ≤ 501 ∧ ((I13 12 7).toInt = 401 ∨ (I13 12 6).toInt ≤ 500); first | omega | decide), f14, Or.inr rfl⟩
    · refine lv_if_eq (tgt := 55) hx hb dX9_opened_39 (by decide) (fun c18 => ?_) (fun c18 => absurd (by decide) c18)
      refine lv_iconst (v := 0) hx hb dX9_opened_55 (by decide) ?_
      exact z_zret hx hb hr (by decide) hK hS (Nat.le_of_ble_eq_true rfl) (Nat.le_of_ble_eq_true rfl) hlocks dX9_opened_56 (shC c, ad, I9, JX, PC c ad) hW ⟨I9, rfl, ⟨(by show 0 ≤ (I9 12 1).toInt ∧ (I9 12 1).toInt ≤ 500; exact hI9R.1), (by show 0 ≤ (I9 12 5).toInt ∧ (I9 12 5).toInt ≤ 501; exact hI9R.2.1), (by show (-1) ≤ (I9 12 6).toInt ∧ (I9 12 6).toInt ≤ 1000000; exact hI9R.2.2.1), (by show 0 ≤ (I9 12 9).toInt ∧ (I9 12 9).toInt ≤ 500; exact hI9R.2.2.2.1), (by show 0 ≤ (I9 12 13).toInt ∧ (I9 12 13).toInt ≤ 24; exact hI9R.2.2.2.2)⟩, (by show (I9 12 6).toInt ≤ 501 ∧ ((I9 12 7).toInt = 401 ∨ (I9 12 6).toInt ≤ 500); first | omega | decide), f10, Or.inr rfl⟩
  · have g19 := z_f_eq rfl z_l311 c2
    have b20 := Int32.toInt_lt (I 12 7)
    refine lv_iconst (v := 1) hx hb dX9_opened_18 (by decide) ?_
    refine lv_goto (tgt := 23) hx hb dX9_opened_19 (by decide) ?_
    refine lv_istore_n (lv' := [(2, .int 1), (0, .ref (ad 12)), (1, .int 5)]) hx hb dX9_opened_23 rfl hl (by decide) rfl (fun ls hl => ?_)
    refine lv_aload_n hx hb dX9_opened_24 rfl (lv_at hl 1 rfl) ?_
    refine z_cv hW hS hA (va_runV (As := []) (rest := []) ⟨hx, hb, hml, hown, hts⟩ (sx_X9_step l G ad c I ⟨(by show 0 ≤ (I 12 1).toInt ∧ (I 12 1).toInt ≤ 500; exact hR.1), (by show 0 ≤ (I 12 5).toInt ∧ (I 12 5).toInt ≤ 501; exact hR.2.1), (by show (-1) ≤ (I 12 6).toInt ∧ (I 12 6).toInt ≤ 1000000; exact hR.2.2.1), (by show 0 ≤ (I 12 9).toInt ∧ (I 12 9).toInt ≤ 500; exact hR.2.2.2.1), (by show 0 ≤ (I 12 13).toInt ∧ (I 12 13).toInt ≤ 24; exact hR.2.2.2.2)⟩   (by show (I 12 6).toInt ≤ 500; first | omega | decide) _) (cwV 0 hts gX9_opened_X9_step rfl rfl rfl hy_X9_step ⟨Nat.le_of_ble_eq_true rfl, Nat.le_of_ble_eq_true rfl⟩) (z_preV (i := 12) hK hW rfl rfl) rfl rfl hl.1 rfl (lv_room (Nat.le_of_ble_eq_true rfl)) dX9_opened_25 ⟨Nat.le_of_ble_eq_true rfl, Nat.le_of_ble_eq_true rfl⟩) (fun u1 H locs hp hW hS => ?_)
    obtain ⟨I21, e9, hI21R, hI21T, fI21⟩ := hp
    rw [e9] at hW
    have f22 := z_fr_sub (L := L_X9_opened_5) z_fr_0 fI21 (by decide)
    have k23 : (I21 12 6).toInt ≤ 501 ∧ ((I21 12 7).toInt = 401 ∨ (I21 12 6).toInt ≤ 500) := hI21T
    refine lv_iload_n hx hb dX9_opened_28 rfl (lv_at hl 0 rfl) ?_
    refine lv_if_ne (tgt := 57) hx hb dX9_opened_29 (by decide) (fun c24 => ?_) (fun c24 => absurd c24 (by decide))
    refine lv_aload_n hx hb dX9_opened_57 rfl (lv_at hl 1 rfl) ?_
    refine lv_iload_n hx hb dX9_opened_58 rfl (lv_at hl 2 rfl) ?_
    refine lv_iconst (v := 1) hx hb dX9_opened_59 (by decide) ?_
    refine lv_iadd hx hb dX9_opened_60 ?_
    refine z_topi (v := 6) (by decide) ?_
    refine z_ci hW hS hA (va_runV (As := [.int 6]) (rest := []) ⟨hx, hb, hml, hown, hts⟩ (sx_X9_one_6 l G ad c I21 ⟨(by show 0 ≤ (I21 12 1).toInt ∧ (I21 12 1).toInt ≤ 500; exact hI21R.1), (by show 0 ≤ (I21 12 5).toInt ∧ (I21 12 5).toInt ≤ 501; exact hI21R.2.1), (by show (-1) ≤ (I21 12 6).toInt ∧ (I21 12 6).toInt ≤ 1000000; exact hI21R.2.2.1), (by show 0 ≤ (I21 12 9).toInt ∧ (I21 12 9).toInt ≤ 500; exact hI21R.2.2.2.1), (by show 0 ≤ (I21 12 13).toInt ∧ (I21 12 13).toInt ≤ 24; exact hI21R.2.2.2.2)⟩ (by show (I21 12 6).toInt ≤ 501 ∧ ((I21 12 7).toInt = 401 ∨ (I21 12 6).toInt ≤ 500); first | omega | decide) _) (cwV 1 hts gX9_opened_X9_one rfl rfl rfl hy_X9_one ⟨Nat.le_of_ble_eq_true rfl, Nat.le_of_ble_eq_true rfl⟩) (z_preV (i := 12) hK hW rfl rfl) rfl rfl hl.1 rfl (lv_room (Nat.le_of_ble_eq_true rfl)) dX9_opened_61 ⟨Nat.le_of_ble_eq_true rfl, Nat.le_of_ble_eq_true rfl⟩) (fun r u1 H locs hp hW hS => ?_)
    obtain ⟨I25, e9, hI25R, hI25T, fI25, hp⟩ := hp
    rw [e9] at hW
    have f26 := z_fr_sub (L := L_X9_opened_5) f22 fI25 (by decide)
    have k27 : (I25 12 6).toInt ≤ 501 ∧ ((I25 12 7).toInt = 401 ∨ (I25 12 6).toInt ≤ 500) := hI25T
    rcases hp with rfl | rfl
    · refine lv_if_ne (tgt := 69) hx hb dX9_opened_64 (by decide) (fun c28 => ?_) (fun c28 => absurd c28 (by decide))
      refine lv_aload_n hx hb dX9_opened_69 rfl (lv_at hl 1 rfl) ?_
      refine lv_bipush (v := (-12)) hx hb dX9_opened_70 (by decide) ?_
      refine z_cv hW hS hA (va_runV (As := [.int (-12)]) (rest := []) ⟨hx, hb, hml, hown, hts⟩ (sx_X9_emit l G ad c I25 ⟨(by show 0 ≤ (I25 12 1).toInt ∧ (I25 12 1).toInt ≤ 500; exact hI25R.1), (by show 0 ≤ (I25 12 5).toInt ∧ (I25 12 5).toInt ≤ 501; exact hI25R.2.1), (by show (-1) ≤ (I25 12 6).toInt ∧ (I25 12 6).toInt ≤ 1000000; exact hI25R.2.2.1), (by show 0 ≤ (I25 12 9).toInt ∧ (I25 12 9).toInt ≤ 500; exact hI25R.2.2.2.1), (by show 0 ≤ (I25 12 13).toInt ∧ (I25 12 13).toInt ≤ 24; exact hI25R.2.2.2.2)⟩ (-12) _) (cwV 1 hts gX9_opened_X9_emit rfl rfl rfl hy_X9_emit ⟨Nat.le_of_ble_eq_true rfl, Nat.le_of_ble_eq_true rfl⟩) (z_preV (i := 12) hK hW rfl rfl) rfl rfl hl.1 rfl (lv_room (Nat.le_of_ble_eq_true rfl)) dX9_opened_72 ⟨Nat.le_of_ble_eq_true rfl, Nat.le_of_ble_eq_true rfl⟩) (fun u1 H locs hp hW hS => ?_)
      obtain ⟨I29, e9, hI29R, fI29⟩ := hp
      rw [e9] at hW
      have f30 := z_fr_sub (L := L_X9_opened_5) f26 fI29 (by decide)
      have k31 : (I29 12 6).toInt ≤ 501 ∧ ((I29 12 7).toInt = 401 ∨ (I29 12 6).toInt ≤ 500) := (by have q0 : (I29 12 6) = (I25 12 6) := (by rw [fI29 12 6 (by decide)]); have q1 : (I29 12 7) = (I25 12 7) := (by rw [fI29 12 7 (by decide)]); show (I29 12 6).toInt ≤ 501 ∧ ((I29 12 7).toInt = 401 ∨ (I29 12 6).toInt ≤ 500); rw [q0, q1]; first | omega | decide)
      have k32 : (I29 12 6).toInt = (I25 12 6).toInt := by rw [fI29 12 6 (by decide)]
      have k33 : (I29 12 7).toInt = (I25 12 7).toInt := by rw [fI29 12 7 (by decide)]
      refine lv_iconst (v := 1) hx hb dX9_opened_75 (by decide) ?_
      exact z_zret hx hb hr (by decide) hK hS (Nat.le_of_ble_eq_true rfl) (Nat.le_of_ble_eq_true rfl) hlocks dX9_opened_76 (shC c, ad, I29, JX, PC c ad) hW ⟨I29, rfl, ⟨(by show 0 ≤ (I29 12 1).toInt ∧ (I29 12 1).toInt ≤ 500; exact hI29R.1), (by show 0 ≤ (I29 12 5).toInt ∧ (I29 12 5).toInt ≤ 501; exact hI29R.2.1), (by show (-1) ≤ (I29 12 6).toInt ∧ (I29 12 6).toInt ≤ 1000000; exact hI29R.2.2.1), (by show 0 ≤ (I29 12 9).toInt ∧ (I29 12 9).toInt ≤ 500; exact hI29R.2.2.2.1), (by show 0 ≤ (I29 12 13).toInt ∧ (I29 12 13).toInt ≤ 24; exact hI29R.2.2.2.2)⟩, (by show (I29 12 6).toInt ≤ 501 ∧ ((I29 12 7).toInt = 401 ∨ (I29 12 6).toInt ≤ 500); first | omega | decide), f30, Or.inl rfl⟩
    · refine lv_if_ne (tgt := 69) hx hb dX9_opened_64 (by decide) (fun c34 => absurd (by decide) c34) (fun c34 => ?_)
      refine lv_iconst (v := 0) hx hb dX9_opened_67 (by decide) ?_
      exact z_zret hx hb hr (by decide) hK hS (Nat.le_of_ble_eq_true rfl) (Nat.le_of_ble_eq_true rfl) hlocks dX9_opened_68 (shC c, ad, I25, JX, PC c ad) hW ⟨I25, rfl, ⟨(by show 0 ≤ (I25 12 1).toInt ∧ (I25 12 1).toInt ≤ 500; exact hI25R.1), (by show 0 ≤ (I25 12 5).toInt ∧ (I25 12 5).toInt ≤ 501; exact hI25R.2.1), (by show (-1) ≤ (I25 12 6).toInt ∧ (I25 12 6).toInt ≤ 1000000; exact hI25R.2.2.1), (by show 0 ≤ (I25 12 9).toInt ∧ (I25 12 9).toInt ≤ 500; exact hI25R.2.2.2.1), (by show 0 ≤ (I25 12 13).toInt ∧ (I25 12 13).toInt ≤ 24; exact hI25R.2.2.2.2)⟩, (by show (I25 12 6).toInt ≤ 501 ∧ ((I25 12 7).toInt = 401 ∨ (I25 12 6).toInt ≤ 500); first | omega | decide), f26, Or.inr rfl⟩
noncomputable def L_X9_one_5 : z_L := [(12, 6), (12, 7), (17, 999), (12, 9)]
set_option maxHeartbeats 8000000 in
set_option maxRecDepth 100000 in
theorem sx_X9_one_5 (l : Launch) (G : z_G) (ad : Nat → Nat) (c : z_C) (I : z_I) (hR : z_iR I) (hT : z_iT I) : z_M l yX9_one wsX9_one { frames := 22, cells := 0, slots := 0, locals := 473 } [.ref (ad 12), .int 5] G (shC c, ad, I, JX, PC c ad) (fun r u1 => ∃ I1 : z_I, u1 = (shC c, ad, I1, JX, PC c ad) ∧ z_iR I1 ∧ z_iT I1 ∧ z_fr L_X9_one_5 I1 I ∧ (r = 1 ∨ r = 0)) 0 0 := by
  intro sz
  refine z_headQ (cc := cX9_one) (maxL := 3) (ret := (some .boolean)) (by decide) rfl (Nat.le_of_ble_eq_true rfl) ?_
  intro p e s m below meth c0 ls hIn hK hsz hW hl
  obtain ⟨hx, hb, hr, hml, hown, hts, hlocks, hname⟩ := hIn
  subst hsz
  have hown : s.vm.findClass RX9 = some m.cls := hown
  have hA : ∀ q : Nat, s.heap.size ≤ q → z_A (shC c, ad, I, JX, PC c ad) s.heap.size q := fun q h => Or.inr h
  generalize hAe : z_A (shC c, ad, I, JX, PC c ad) s.heap.size = A at *
  have hS : va_S A s.heap s.heap [] := va_S.rf
  have hl : lv_has ls 3 [(0, .ref (ad 12)), (1, .int 5)] := hl
  have kT : (I 12 6).toInt ≤ 501 ∧ ((I 12 7).toInt = 401 ∨ (I 12 6).toInt ≤ 500) := hT
  refine lv_aload_n hx hb dX9_one_0 rfl (lv_at hl 0 rfl) ?_
  refine z_get (T := TX9) (N := 14) (ci := 9) (i := 12) (v := .int (I 12 7)) hx hb hts zj_X9_one_X9 hown hK hW rfl rfl 7 (by decide) (hts (.fieldLink RX9 62 "PetrolBoard$Reader" "token" "I") (me_s (me_l (me_l (List.mem_of_getElem? (i := 0) rfl))))) (fun _ h => h) rfl dX9_one_1 ?_
  refine lv_sipush (v := 311) hx hb dX9_one_4 (by decide) ?_
  refine lv_icmp_eq (tgt := 19) hx hb dX9_one_7 (by decide) (fun c1 => ?_) (fun c1 => ?_)
  · have g2 := z_f_eq rfl z_l311 c1
    have b3 := Int32.toInt_lt (I 12 7)
    refine lv_aload_n hx hb dX9_one_19 rfl (lv_at hl 0 rfl) ?_
    refine lv_iload_n hx hb dX9_one_20 rfl (lv_at hl 1 rfl) ?_
    refine z_ci hW hS hA (va_runV (As := [.int 5]) (rest := []) ⟨hx, hb, hml, hown, hts⟩ (sx_X9_opened_5 l G ad c I ⟨(by show 0 ≤ (I 12 1).toInt ∧ (I 12 1).toInt ≤ 500; exact hR.1), (by show 0 ≤ (I 12 5).toInt ∧ (I 12 5).toInt ≤ 501; exact hR.2.1), (by show (-1) ≤ (I 12 6).toInt ∧ (I 12 6).toInt ≤ 1000000; exact hR.2.2.1), (by show 0 ≤ (I 12 9).toInt ∧ (I 12 9).toInt ≤ 500; exact hR.2.2.2.1), (by show 0 ≤ (I 12 13).toInt ∧ (I 12 13).toInt ≤ 24; exact hR.2.2.2.2)⟩ (by show (I 12 6).toInt ≤ 501 ∧ ((I 12 7).toInt = 401 ∨ (I 12 6).toInt ≤ 500); first | omega | decide) (by show (I 12 6).toInt ≤ 500; first | omega | decide) _) (cwV 1 hts gX9_one_X9_opened rfl rfl rfl hy_X9_opened ⟨Nat.le_of_ble_eq_true rfl, Nat.le_of_ble_eq_true rfl⟩) (z_preV (i := 12) hK hW rfl rfl) rfl rfl hl.1 rfl (lv_room (Nat.le_of_ble_eq_true rfl)) dX9_one_21 ⟨Nat.le_of_ble_eq_true rfl, Nat.le_of_ble_eq_true rfl⟩) (fun r u1 H locs hp hW hS => ?_)
    obtain ⟨I4, e9, hI4R, hI4T, fI4, hp⟩ := hp
    rw [e9] at hW
    have f5 := z_fr_sub (L := L_X9_one_5) z_fr_0 fI4 (by decide)
    have k6 : (I4 12 6).toInt ≤ 501 ∧ ((I4 12 7).toInt = 401 ∨ (I4 12 6).toInt ≤ 500) := hI4T
    rcases hp with rfl | rfl
    · exact z_zret hx hb hr (by decide) hK hS (Nat.le_of_ble_eq_true rfl) (Nat.le_of_ble_eq_true rfl) hlocks dX9_one_24 (shC c, ad, I4, JX, PC c ad) hW ⟨I4, rfl, ⟨(by show 0 ≤ (I4 12 1).toInt ∧ (I4 12 1).toInt ≤ 500; exact hI4R.1), (by show 0 ≤ (I4 12 5).toInt ∧ (I4 12 5).toInt ≤ 501; exact hI4R.2.1), (by show (-1) ≤ (I4 12 6).toInt ∧ (I4 12 6).toInt ≤ 1000000; exact hI4R.2.2.1), (by show 0 ≤ (I4 12 9).toInt ∧ (I4 12 9).toInt ≤ 500; exact hI4R.2.2.2.1), (by show 0 ≤ (I4 12 13).toInt ∧ (I4 12 13).toInt ≤ 24; exact hI4R.2.2.2.2)⟩, (by show (I4 12 6).toInt ≤ 501 ∧ ((I4 12 7).toInt = 401 ∨ (I4 12 6).toInt ≤ 500); first | omega | decide), f5, Or.inl rfl⟩
    · exact z_zret hx hb hr (by decide) hK hS (Nat.le_of_ble_eq_true rfl) (Nat.le_of_ble_eq_true rfl) hlocks dX9_one_24 (shC c, ad, I4, JX, PC c ad) hW ⟨I4, rfl, ⟨(by show 0 ≤ (I4 12 1).toInt ∧ (I4 12 1).toInt ≤ 500; exact hI4R.1), (by show 0 ≤ (I4 12 5).toInt ∧ (I4 12 5).toInt ≤ 501; exact hI4R.2.1), (by show (-1) ≤ (I4 12 6).toInt ∧ (I4 12 6).toInt ≤ 1000000; exact hI4R.2.2.1), (by show 0 ≤ (I4 12 9).toInt ∧ (I4 12 9).toInt ≤ 500; exact hI4R.2.2.2.1), (by show 0 ≤ (I4 12 13).toInt ∧ (I4 12 13).toInt ≤ 24; exact hI4R.2.2.2.2)⟩, (by show (I4 12 6).toInt ≤ 501 ∧ ((I4 12 7).toInt = 401 ∨ (I4 12 6).toInt ≤ 500); first | omega | decide), f5, Or.inr rfl⟩
  · have g7 := z_f_ne rfl z_l311 c1
    have b8 := Int32.toInt_lt (I 12 7)
    refine lv_aload_n hx hb dX9_one_10 rfl (lv_at hl 0 rfl) ?_
    refine z_get (T := TX9) (N := 14) (ci := 9) (i := 12) (v := .int (I 12 7)) hx hb hts zj_X9_one_X9 hown hK hW rfl rfl 7 (by decide) (hts (.fieldLink RX9 62 "PetrolBoard$Reader" "token" "I") (me_s (me_l (me_l (List.mem_of_getElem? (i := 0) rfl))))) (fun _ h => h) rfl dX9_one_11 ?_
    refine lv_bipush (v := 123) hx hb dX9_one_14 (by decide) ?_
    refine lv_icmp_ne (tgt := 25) hx hb dX9_one_16 (by decide) (fun c9 => ?_) (fun c9 => ?_)
    · have g10 := z_f_ne rfl z_l123 c9
      refine lv_aload_n hx hb dX9_one_25 rfl (lv_at hl 0 rfl) ?_
      refine lv_iload_n hx hb dX9_one_26 rfl (lv_at hl 1 rfl) ?_
      refine z_ci hW hS hA (va_runV (As := [.int 5]) (rest := []) ⟨hx, hb, hml, hown, hts⟩ (sx_X9_sum_5 l G ad c I ⟨(by show 0 ≤ (I 12 1).toInt ∧ (I 12 1).toInt ≤ 500; exact hR.1), (by show 0 ≤ (I 12 5).toInt ∧ (I 12 5).toInt ≤ 501; exact hR.2.1), (by show (-1) ≤ (I 12 6).toInt ∧ (I 12 6).toInt ≤ 1000000; exact hR.2.2.1), (by show 0 ≤ (I 12 9).toInt ∧ (I 12 9).toInt ≤ 500; exact hR.2.2.2.1), (by show 0 ≤ (I 12 13).toInt ∧ (I 12 13).toInt ≤ 24; exact hR.2.2.2.2)⟩ (by show (I 12 6).toInt ≤ 501 ∧ ((I 12 7).toInt = 401 ∨ (I 12 6).toInt ≤ 500); first | omega | decide) _) (cwV 1 hts gX9_one_X9_sum rfl rfl rfl hy_X9_sum ⟨Nat.le_of_ble_eq_true rfl, Nat.le_of_ble_eq_true rfl⟩) (z_preV (i := 12) hK hW rfl rfl) rfl rfl hl.1 rfl (lv_room (Nat.le_of_ble_eq_true rfl)) dX9_one_27 ⟨Nat.le_of_ble_eq_true rfl, Nat.le_of_ble_eq_true rfl⟩) (fun r u1 H locs hp hW hS => ?_)
      obtain ⟨I11, e9, hI11R, hI11T, fI11, hp⟩ := hp
      rw [e9] at hW
      have f12 := z_fr_sub (L := L_X9_one_5) z_fr_0 fI11 (by decide)
      have k13 : (I11 12 6).toInt ≤ 501 ∧ ((I11 12 7).toInt = 401 ∨ (I11 12 6).toInt ≤ 500) := hI11T
      rcases hp with rfl | rfl
      · refine lv_if_ne (tgt := 35) hx hb dX9_one_30 (by decide) (fun c14 => ?_) (fun c14 => absurd c14 (by decide))
        refine lv_aload_n hx hb dX9_one_35 rfl (lv_at hl 0 rfl) ?_
        refine z_get (T := TX9) (N := 14) (ci := 9) (i := 12) (v := .int (I11 12 7)) hx hb hts zj_X9_one_X9 hown hK hW rfl rfl 7 (by decide) (hts (.fieldLink RX9 62 "PetrolBoard$Reader" "token" "I") (me_s (me_l (me_l (List.mem_of_getElem? (i := 0) rfl))))) (fun _ h => h) rfl dX9_one_36 ?_
        refine lv_istore_n (lv' := [(2, .int (I11 12 7)), (0, .ref (ad 12)), (1, .int 5)]) hx hb dX9_one_39 rfl hl (by decide) rfl (fun ls hl => ?_)
        refine lv_iload_n hx hb dX9_one_40 rfl (lv_at hl 0 rfl) ?_
        refine lv_bipush (v := 60) hx hb dX9_one_41 (by decide) ?_
        refine lv_icmp_eq (tgt := 60) hx hb dX9_one_43 (by decide) (fun c15 => ?_) (fun c15 => ?_)
        · have g16 := z_f_eq rfl z_l60 c15
          have b17 := Int32.toInt_lt (I11 12 7)
          refine lv_aload_n hx hb dX9_one_60 rfl (lv_at hl 1 rfl) ?_
          refine z_cv hW hS hA (va_runV (As := []) (rest := []) ⟨hx, hb, hml, hown, hts⟩ (sx_X9_step l G ad c I11 ⟨(by show 0 ≤ (I11 12 1).toInt ∧ (I11 12 1).toInt ≤ 500; exact hI11R.1), (by show 0 ≤ (I11 12 5).toInt ∧ (I11 12 5).toInt ≤ 501; exact hI11R.2.1), (by show (-1) ≤ (I11 12 6).toInt ∧ (I11 12 6).toInt ≤ 1000000; exact hI11R.2.2.1), (by show 0 ≤ (I11 12 9).toInt ∧ (I11 12 9).toInt ≤ 500; exact hI11R.2.2.2.1), (by show 0 ≤ (I11 12 13).toInt ∧ (I11 12 13).toInt ≤ 24; exact hI11R.2.2.2.2)⟩   (by show (I11 12 6).toInt ≤ 500; first | omega | decide) _) (cwV 0 hts gX9_one_X9_step rfl rfl rfl hy_X9_step ⟨Nat.le_of_ble_eq_true rfl, Nat.le_of_ble_eq_true rfl⟩) (z_preV (i := 12) hK hW rfl rfl) rfl rfl hl.1 rfl (lv_room (Nat.le_of_ble_eq_true rfl)) dX9_one_61 ⟨Nat.le_of_ble_eq_true rfl, Nat.le_of_ble_eq_true rfl⟩) (fun u1 H locs hp hW hS => ?_)
          obtain ⟨I18, e9, hI18R, hI18T, fI18⟩ := hp
          rw [e9] at hW
          have f19 := z_fr_sub (L := L_X9_one_5) f12 fI18 (by decide)
          have k20 : (I18 12 6).toInt ≤ 501 ∧ ((I18 12 7).toInt = 401 ∨ (I18 12 6).toInt ≤ 500) := hI18T
          refine lv_aload_n hx hb dX9_one_64 rfl (lv_at hl 1 rfl) ?_
          refine lv_iload_n hx hb dX9_one_65 rfl (lv_at hl 2 rfl) ?_
          refine z_ci hW hS hA (va_runV (As := [.int 5]) (rest := []) ⟨hx, hb, hml, hown, hts⟩ (sx_X9_sum_5 l G ad c I18 ⟨(by show 0 ≤ (I18 12 1).toInt ∧ (I18 12 1).toInt ≤ 500; exact hI18R.1), (by show 0 ≤ (I18 12 5).toInt ∧ (I18 12 5).toInt ≤ 501; exact hI18R.2.1), (by show (-1) ≤ (I18 12 6).toInt ∧ (I18 12 6).toInt ≤ 1000000; exact hI18R.2.2.1), (by show 0 ≤ (I18 12 9).toInt ∧ (I18 12 9).toInt ≤ 500; exact hI18R.2.2.2.1), (by show 0 ≤ (I18 12 13).toInt ∧ (I18 12 13).toInt ≤ 24; exact hI18R.2.2.2.2)⟩ (by show (I18 12 6).toInt ≤ 501 ∧ ((I18 12 7).toInt = 401 ∨ (I18 12 6).toInt ≤ 500); first | omega | decide) _) (cwV 1 hts gX9_one_X9_sum rfl rfl rfl hy_X9_sum ⟨Nat.le_of_ble_eq_true rfl, Nat.le_of_ble_eq_true rfl⟩) (z_preV (i := 12) hK hW rfl rfl) rfl rfl hl.1 rfl (lv_room (Nat.le_of_ble_eq_true rfl)) dX9_one_66 ⟨Nat.le_of_ble_eq_true rfl, Nat.le_of_ble_eq_true rfl⟩) (fun r u1 H locs hp hW hS => ?_)
          obtain ⟨I21, e9, hI21R, hI21T, fI21, hp⟩ := hp
          rw [e9] at hW
          have f22 := z_fr_sub (L := L_X9_one_5) f19 fI21 (by decide)
          have k23 : (I21 12 6).toInt ≤ 501 ∧ ((I21 12 7).toInt = 401 ∨ (I21 12 6).toInt ≤ 500) := hI21T
          rcases hp with rfl | rfl
          · refine lv_if_ne (tgt := 74) hx hb dX9_one_69 (by decide) (fun c24 => ?_) (fun c24 => absurd c24 (by decide))
            refine lv_aload_n hx hb dX9_one_74 rfl (lv_at hl 1 rfl) ?_
            refine lv_iload_n hx hb dX9_one_75 rfl (lv_at hl 0 rfl) ?_
            refine lv_bipush (v := 60) hx hb dX9_one_76 (by decide) ?_
            refine lv_icmp_ne (tgt := 86) hx hb dX9_one_78 (by decide) (fun c25 => (by have g := z_f_ne rfl z_l60 c25; omega)) (fun c25 => ?_)
            have g26 := z_f_eq rfl z_l60 c25
            refine lv_bipush (v := (-7)) hx hb dX9_one_81 (by decide) ?_
            refine lv_goto (tgt := 99) hx hb dX9_one_83 (by decide) ?_
            refine z_cv hW hS hA (va_runV (As := [.int (-7)]) (rest := []) ⟨hx, hb, hml, hown, hts⟩ (sx_X9_emit l G ad c I21 ⟨(by show 0 ≤ (I21 12 1).toInt ∧ (I21 12 1).toInt ≤ 500; exact hI21R.1), (by show 0 ≤ (I21 12 5).toInt ∧ (I21 12 5).toInt ≤ 501; exact hI21R.2.1), (by show (-1) ≤ (I21 12 6).toInt ∧ (I21 12 6).toInt ≤ 1000000; exact hI21R.2.2.1), (by show 0 ≤ (I21 12 9).toInt ∧ (I21 12 9).toInt ≤ 500; exact hI21R.2.2.2.1), (by show 0 ≤ (I21 12 13).toInt ∧ (I21 12 13).toInt ≤ 24; exact hI21R.2.2.2.2)⟩ (-7) _) (cwV 1 hts gX9_one_X9_emit rfl rfl rfl hy_X9_emit ⟨Nat.le_of_ble_eq_true rfl, Nat.le_of_ble_eq_true rfl⟩) (z_preV (i := 12) hK hW rfl rfl) rfl rfl hl.1 rfl (lv_room (Nat.le_of_ble_eq_true rfl)) dX9_one_99 ⟨Nat.le_of_ble_eq_true rfl, Nat.le_of_ble_eq_true rfl⟩) (fun u1 H locs hp hW hS => ?_)
            obtain ⟨I27, e9, hI27R, fI27⟩ := hp
            rw [e9] at hW
            have f28 := z_fr_sub (L := L_X9_one_5) f22 fI27 (by decide)
            have k29 : (I27 12 6).toInt ≤ 501 ∧ ((I27 12 7).toInt = 401 ∨ (I27 12 6).toInt ≤ 500) := (by have q0 : (I27 12 6) = (I21 12 6) := (by rw [fI27 12 6 (by decide)]); have q1 : (I27 12 7) = (I21 12 7) := (by rw [fI27 12 7 (by decide)]); show (I27 12 6).toInt ≤ 501 ∧ ((I27 12 7).toInt = 401 ∨ (I27 12 6).toInt ≤ 500); rw [q0, q1]; first | omega | decide)
            have k30 : (I27 12 6).toInt = (I21 12 6).toInt := by rw [fI27 12 6 (by decide)]
            have k31 : (I27 12 7).toInt = (I21 12 7).toInt := by rw [fI27 12 7 (by decide)]
            refine lv_iconst (v := 1) hx hb dX9_one_102 (by decide) ?_
            exact z_zret hx hb hr (by decide) hK hS (Nat.le_of_ble_eq_true rfl) (Nat.le_of_ble_eq_true rfl) hlocks dX9_one_103 (shC c, ad, I27, JX, PC c ad) hW ⟨I27, rfl, ⟨(by show 0 ≤ (I27 12 1).toInt ∧ (I27 12 1).toInt ≤ 500; exact hI27R.1), (by show 0 ≤ (I27 12 5).toInt ∧ (I27 12 5).toInt ≤ 501; exact hI27R.2.1), (by show (-1) ≤ (I27 12 6).toInt ∧ (I27 12 6).toInt ≤ 1000000; exact hI27R.2.2.1), (by show 0 ≤ (I27 12 9).toInt ∧ (I27 12 9).toInt ≤ 500; exact hI27R.2.2.2.1), (by show 0 ≤ (I27 12 13).toInt ∧ (I27 12 13).toInt ≤ 24; exact hI27R.2.2.2.2)⟩, (by show (I27 12 6).toInt ≤ 501 ∧ ((I27 12 7).toInt = 401 ∨ (I27 12 6).toInt ≤ 500); first | omega | decide), f28, Or.inl rfl⟩
          · refine lv_if_ne (tgt := 74) hx hb dX9_one_69 (by decide) (fun c32 => absurd (by decide) c32) (fun c32 => ?_)
            refine lv_iconst (v := 0) hx hb dX9_one_72 (by decide) ?_
            exact z_zret hx hb hr (by decide) hK hS (Nat.le_of_ble_eq_true rfl) (Nat.le_of_ble_eq_true rfl) hlocks dX9_one_73 (shC c, ad, I21, JX, PC c ad) hW ⟨I21, rfl, ⟨(by show 0 ≤ (I21 12 1).toInt ∧ (I21 12 1).toInt ≤ 500; exact hI21R.1), (by show 0 ≤ (I21 12 5).toInt ∧ (I21 12 5).toInt ≤ 501; exact hI21R.2.1), (by show (-1) ≤ (I21 12 6).toInt ∧ (I21 12 6).toInt ≤ 1000000; exact hI21R.2.2.1), (by show 0 ≤ (I21 12 9).toInt ∧ (I21 12 9).toInt ≤ 500; exact hI21R.2.2.2.1), (by show 0 ≤ (I21 12 13).toInt ∧ (I21 12 13).toInt ≤ 24; exact hI21R.2.2.2.2)⟩, (by show (I21 12 6).toInt ≤ 501 ∧ ((I21 12 7).toInt = 401 ∨ (I21 12 6).toInt ≤ 500); first | omega | decide), f22, Or.inr rfl⟩
        · have g33 := z_f_ne rfl z_l60 c15
          have b34 := Int32.toInt_lt (I11 12 7)
          refine lv_iload_n hx hb dX9_one_46 rfl (lv_at hl 0 rfl) ?_
          refine lv_bipush (v := 62) hx hb dX9_one_47 (by decide) ?_
          refine lv_icmp_eq (tgt := 60) hx hb dX9_one_49 (by decide) (fun c35 => ?_) (fun c35 => ?_)
          · have g36 := z_f_eq rfl z_l62 c35
            refine lv_aload_n hx hb dX9_one_60 rfl (lv_at hl 1 rfl) ?_
            refine z_cv hW hS hA (va_runV (As := []) (rest := []) ⟨hx, hb, hml, hown, hts⟩ (sx_X9_step l G ad c I11 ⟨(by show 0 ≤ (I11 12 1).toInt ∧ (I11 12 1).toInt ≤ 500; exact hI11R.1), (by show 0 ≤ (I11 12 5).toInt ∧ (I11 12 5).toInt ≤ 501; exact hI11R.2.1), (by show (-1) ≤ (I11 12 6).toInt ∧ (I11 12 6).toInt ≤ 1000000; exact hI11R.2.2.1), (by show 0 ≤ (I11 12 9).toInt ∧ (I11 12 9).toInt ≤ 500; exact hI11R.2.2.2.1), (by show 0 ≤ (I11 12 13).toInt ∧ (I11 12 13).toInt ≤ 24; exact hI11R.2.2.2.2)⟩   (by show (I11 12 6).toInt ≤ 500; first | omega | decide) _) (cwV 0 hts gX9_one_X9_step rfl rfl rfl hy_X9_step ⟨Nat.le_of_ble_eq_true rfl, Nat.le_of_ble_eq_true rfl⟩) (z_preV (i := 12) hK hW rfl rfl) rfl rfl hl.1 rfl (lv_room (Nat.le_of_ble_eq_true rfl)) dX9_one_61 ⟨Nat.le_of_ble_eq_true rfl, Nat.le_of_ble_eq_true rfl⟩) (fun u1 H locs hp hW hS => ?_)
            obtain ⟨I37, e9, hI37R, hI37T, fI37⟩ := hp
            rw [e9] at hW
            have f38 := z_fr_sub (L := L_X9_one_5) f12 fI37 (by decide)
            have k39 : (I37 12 6).toInt ≤ 501 ∧ ((I37 12 7).toInt = 401 ∨ (I37 12 6).toInt ≤ 500) := hI37T
            refine lv_aload_n hx hb dX9_one_64 rfl (lv_at hl 1 rfl) ?_
            refine lv_iload_n hx hb dX9_one_65 rfl (lv_at hl 2 rfl) ?_
            refine z_ci hW hS hA (va_runV (As := [.int 5]) (rest := []) ⟨hx, hb, hml, hown, hts⟩ (sx_X9_sum_5 l G ad c I37 ⟨(by show 0 ≤ (I37 12 1).toInt ∧ (I37 12 1).toInt ≤ 500; exact hI37R.1), (by show 0 ≤ (I37 12 5).toInt ∧ (I37 12 5).toInt ≤ 501; exact hI37R.2.1), (by show (-1) ≤ (I37 12 6).toInt ∧ (I37 12 6).toInt ≤ 1000000; exact hI37R.2.2.1), (by show 0 ≤ (I37 12 9).toInt ∧ (I37 12 9).toInt ≤ 500; exact hI37R.2.2.2.1), (by show 0 ≤ (I37 12 13).toInt ∧ (I37 12 13).toInt ≤ 24; exact hI37R.2.2.2.2)⟩ (by show (I37 12 6).toInt ≤ 501 ∧ ((I37 12 7).toInt = 401 ∨ (I37 12 6).toInt ≤ 500); first | omega | decide) _) (cwV 1 hts gX9_one_X9_sum rfl rfl rfl hy_X9_sum ⟨Nat.le_of_ble_eq_true rfl, Nat.le_of_ble_eq_true rfl⟩) (z_preV (i := 12) hK hW rfl rfl) rfl rfl hl.1 rfl (lv_room (Nat.le_of_ble_eq_true rfl)) dX9_one_66 ⟨Nat.le_of_ble_eq_true rfl, Nat.le_of_ble_eq_true rfl⟩) (fun r u1 H locs hp hW hS => ?_)
            obtain ⟨I40, e9, hI40R, hI40T, fI40, hp⟩ := hp
            rw [e9] at hW
            have f41 := z_fr_sub (L := L_X9_one_5) f38 fI40 (by decide)
            have k42 : (I40 12 6).toInt ≤ 501 ∧ ((I40 12 7).toInt = 401 ∨ (I40 12 6).toInt ≤ 500) := hI40T
            rcases hp with rfl | rfl
            · refine lv_if_ne (tgt := 74) hx hb dX9_one_69 (by decide) (fun c43 => ?_) (fun c43 => absurd c43 (by decide))
              refine lv_aload_n hx hb dX9_one_74 rfl (lv_at hl 1 rfl) ?_
              refine lv_iload_n hx hb dX9_one_75 rfl (lv_at hl 0 rfl) ?_
              refine lv_bipush (v := 60) hx hb dX9_one_76 (by decide) ?_
              refine lv_icmp_ne (tgt := 86) hx hb dX9_one_78 (by decide) (fun c44 => ?_) (fun c44 => (by have g := z_f_eq rfl z_l60 c44; omega))
              have g45 := z_f_ne rfl z_l60 c44
              refine lv_iload_n hx hb dX9_one_86 rfl (lv_at hl 0 rfl) ?_
              refine lv_bipush (v := 62) hx hb dX9_one_87 (by decide) ?_
              refine lv_icmp_ne (tgt := 97) hx hb dX9_one_89 (by decide) (fun c46 => (by have g := z_f_ne rfl z_l62 c46; omega)) (fun c46 => ?_)
              have g47 := z_f_eq rfl z_l62 c46
              refine lv_bipush (v := (-8)) hx hb dX9_one_92 (by decide) ?_
              refine lv_goto (tgt := 99) hx hb dX9_one_94 (by decide) ?_
              refine z_cv hW hS hA (va_runV (As := [.int (-8)]) (rest := []) ⟨hx, hb, hml, hown, hts⟩ (sx_X9_emit l G ad c I40 ⟨(by show 0 ≤ (I40 12 1).toInt ∧ (I40 12 1).toInt ≤ 500; exact hI40R.1), (by show 0 ≤ (I40 12 5).toInt ∧ (I40 12 5).toInt ≤ 501; exact hI40R.2.1), (by show (-1) ≤ (I40 12 6).toInt ∧ (I40 12 6).toInt ≤ 1000000; exact hI40R.2.2.1), (by show 0 ≤ (I40 12 9).toInt ∧ (I40 12 9).toInt ≤ 500; exact hI40R.2.2.2.1), (by show 0 ≤ (I40 12 13).toInt ∧ (I40 12 13).toInt ≤ 24; exact hI40R.2.2.2.2)⟩ (-8) _) (cwV 1 hts gX9_one_X9_emit rfl rfl rfl hy_X9_emit ⟨Nat.le_of_ble_eq_true rfl, Nat.le_of_ble_eq_true rfl⟩) (z_preV (i := 12) hK hW rfl rfl) rfl rfl hl.1 rfl (lv_room (Nat.le_of_ble_eq_true rfl)) dX9_one_99 ⟨Nat.le_of_ble_eq_true rfl, Nat.le_of_ble_eq_true rfl⟩) (fun u1 H locs hp hW hS => ?_)
              obtain ⟨I48, e9, hI48R, fI48⟩ := hp
              rw [e9] at hW
              have f49 := z_fr_sub (L := L_X9_one_5) f41 fI48 (by decide)
              have k50 : (I48 12 6).toInt ≤ 501 ∧ ((I48 12 7).toInt = 401 ∨ (I48 12 6).toInt ≤ 500) := (by have q0 : (I48 12 6) = (I40 12 6) := (by rw [fI48 12 6 (by decide)]); have q1 : (I48 12 7) = (I40 12 7) := (by rw [fI48 12 7 (by decide)]); show (I48 12 6).toInt ≤ 501 ∧ ((I48 12 7).toInt = 401 ∨ (I48 12 6).toInt ≤ 500); rw [q0, q1]; first | omega | decide)
              have k51 : (I48 12 6).toInt = (I40 12 6).toInt := by rw [fI48 12 6 (by decide)]
              have k52 : (I48 12 7).toInt = (I40 12 7).toInt := by rw [fI48 12 7 (by decide)]
              refine lv_iconst (v := 1) hx hb dX9_one_102 (by decide) ?_
              exact z_zret hx hb hr (by decide) hK hS (Nat.le_of_ble_eq_true rfl) (Nat.le_of_ble_eq_true rfl) hlocks dX9_one_103 (shC c, ad, I48, JX, PC c ad) hW ⟨I48, rfl, ⟨(by show 0 ≤ (I48 12 1).toInt ∧ (I48 12 1).toInt ≤ 500; exact hI48R.1), (by show 0 ≤ (I48 12 5).toInt ∧ (I48 12 5).toInt ≤ 501; exact hI48R.2.1), (by show (-1) ≤ (I48 12 6).toInt ∧ (I48 12 6).toInt ≤ 1000000; exact hI48R.2.2.1), (by show 0 ≤ (I48 12 9).toInt ∧ (I48 12 9).toInt ≤ 500; exact hI48R.2.2.2.1), (by show 0 ≤ (I48 12 13).toInt ∧ (I48 12 13).toInt ≤ 24; exact hI48R.2.2.2.2)⟩, (by show (I48 12 6).toInt ≤ 501 ∧ ((I48 12 7).toInt = 401 ∨ (I48 12 6).toInt ≤ 500); first | omega | decide), f49, Or.inl rfl⟩
            · refine lv_if_ne (tgt := 74) hx hb dX9_one_69 (by decide) (fun c53 => absurd (by decide) c53) (fun c53 => ?_)
              refine lv_iconst (v := 0) hx hb dX9_one_72 (by decide) ?_
              exact z_zret hx hb hr (by decide) hK hS (Nat.le_of_ble_eq_true rfl) (Nat.le_of_ble_eq_true rfl) hlocks dX9_one_73 (shC c, ad, I40, JX, PC c ad) hW ⟨I40, rfl, ⟨(by show 0 ≤ (I40 12 1).toInt ∧ (I40 12 1).toInt ≤ 500; exact hI40R.1), (by show 0 ≤ (I40 12 5).toInt ∧ (I40 12 5).toInt ≤ 501; exact hI40R.2.1), (by show (-1) ≤ (I40 12 6).toInt ∧ (I40 12 6).toInt ≤ 1000000; exact hI40R.2.2.1), (by show 0 ≤ (I40 12 9).toInt ∧ (I40 12 9).toInt ≤ 500; exact hI40R.2.2.2.1), (by show 0 ≤ (I40 12 13).toInt ∧ (I40 12 13).toInt ≤ 24; exact hI40R.2.2.2.2)⟩, (by show (I40 12 6).toInt ≤ 501 ∧ ((I40 12 7).toInt = 401 ∨ (I40 12 6).toInt ≤ 500); first | omega | decide), f41, Or.inr rfl⟩
          · have g54 := z_f_ne rfl z_l62 c35
            refine lv_iload_n hx hb dX9_one_52 rfl (lv_at hl 0 rfl) ?_
            refine lv_bipush (v := 61) hx hb dX9_one_53 (by decide) ?_
            refine lv_icmp_eq (tgt := 60) hx hb dX9_one_55 (by decide) (fun c55 => ?_) (fun c55 => ?_)
            · have g56 := z_f_eq rfl z_l61 c55
              refine lv_aload_n hx hb dX9_one_60 rfl (lv_at hl 1 rfl) ?_
              refine z_cv hW hS hA (va_runV (As := []) (rest := []) ⟨hx, hb, hml, hown, hts⟩ (sx_X9_step l G ad c I11 ⟨(by show 0 ≤ (I11 12 1).toInt ∧ (I11 12 1).toInt ≤ 500; exact hI11R.1), (by show 0 ≤ (I11 12 5).toInt ∧ (I11 12 5).toInt ≤ 501; exact hI11R.2.1), (by show (-1) ≤ (I11 12 6).toInt ∧ (I11 12 6).toInt ≤ 1000000; exact hI11R.2.2.1), (by show 0 ≤ (I11 12 9).toInt ∧ (I11 12 9).toInt ≤ 500; exact hI11R.2.2.2.1), (by show 0 ≤ (I11 12 13).toInt ∧ (I11 12 13).toInt ≤ 24; exact hI11R.2.2.2.2)⟩   (by show (I11 12 6).toInt ≤ 500; first | omega | decide) _) (cwV 0 hts gX9_one_X9_step rfl rfl rfl hy_X9_step ⟨Nat.le_of_ble_eq_true rfl, Nat.le_of_ble_eq_true rfl⟩) (z_preV (i := 12) hK hW rfl rfl) rfl rfl hl.1 rfl (lv_room (Nat.le_of_ble_eq_true rfl)) dX9_one_61 ⟨Nat.le_of_ble_eq_true rfl, Nat.le_of_ble_eq_true rfl⟩) (fun u1 H locs hp hW hS => ?_)
              obtain ⟨I57, e9, hI57R, hI57T, fI57⟩ := hp
              rw [e9] at hW
              have f58 := z_fr_sub (L := L_X9_one_5) f12 fI57 (by decide)
              have k59 : (I57 12 6).toInt ≤ 501 ∧ ((I57 12 7).toInt = 401 ∨ (I57 12 6).toInt ≤ 500) := hI57T
              refine lv_aload_n hx hb dX9_one_64 rfl (lv_at hl 1 rfl) ?_
              refine lv_iload_n hx hb dX9_one_65 rfl (lv_at hl 2 rfl) ?_
              refine z_ci hW hS hA (va_runV (As := [.int 5]) (rest := []) ⟨hx, hb, hml, hown, hts⟩ (sx_X9_sum_5 l G ad c I57 ⟨(by show 0 ≤ (I57 12 1).toInt ∧ (I57 12 1).toInt ≤ 500; exact hI57R.1), (by show 0 ≤ (I57 12 5).toInt ∧ (I57 12 5).toInt ≤ 501; exact hI57R.2.1), (by show (-1) ≤ (I57 12 6).toInt ∧ (I57 12 6).toInt ≤ 1000000; exact hI57R.2.2.1), (by show 0 ≤ (I57 12 9).toInt ∧ (I57 12 9).toInt ≤ 500; exact hI57R.2.2.2.1), (by show 0 ≤ (I57 12 13).toInt ∧ (I57 12 13).toInt ≤ 24; exact hI57R.2.2.2.2)⟩ (by show (I57 12 6).toInt ≤ 501 ∧ ((I57 12 7).toInt = 401 ∨ (I57 12 6).toInt ≤ 500); first | omega | decide) _) (cwV 1 hts gX9_one_X9_sum rfl rfl rfl hy_X9_sum ⟨Nat.le_of_ble_eq_true rfl, Nat.le_of_ble_eq_true rfl⟩) (z_preV (i := 12) hK hW rfl rfl) rfl rfl hl.1 rfl (lv_room (Nat.le_of_ble_eq_true rfl)) dX9_one_66 ⟨Nat.le_of_ble_eq_true rfl, Nat.le_of_ble_eq_true rfl⟩) (fun r u1 H locs hp hW hS => ?_)
              obtain ⟨I60, e9, hI60R, hI60T, fI60, hp⟩ := hp
              rw [e9] at hW
              have f61 := z_fr_sub (L := L_X9_one_5) f58 fI60 (by decide)
              have k62 : (I60 12 6).toInt ≤ 501 ∧ ((I60 12 7).toInt = 401 ∨ (I60 12 6).toInt ≤ 500) := hI60T
              rcases hp with rfl | rfl
              · refine lv_if_ne (tgt := 74) hx hb dX9_one_69 (by decide) (fun c63 => ?_) (fun c63 => absurd c63 (by decide))
                refine lv_aload_n hx hb dX9_one_74 rfl (lv_at hl 1 rfl) ?_
                refine lv_iload_n hx hb dX9_one_75 rfl (lv_at hl 0 rfl) ?_
                refine lv_bipush (v := 60) hx hb dX9_one_76 (by decide) ?_
                refine lv_icmp_ne (tgt := 86) hx hb dX9_one_78 (by decide) (fun c64 => ?_) (fun c64 => (by have g := z_f_eq rfl z_l60 c64; omega))
                have g65 := z_f_ne rfl z_l60 c64
                refine lv_iload_n hx hb dX9_one_86 rfl (lv_at hl 0 rfl) ?_
                refine lv_bipush (v := 62) hx hb dX9_one_87 (by decide) ?_
                refine lv_icmp_ne (tgt := 97) hx hb dX9_one_89 (by decide) (fun c66 => ?_) (fun c66 => (by have g := z_f_eq rfl z_l62 c66; omega))
                have g67 := z_f_ne rfl z_l62 c66
                refine lv_bipush (v := (-9)) hx hb dX9_one_97 (by decide) ?_
                refine z_cv hW hS hA (va_runV (As := [.int (-9)]) (rest := []) ⟨hx, hb, hml, hown, hts⟩ (sx_X9_emit l G ad c I60 ⟨(by show 0 ≤ (I60 12 1).toInt ∧ (I60 12 1).toInt ≤ 500; exact hI60R.1), (by show 0 ≤ (I60 12 5).toInt ∧ (I60 12 5).toInt ≤ 501; exact hI60R.2.1), (by show (-1) ≤ (I60 12 6).toInt ∧ (I60 12 6).toInt ≤ 1000000; exact hI60R.2.2.1), (by show 0 ≤ (I60 12 9).toInt ∧ (I60 12 9).toInt ≤ 500; exact hI60R.2.2.2.1), (by show 0 ≤ (I60 12 13).toInt ∧ (I60 12 13).toInt ≤ 24; exact hI60R.2.2.2.2)⟩ (-9) _) (cwV 1 hts gX9_one_X9_emit rfl rfl rfl hy_X9_emit ⟨Nat.le_of_ble_eq_true rfl, Nat.le_of_ble_eq_true rfl⟩) (z_preV (i := 12) hK hW rfl rfl) rfl rfl hl.1 rfl (lv_room (Nat.le_of_ble_eq_true rfl)) dX9_one_99 ⟨Nat.le_of_ble_eq_true rfl, Nat.le_of_ble_eq_true rfl⟩) (fun u1 H locs hp hW hS => ?_)
                obtain ⟨I68, e9, hI68R, fI68⟩ := hp
                rw [e9] at hW
                have f69 := z_fr_sub (L := L_X9_one_5) f61 fI68 (by decide)
                have k70 : (I68 12 6).toInt ≤ 501 ∧ ((I68 12 7).toInt = 401 ∨ (I68 12 6).toInt ≤ 500) := (by have q0 : (I68 12 6) = (I60 12 6) := (by rw [fI68 12 6 (by decide)]); have q1 : (I68 12 7) = (I60 12 7) := (by rw [fI68 12 7 (by decide)]); show (I68 12 6).toInt ≤ 501 ∧ ((I68 12 7).toInt = 401 ∨ (I68 12 6).toInt ≤ 500); rw [q0, q1]; first | omega | decide)
                have k71 : (I68 12 6).toInt = (I60 12 6).toInt := by rw [fI68 12 6 (by decide)]
                have k72 : (I68 12 7).toInt = (I60 12 7).toInt := by rw [fI68 12 7 (by decide)]
                refine lv_iconst (v := 1) hx hb dX9_one_102 (by decide) ?_
                exact z_zret hx hb hr (by decide) hK hS (Nat.le_of_ble_eq_true rfl) (Nat.le_of_ble_eq_true rfl) hlocks dX9_one_103 (shC c, ad, I68, JX, PC c ad) hW ⟨I68, rfl, ⟨(by show 0 ≤ (I68 12 1).toInt ∧ (I68 12 1).toInt ≤ 500; exact hI68R.1), (by show 0 ≤ (I68 12 5).toInt ∧ (I68 12 5).toInt ≤ 501; exact hI68R.2.1), (by show (-1) ≤ (I68 12 6).toInt ∧ (I68 12 6).toInt ≤ 1000000; exact hI68R.2.2.1), (by show 0 ≤ (I68 12 9).toInt ∧ (I68 12 9).toInt ≤ 500; exact hI68R.2.2.2.1), (by show 0 ≤ (I68 12 13).toInt ∧ (I68 12 13).toInt ≤ 24; exact hI68R.2.2.2.2)⟩, (by show (I68 12 6).toInt ≤ 501 ∧ ((I68 12 7).toInt = 401 ∨ (I68 12 6).toInt ≤ 500); first | omega | decide), f69, Or.inl rfl⟩
              · refine lv_if_ne (tgt := 74) hx hb dX9_one_69 (by decide) (fun c73 => absurd (by decide) c73) (fun c73 => ?_)
                refine lv_iconst (v := 0) hx hb dX9_one_72 (by decide) ?_
                exact z_zret hx hb hr (by decide) hK hS (Nat.le_of_ble_eq_true rfl) (Nat.le_of_ble_eq_true rfl) hlocks dX9_one_73 (shC c, ad, I60, JX, PC c ad) hW ⟨I60, rfl, ⟨(by show 0 ≤ (I60 12 1).toInt ∧ (I60 12 1).toInt ≤ 500; exact hI60R.1), (by show 0 ≤ (I60 12 5).toInt ∧ (I60 12 5).toInt ≤ 501; exact hI60R.2.1), (by show (-1) ≤ (I60 12 6).toInt ∧ (I60 12 6).toInt ≤ 1000000; exact hI60R.2.2.1), (by show 0 ≤ (I60 12 9).toInt ∧ (I60 12 9).toInt ≤ 500; exact hI60R.2.2.2.1), (by show 0 ≤ (I60 12 13).toInt ∧ (I60 12 13).toInt ≤ 24; exact hI60R.2.2.2.2)⟩, (by show (I60 12 6).toInt ≤ 501 ∧ ((I60 12 7).toInt = 401 ∨ (I60 12 6).toInt ≤ 500); first | omega | decide), f61, Or.inr rfl⟩
            · have g74 := z_f_ne rfl z_l61 c55
              refine lv_iconst (v := 0) hx hb dX9_one_58 (by decide) ?_
              exact z_zret hx hb hr (by decide) hK hS (Nat.le_of_ble_eq_true rfl) (Nat.le_of_ble_eq_true rfl) hlocks dX9_one_59 (shC c, ad, I11, JX, PC c ad) hW ⟨I11, rfl, ⟨(by show 0 ≤ (I11 12 1).toInt ∧ (I11 12 1).toInt ≤ 500; exact hI11R.1), (by show 0 ≤ (I11 12 5).toInt ∧ (I11 12 5).toInt ≤ 501; exact hI11R.2.1), (by show (-1) ≤ (I11 12 6).toInt ∧ (I11 12 6).toInt ≤ 1000000; exact hI11R.2.2.1), (by show 0 ≤ (I11 12 9).toInt ∧ (I11 12 9).toInt ≤ 500; exact hI11R.2.2.2.1), (by show 0 ≤ (I11 12 13).toInt ∧ (I11 12 13).toInt ≤ 24; exact hI11R.2.2.2.2)⟩, (by show (I11 12 6).toInt ≤ 501 ∧ ((I11 12 7).toInt = 401 ∨ (I11 12 6).toInt ≤ 500); first | omega | decide), f12, Or.inr rfl⟩
      · refine lv_if_ne (tgt := 35) hx hb dX9_one_30 (by decide) (fun c75 => absurd (by decide) c75) (fun c75 => ?_)
        refine lv_iconst (v := 0) hx hb dX9_one_33 (by decide) ?_
        exact z_zret hx hb hr (by decide) hK hS (Nat.le_of_ble_eq_true rfl) (Nat.le_of_ble_eq_true rfl) hlocks dX9_one_34 (shC c, ad, I11, JX, PC c ad) hW ⟨I11, rfl, ⟨(by show 0 ≤ (I11 12 1).toInt ∧ (I11 12 1).toInt ≤ 500; exact hI11R.1), (by show 0 ≤ (I11 12 5).toInt ∧ (I11 12 5).toInt ≤ 501; exact hI11R.2.1), (by show (-1) ≤ (I11 12 6).toInt ∧ (I11 12 6).toInt ≤ 1000000; exact hI11R.2.2.1), (by show 0 ≤ (I11 12 9).toInt ∧ (I11 12 9).toInt ≤ 500; exact hI11R.2.2.2.1), (by show 0 ≤ (I11 12 13).toInt ∧ (I11 12 13).toInt ≤ 24; exact hI11R.2.2.2.2)⟩, (by show (I11 12 6).toInt ≤ 501 ∧ ((I11 12 7).toInt = 401 ∨ (I11 12 6).toInt ≤ 500); first | omega | decide), f12, Or.inr rfl⟩
    · have g76 := z_f_eq rfl z_l123 c9
      refine lv_aload_n hx hb dX9_one_19 rfl (lv_at hl 0 rfl) ?_
      refine lv_iload_n hx hb dX9_one_20 rfl (lv_at hl 1 rfl) ?_
      refine z_ci hW hS hA (va_runV (As := [.int 5]) (rest := []) ⟨hx, hb, hml, hown, hts⟩ (sx_X9_opened_5 l G ad c I ⟨(by show 0 ≤ (I 12 1).toInt ∧ (I 12 1).toInt ≤ 500; exact hR.1), (by show 0 ≤ (I 12 5).toInt ∧ (I 12 5).toInt ≤ 501; exact hR.2.1), (by show (-1) ≤ (I 12 6).toInt ∧ (I 12 6).toInt ≤ 1000000; exact hR.2.2.1), (by show 0 ≤ (I 12 9).toInt ∧ (I 12 9).toInt ≤ 500; exact hR.2.2.2.1), (by show 0 ≤ (I 12 13).toInt ∧ (I 12 13).toInt ≤ 24; exact hR.2.2.2.2)⟩ (by show (I 12 6).toInt ≤ 501 ∧ ((I 12 7).toInt = 401 ∨ (I 12 6).toInt ≤ 500); first | omega | decide) (by show (I 12 6).toInt ≤ 500; first | omega | decide) _) (cwV 1 hts gX9_one_X9_opened rfl rfl rfl hy_X9_opened ⟨Nat.le_of_ble_eq_true rfl, Nat.le_of_ble_eq_true rfl⟩) (z_preV (i := 12) hK hW rfl rfl) rfl rfl hl.1 rfl (lv_room (Nat.le_of_ble_eq_true rfl)) dX9_one_21 ⟨Nat.le_of_ble_eq_true rfl, Nat.le_of_ble_eq_true rfl⟩) (fun r u1 H locs hp hW hS => ?_)
      obtain ⟨I77, e9, hI77R, hI77T, fI77, hp⟩ := hp
      rw [e9] at hW
      have f78 := z_fr_sub (L := L_X9_one_5) z_fr_0 fI77 (by decide)
      have k79 : (I77 12 6).toInt ≤ 501 ∧ ((I77 12 7).toInt = 401 ∨ (I77 12 6).toInt ≤ 500) := hI77T
      rcases hp with rfl | rfl
      · exact z_zret hx hb hr (by decide) hK hS (Nat.le_of_ble_eq_true rfl) (Nat.le_of_ble_eq_true rfl) hlocks dX9_one_24 (shC c, ad, I77, JX, PC c ad) hW ⟨I77, rfl, ⟨(by show 0 ≤ (I77 12 1).toInt ∧ (I77 12 1).toInt ≤ 500; exact hI77R.1), (by show 0 ≤ (I77 12 5).toInt ∧ (I77 12 5).toInt ≤ 501; exact hI77R.2.1), (by show (-1) ≤ (I77 12 6).toInt ∧ (I77 12 6).toInt ≤ 1000000; exact hI77R.2.2.1), (by show 0 ≤ (I77 12 9).toInt ∧ (I77 12 9).toInt ≤ 500; exact hI77R.2.2.2.1), (by show 0 ≤ (I77 12 13).toInt ∧ (I77 12 13).toInt ≤ 24; exact hI77R.2.2.2.2)⟩, (by show (I77 12 6).toInt ≤ 501 ∧ ((I77 12 7).toInt = 401 ∨ (I77 12 6).toInt ≤ 500); first | omega | decide), f78, Or.inl rfl⟩
      · exact z_zret hx hb hr (by decide) hK hS (Nat.le_of_ble_eq_true rfl) (Nat.le_of_ble_eq_true rfl) hlocks dX9_one_24 (shC c, ad, I77, JX, PC c ad) hW ⟨I77, rfl, ⟨(by show 0 ≤ (I77 12 1).toInt ∧ (I77 12 1).toInt ≤ 500; exact hI77R.1), (by show 0 ≤ (I77 12 5).toInt ∧ (I77 12 5).toInt ≤ 501; exact hI77R.2.1), (by show (-1) ≤ (I77 12 6).toInt ∧ (I77 12 6).toInt ≤ 1000000; exact hI77R.2.2.1), (by show 0 ≤ (I77 12 9).toInt ∧ (I77 12 9).toInt ≤ 500; exact hI77R.2.2.2.1), (by show 0 ≤ (I77 12 13).toInt ∧ (I77 12 13).toInt ≤ 24; exact hI77R.2.2.2.2)⟩, (by show (I77 12 6).toInt ≤ 501 ∧ ((I77 12 7).toInt = 401 ∨ (I77 12 6).toInt ≤ 500); first | omega | decide), f78, Or.inr rfl⟩
noncomputable def L_X9_all_5 : z_L := [(12, 6), (12, 7), (17, 999), (12, 9)]
set_option maxHeartbeats 8000000 in
set_option maxRecDepth 100000 in
theorem sx_X9_all_5 (l : Launch) (G : z_G) (ad : Nat → Nat) (c : z_C) (I : z_I) (hR : z_iR I) (hT : z_iT I) : z_M l yX9_all wsX9_all { frames := 23, cells := 0, slots := 0, locals := 495 } [.ref (ad 12), .int 5] G (shC c, ad, I, JX, PC c ad) (fun r u1 => ∃ I1 : z_I, u1 = (shC c, ad, I1, JX, PC c ad) ∧ z_iR I1 ∧ z_iT I1 ∧ z_fr L_X9_all_5 I1 I ∧ (r = 1 ∨ r = 0)) 0 0 := by
  intro sz
  refine z_headQ (cc := cX9_all) (maxL := 3) (ret := (some .boolean)) (by decide) rfl (Nat.le_of_ble_eq_true rfl) ?_
  intro p e s m below meth c0 ls hIn hK hsz hW hl
  obtain ⟨hx, hb, hr, hml, hown, hts, hlocks, hname⟩ := hIn
  subst hsz
  have hown : s.vm.findClass RX9 = some m.cls := hown
  have hA : ∀ q : Nat, s.heap.size ≤ q → z_A (shC c, ad, I, JX, PC c ad) s.heap.size q := fun q h => Or.inr h
  generalize hAe : z_A (shC c, ad, I, JX, PC c ad) s.heap.size = A at *
  have hS : va_S A s.heap s.heap [] := va_S.rf
  have hl : lv_has ls 3 [(0, .ref (ad 12)), (1, .int 5)] := hl
  have kT : (I 12 6).toInt ≤ 501 ∧ ((I 12 7).toInt = 401 ∨ (I 12 6).toInt ≤ 500) := hT
  refine lv_aload_n hx hb dX9_all_0 rfl (lv_at hl 0 rfl) ?_
  refine lv_iload_n hx hb dX9_all_1 rfl (lv_at hl 1 rfl) ?_
  refine z_ci hW hS hA (va_runV (As := [.int 5]) (rest := []) ⟨hx, hb, hml, hown, hts⟩ (sx_X9_one_5 l G ad c I ⟨(by show 0 ≤ (I 12 1).toInt ∧ (I 12 1).toInt ≤ 500; exact hR.1), (by show 0 ≤ (I 12 5).toInt ∧ (I 12 5).toInt ≤ 501; exact hR.2.1), (by show (-1) ≤ (I 12 6).toInt ∧ (I 12 6).toInt ≤ 1000000; exact hR.2.2.1), (by show 0 ≤ (I 12 9).toInt ∧ (I 12 9).toInt ≤ 500; exact hR.2.2.2.1), (by show 0 ≤ (I 12 13).toInt ∧ (I 12 13).toInt ≤ 24; exact hR.2.2.2.2)⟩ (by show (I 12 6).toInt ≤ 501 ∧ ((I 12 7).toInt = 401 ∨ (I 12 6).toInt ≤ 500); first | omega | decide) _) (cwV 1 hts gX9_all_X9_one rfl rfl rfl hy_X9_one ⟨Nat.le_of_ble_eq_true rfl, Nat.le_of_ble_eq_true rfl⟩) (z_preV (i := 12) hK hW rfl rfl) rfl rfl hl.1 rfl (lv_room (Nat.le_of_ble_eq_true rfl)) dX9_all_2 ⟨Nat.le_of_ble_eq_true rfl, Nat.le_of_ble_eq_true rfl⟩) (fun r u1 H locs hp hW hS => ?_)
  obtain ⟨I1, e9, hI1R, hI1T, fI1, hp⟩ := hp
  rw [e9] at hW
  have f2 := z_fr_sub (L := L_X9_all_5) z_fr_0 fI1 (by decide)
  have k3 : (I1 12 6).toInt ≤ 501 ∧ ((I1 12 7).toInt = 401 ∨ (I1 12 6).toInt ≤ 500) := hI1T
  rcases hp with rfl | rfl
  · refine lv_if_ne (tgt := 10) hx hb dX9_all_5 (by decide) (fun c4 => ?_) (fun c4 => absurd c4 (by decide))
    refine lv_iconst (v := 0) hx hb dX9_all_10 (by decide) ?_
    refine lv_istore_n (lv' := [(2, .int 0), (0, .ref (ad 12)), (1, .int 5)]) hx hb dX9_all_11 rfl hl (by decide) rfl (fun ls hl => ?_)
    have lp5 : ∀ (f : Nat) (y6 : Int32) (I7 : z_I) (H : Heap) (locs : List Loc) (ls : Array Slot), (2147483647 < y6.toInt + (f : Int)) → (0 ≤ y6.toInt) → (z_iR I7) → (z_iT I7) → (z_fr L_X9_all_5 I7 I) → z_W G A (shC c, ad, I7, JX, PC c ad) H → va_S A s.heap H locs → lv_has ls 3 [(2, .int y6), (0, .ref (ad 12)), (1, .int 5)] → W p l e (headSpec wsX9_all { frames := 23, cells := 0, slots := 0, locals := 495 }).room s m ([.ref (ad 12), .int 5] : List Value).toArray below meth c0 H locs 0 0 (MQ below (va_Qi (fun (r : Int32) (u1 : z_U) => ∃ I1 : z_I, u1 = (shC c, ad, I1, JX, PC c ad) ∧ z_iR I1 ∧ z_iT I1 ∧ z_fr L_X9_all_5 I1 I ∧ (r = 1 ∨ r = 0)) (z_B G A) A) ([.ref (ad 12), .int 5] : List Value).toArray s 0 0 A) (F0 m 12 ls []) := by
      intro f
      induction f with
      | zero => intro y6 I7  H locs ls lp5m lp5l2 lp5R lp5T lp5fr hW hS hl; exact absurd lp5m (by have := Int32.toInt_lt y6; have := Int32.le_toInt y6; omega)
      | succ f lp5ih =>
        intro y6 I7  H locs ls lp5m lp5l2 lp5R lp5T lp5fr hW hS hl
        have k8 : (I7 12 6).toInt ≤ 501 ∧ ((I7 12 7).toInt = 401 ∨ (I7 12 6).toInt ≤ 500) := lp5T
        refine lv_iload_n hx hb dX9_all_12 rfl (lv_at hl 0 rfl) ?_
        refine lv_sipush (v := 500) hx hb dX9_all_13 (by decide) ?_
        refine lv_icmp_ge (tgt := 55) hx hb dX9_all_16 (by decide) (fun c9 => ?_) (fun c9 => ?_)
        · have g10 := z_f_ge rfl z_l500 c9
          have b11 := Int32.toInt_lt y6
          refine lv_iconst (v := 1) hx hb dX9_all_55 (by decide) ?_
          exact z_zret hx hb hr (by decide) hK hS (Nat.le_of_ble_eq_true rfl) (Nat.le_of_ble_eq_true rfl) hlocks dX9_all_56 (shC c, ad, I7, JX, PC c ad) hW ⟨I7, rfl, ⟨(by show 0 ≤ (I7 12 1).toInt ∧ (I7 12 1).toInt ≤ 500; exact lp5R.1), (by show 0 ≤ (I7 12 5).toInt ∧ (I7 12 5).toInt ≤ 501; exact lp5R.2.1), (by show (-1) ≤ (I7 12 6).toInt ∧ (I7 12 6).toInt ≤ 1000000; exact lp5R.2.2.1), (by show 0 ≤ (I7 12 9).toInt ∧ (I7 12 9).toInt ≤ 500; exact lp5R.2.2.2.1), (by show 0 ≤ (I7 12 13).toInt ∧ (I7 12 13).toInt ≤ 24; exact lp5R.2.2.2.2)⟩, (by show (I7 12 6).toInt ≤ 501 ∧ ((I7 12 7).toInt = 401 ∨ (I7 12 6).toInt ≤ 500); first | omega | decide), lp5fr, Or.inl rfl⟩
        · have g12 := z_f_nge rfl z_l500 c9
          have b13 := Int32.toInt_lt y6
          refine lv_aload_n hx hb dX9_all_19 rfl (lv_at hl 1 rfl) ?_
          refine z_get (T := TX9) (N := 14) (ci := 9) (i := 12) (v := .int (I7 12 7)) hx hb hts zj_X9_all_X9 hown hK hW rfl rfl 7 (by decide) (hts (.fieldLink RX9 62 "PetrolBoard$Reader" "token" "I") (me_s (me_l (me_l (List.mem_of_getElem? (i := 0) rfl))))) (fun _ h => h) rfl dX9_all_20 ?_
          refine lv_sipush (v := 310) hx hb dX9_all_23 (by decide) ?_
          refine lv_icmp_ne (tgt := 55) hx hb dX9_all_26 (by decide) (fun c14 => ?_) (fun c14 => ?_)
          · have g15 := z_f_ne rfl z_l310 c14
            have b16 := Int32.toInt_lt (I7 12 7)
            refine lv_iconst (v := 1) hx hb dX9_all_55 (by decide) ?_
            exact z_zret hx hb hr (by decide) hK hS (Nat.le_of_ble_eq_true rfl) (Nat.le_of_ble_eq_true rfl) hlocks dX9_all_56 (shC c, ad, I7, JX, PC c ad) hW ⟨I7, rfl, ⟨(by show 0 ≤ (I7 12 1).toInt ∧ (I7 12 1).toInt ≤ 500; exact lp5R.1), (by show 0 ≤ (I7 12 5).toInt ∧ (I7 12 5).toInt ≤ 501; exact lp5R.2.1), (by show (-1) ≤ (I7 12 6).toInt ∧ (I7 12 6).toInt ≤ 1000000; exact lp5R.2.2.1), (by show 0 ≤ (I7 12 9).toInt ∧ (I7 12 9).toInt ≤ 500; exact lp5R.2.2.2.1), (by show 0 ≤ (I7 12 13).toInt ∧ (I7 12 13).toInt ≤ 24; exact lp5R.2.2.2.2)⟩, (by show (I7 12 6).toInt ≤ 501 ∧ ((I7 12 7).toInt = 401 ∨ (I7 12 6).toInt ≤ 500); first | omega | decide), lp5fr, Or.inl rfl⟩
          · have g17 := z_f_eq rfl z_l310 c14
            have b18 := Int32.toInt_lt (I7 12 7)
            refine lv_aload_n hx hb dX9_all_29 rfl (lv_at hl 1 rfl) ?_
            refine z_cv hW hS hA (va_runV (As := []) (rest := []) ⟨hx, hb, hml, hown, hts⟩ (sx_X9_step l G ad c I7 ⟨(by show 0 ≤ (I7 12 1).toInt ∧ (I7 12 1).toInt ≤ 500; exact lp5R.1), (by show 0 ≤ (I7 12 5).toInt ∧ (I7 12 5).toInt ≤ 501; exact lp5R.2.1), (by show (-1) ≤ (I7 12 6).toInt ∧ (I7 12 6).toInt ≤ 1000000; exact lp5R.2.2.1), (by show 0 ≤ (I7 12 9).toInt ∧ (I7 12 9).toInt ≤ 500; exact lp5R.2.2.2.1), (by show 0 ≤ (I7 12 13).toInt ∧ (I7 12 13).toInt ≤ 24; exact lp5R.2.2.2.2)⟩   (by show (I7 12 6).toInt ≤ 500; first | omega | decide) _) (cwV 0 hts gX9_all_X9_step rfl rfl rfl hy_X9_step ⟨Nat.le_of_ble_eq_true rfl, Nat.le_of_ble_eq_true rfl⟩) (z_preV (i := 12) hK hW rfl rfl) rfl rfl hl.1 rfl (lv_room (Nat.le_of_ble_eq_true rfl)) dX9_all_30 ⟨Nat.le_of_ble_eq_true rfl, Nat.le_of_ble_eq_true rfl⟩) (fun u1 H locs hp hW hS => ?_)
            obtain ⟨I19, e9, hI19R, hI19T, fI19⟩ := hp
            rw [e9] at hW
            have f20 := z_fr_sub (L := L_X9_all_5) lp5fr fI19 (by decide)
            have k21 : (I19 12 6).toInt ≤ 501 ∧ ((I19 12 7).toInt = 401 ∨ (I19 12 6).toInt ≤ 500) := hI19T
            refine lv_aload_n hx hb dX9_all_33 rfl (lv_at hl 1 rfl) ?_
            refine lv_iload_n hx hb dX9_all_34 rfl (lv_at hl 2 rfl) ?_
            refine z_ci hW hS hA (va_runV (As := [.int 5]) (rest := []) ⟨hx, hb, hml, hown, hts⟩ (sx_X9_one_5 l G ad c I19 ⟨(by show 0 ≤ (I19 12 1).toInt ∧ (I19 12 1).toInt ≤ 500; exact hI19R.1), (by show 0 ≤ (I19 12 5).toInt ∧ (I19 12 5).toInt ≤ 501; exact hI19R.2.1), (by show (-1) ≤ (I19 12 6).toInt ∧ (I19 12 6).toInt ≤ 1000000; exact hI19R.2.2.1), (by show 0 ≤ (I19 12 9).toInt ∧ (I19 12 9).toInt ≤ 500; exact hI19R.2.2.2.1), (by show 0 ≤ (I19 12 13).toInt ∧ (I19 12 13).toInt ≤ 24; exact hI19R.2.2.2.2)⟩ (by show (I19 12 6).toInt ≤ 501 ∧ ((I19 12 7).toInt = 401 ∨ (I19 12 6).toInt ≤ 500); first | omega | decide) _) (cwV 1 hts gX9_all_X9_one rfl rfl rfl hy_X9_one ⟨Nat.le_of_ble_eq_true rfl, Nat.le_of_ble_eq_true rfl⟩) (z_preV (i := 12) hK hW rfl rfl) rfl rfl hl.1 rfl (lv_room (Nat.le_of_ble_eq_true rfl)) dX9_all_35 ⟨Nat.le_of_ble_eq_true rfl, Nat.le_of_ble_eq_true rfl⟩) (fun r u1 H locs hp hW hS => ?_)
            obtain ⟨I22, e9, hI22R, hI22T, fI22, hp⟩ := hp
            rw [e9] at hW
            have f23 := z_fr_sub (L := L_X9_all_5) f20 fI22 (by decide)
            have k24 : (I22 12 6).toInt ≤ 501 ∧ ((I22 12 7).toInt = 401 ∨ (I22 12 6).toInt ≤ 500) := hI22T
            rcases hp with rfl | rfl
            · refine lv_if_ne (tgt := 43) hx hb dX9_all_38 (by decide) (fun c25 => ?_) (fun c25 => absurd c25 (by decide))
              refine lv_aload_n hx hb dX9_all_43 rfl (lv_at hl 1 rfl) ?_
              refine lv_bipush (v := (-10)) hx hb dX9_all_44 (by decide) ?_
              refine z_cv hW hS hA (va_runV (As := [.int (-10)]) (rest := []) ⟨hx, hb, hml, hown, hts⟩ (sx_X9_emit l G ad c I22 ⟨(by show 0 ≤ (I22 12 1).toInt ∧ (I22 12 1).toInt ≤ 500; exact hI22R.1), (by show 0 ≤ (I22 12 5).toInt ∧ (I22 12 5).toInt ≤ 501; exact hI22R.2.1), (by show (-1) ≤ (I22 12 6).toInt ∧ (I22 12 6).toInt ≤ 1000000; exact hI22R.2.2.1), (by show 0 ≤ (I22 12 9).toInt ∧ (I22 12 9).toInt ≤ 500; exact hI22R.2.2.2.1), (by show 0 ≤ (I22 12 13).toInt ∧ (I22 12 13).toInt ≤ 24; exact hI22R.2.2.2.2)⟩ (-10) _) (cwV 1 hts gX9_all_X9_emit rfl rfl rfl hy_X9_emit ⟨Nat.le_of_ble_eq_true rfl, Nat.le_of_ble_eq_true rfl⟩) (z_preV (i := 12) hK hW rfl rfl) rfl rfl hl.1 rfl (lv_room (Nat.le_of_ble_eq_true rfl)) dX9_all_46 ⟨Nat.le_of_ble_eq_true rfl, Nat.le_of_ble_eq_true rfl⟩) (fun u1 H locs hp hW hS => ?_)
              obtain ⟨I26, e9, hI26R, fI26⟩ := hp
              rw [e9] at hW
              have f27 := z_fr_sub (L := L_X9_all_5) f23 fI26 (by decide)
              have k28 : (I26 12 6).toInt ≤ 501 ∧ ((I26 12 7).toInt = 401 ∨ (I26 12 6).toInt ≤ 500) := (by have q0 : (I26 12 6) = (I22 12 6) := (by rw [fI26 12 6 (by decide)]); have q1 : (I26 12 7) = (I22 12 7) := (by rw [fI26 12 7 (by decide)]); show (I26 12 6).toInt ≤ 501 ∧ ((I26 12 7).toInt = 401 ∨ (I26 12 6).toInt ≤ 500); rw [q0, q1]; first | omega | decide)
              have k29 : (I26 12 6).toInt = (I22 12 6).toInt := by rw [fI26 12 6 (by decide)]
              have k30 : (I26 12 7).toInt = (I22 12 7).toInt := by rw [fI26 12 7 (by decide)]
              obtain ⟨x31, ex31⟩ : ∃ y : Int32, y = y6 + 1 := ⟨_, rfl⟩
              have tx31 : x31.toInt = y6.toInt + 1 := z_tadd ex31 rfl z_l1 (by omega) (by omega)
              refine lv_iinc (v := x31) (lv' := [(2, .int x31), (0, .ref (ad 12)), (1, .int 5)]) hx hb dX9_all_49 hl (k := 0) rfl (by rw [ex31]; rfl) (by decide) rfl (fun ls hl => ?_)
              refine lv_goto (tgt := 12) hx hb dX9_all_52 (by decide) ?_
              exact lp5ih x31 I26  _ _ _ (by omega) (by omega) ⟨(by show 0 ≤ (I26 12 1).toInt ∧ (I26 12 1).toInt ≤ 500; exact hI26R.1), (by show 0 ≤ (I26 12 5).toInt ∧ (I26 12 5).toInt ≤ 501; exact hI26R.2.1), (by show (-1) ≤ (I26 12 6).toInt ∧ (I26 12 6).toInt ≤ 1000000; exact hI26R.2.2.1), (by show 0 ≤ (I26 12 9).toInt ∧ (I26 12 9).toInt ≤ 500; exact hI26R.2.2.2.1), (by show 0 ≤ (I26 12 13).toInt ∧ (I26 12 13).toInt ≤ 24; exact hI26R.2.2.2.2)⟩ (by show (I26 12 6).toInt ≤ 501 ∧ ((I26 12 7).toInt = 401 ∨ (I26 12 6).toInt ≤ 500); first | omega | decide) f27 hW hS (lv_sub hl [0, 1, 2] rfl)
            · refine lv_if_ne (tgt := 43) hx hb dX9_all_38 (by decide) (fun c32 => absurd (by decide) c32) (fun c32 => ?_)
              refine lv_iconst (v := 0) hx hb dX9_all_41 (by decide) ?_
              exact z_zret hx hb hr (by decide) hK hS (Nat.le_of_ble_eq_true rfl) (Nat.le_of_ble_eq_true rfl) hlocks dX9_all_42 (shC c, ad, I22, JX, PC c ad) hW ⟨I22, rfl, ⟨(by show 0 ≤ (I22 12 1).toInt ∧ (I22 12 1).toInt ≤ 500; exact hI22R.1), (by show 0 ≤ (I22 12 5).toInt ∧ (I22 12 5).toInt ≤ 501; exact hI22R.2.1), (by show (-1) ≤ (I22 12 6).toInt ∧ (I22 12 6).toInt ≤ 1000000; exact hI22R.2.2.1), (by show 0 ≤ (I22 12 9).toInt ∧ (I22 12 9).toInt ≤ 500; exact hI22R.2.2.2.1), (by show 0 ≤ (I22 12 13).toInt ∧ (I22 12 13).toInt ≤ 24; exact hI22R.2.2.2.2)⟩, (by show (I22 12 6).toInt ≤ 501 ∧ ((I22 12 7).toInt = 401 ∨ (I22 12 6).toInt ≤ 500); first | omega | decide), f23, Or.inr rfl⟩
    exact lp5 4294967296 (0) I1  _ _ _ (z_m0u _) (by rw [z_l0]; omega) ⟨(by show 0 ≤ (I1 12 1).toInt ∧ (I1 12 1).toInt ≤ 500; exact hI1R.1), (by show 0 ≤ (I1 12 5).toInt ∧ (I1 12 5).toInt ≤ 501; exact hI1R.2.1), (by show (-1) ≤ (I1 12 6).toInt ∧ (I1 12 6).toInt ≤ 1000000; exact hI1R.2.2.1), (by show 0 ≤ (I1 12 9).toInt ∧ (I1 12 9).toInt ≤ 500; exact hI1R.2.2.2.1), (by show 0 ≤ (I1 12 13).toInt ∧ (I1 12 13).toInt ≤ 24; exact hI1R.2.2.2.2)⟩ (by show (I1 12 6).toInt ≤ 501 ∧ ((I1 12 7).toInt = 401 ∨ (I1 12 6).toInt ≤ 500); first | omega | decide) f2 hW hS (lv_sub hl [0, 1, 2] rfl)
  · refine lv_if_ne (tgt := 10) hx hb dX9_all_5 (by decide) (fun c33 => absurd (by decide) c33) (fun c33 => ?_)
    refine lv_iconst (v := 0) hx hb dX9_all_8 (by decide) ?_
    exact z_zret hx hb hr (by decide) hK hS (Nat.le_of_ble_eq_true rfl) (Nat.le_of_ble_eq_true rfl) hlocks dX9_all_9 (shC c, ad, I1, JX, PC c ad) hW ⟨I1, rfl, ⟨(by show 0 ≤ (I1 12 1).toInt ∧ (I1 12 1).toInt ≤ 500; exact hI1R.1), (by show 0 ≤ (I1 12 5).toInt ∧ (I1 12 5).toInt ≤ 501; exact hI1R.2.1), (by show (-1) ≤ (I1 12 6).toInt ∧ (I1 12 6).toInt ≤ 1000000; exact hI1R.2.2.1), (by show 0 ≤ (I1 12 9).toInt ∧ (I1 12 9).toInt ≤ 500; exact hI1R.2.2.2.1), (by show 0 ≤ (I1 12 13).toInt ∧ (I1 12 13).toInt ≤ 24; exact hI1R.2.2.2.2)⟩, (by show (I1 12 6).toInt ≤ 501 ∧ ((I1 12 7).toInt = 401 ∨ (I1 12 6).toInt ≤ 500); first | omega | decide), f2, Or.inr rfl⟩
noncomputable def L_X9_either_5 : z_L := [(12, 6), (12, 7), (17, 999), (12, 9)]
set_option maxHeartbeats 8000000 in
set_option maxRecDepth 100000 in
theorem sx_X9_either_5 (l : Launch) (G : z_G) (ad : Nat → Nat) (c : z_C) (I : z_I) (hR : z_iR I) (hT : z_iT I) : z_M l yX9_either wsX9_either { frames := 24, cells := 0, slots := 0, locals := 517 } [.ref (ad 12), .int 5] G (shC c, ad, I, JX, PC c ad) (fun r u1 => ∃ I1 : z_I, u1 = (shC c, ad, I1, JX, PC c ad) ∧ z_iR I1 ∧ z_iT I1 ∧ z_fr L_X9_either_5 I1 I ∧ (r = 1 ∨ r = 0)) 0 0 := by
  intro sz
  refine z_headQ (cc := cX9_either) (maxL := 3) (ret := (some .boolean)) (by decide) rfl (Nat.le_of_ble_eq_true rfl) ?_
  intro p e s m below meth c0 ls hIn hK hsz hW hl
  obtain ⟨hx, hb, hr, hml, hown, hts, hlocks, hname⟩ := hIn
  subst hsz
  have hown : s.vm.findClass RX9 = some m.cls := hown
  have hA : ∀ q : Nat, s.heap.size ≤ q → z_A (shC c, ad, I, JX, PC c ad) s.heap.size q := fun q h => Or.inr h
  generalize hAe : z_A (shC c, ad, I, JX, PC c ad) s.heap.size = A at *
  have hS : va_S A s.heap s.heap [] := va_S.rf
  have hl : lv_has ls 3 [(0, .ref (ad 12)), (1, .int 5)] := hl
  have kT : (I 12 6).toInt ≤ 501 ∧ ((I 12 7).toInt = 401 ∨ (I 12 6).toInt ≤ 500) := hT
  refine lv_aload_n hx hb dX9_either_0 rfl (lv_at hl 0 rfl) ?_
  refine lv_iload_n hx hb dX9_either_1 rfl (lv_at hl 1 rfl) ?_
  refine z_ci hW hS hA (va_runV (As := [.int 5]) (rest := []) ⟨hx, hb, hml, hown, hts⟩ (sx_X9_all_5 l G ad c I ⟨(by show 0 ≤ (I 12 1).toInt ∧ (I 12 1).toInt ≤ 500; exact hR.1), (by show 0 ≤ (I 12 5).toInt ∧ (I 12 5).toInt ≤ 501; exact hR.2.1), (by show (-1) ≤ (I 12 6).toInt ∧ (I 12 6).toInt ≤ 1000000; exact hR.2.2.1), (by show 0 ≤ (I 12 9).toInt ∧ (I 12 9).toInt ≤ 500; exact hR.2.2.2.1), (by show 0 ≤ (I 12 13).toInt ∧ (I 12 13).toInt ≤ 24; exact hR.2.2.2.2)⟩ (by show (I 12 6).toInt ≤ 501 ∧ ((I 12 7).toInt = 401 ∨ (I 12 6).toInt ≤ 500); first | omega | decide) _) (cwV 1 hts gX9_either_X9_all rfl rfl rfl hy_X9_all ⟨Nat.le_of_ble_eq_true rfl, Nat.le_of_ble_eq_true rfl⟩) (z_preV (i := 12) hK hW rfl rfl) rfl rfl hl.1 rfl (lv_room (Nat.le_of_ble_eq_true rfl)) dX9_either_2 ⟨Nat.le_of_ble_eq_true rfl, Nat.le_of_ble_eq_true rfl⟩) (fun r u1 H locs hp hW hS => ?_)
  obtain ⟨I1, e9, hI1R, hI1T, fI1, hp⟩ := hp
  rw [e9] at hW
  have f2 := z_fr_sub (L := L_X9_either_5) z_fr_0 fI1 (by decide)
  have k3 : (I1 12 6).toInt ≤ 501 ∧ ((I1 12 7).toInt = 401 ∨ (I1 12 6).toInt ≤ 500) := hI1T
  rcases hp with rfl | rfl
  · refine lv_if_ne (tgt := 10) hx hb dX9_either_5 (by decide) (fun c4 => ?_) (fun c4 => absurd c4 (by decide))
    refine lv_iconst (v := 0) hx hb dX9_either_10 (by decide) ?_
    refine lv_istore_n (lv' := [(2, .int 0), (0, .ref (ad 12)), (1, .int 5)]) hx hb dX9_either_11 rfl hl (by decide) rfl (fun ls hl => ?_)
    have lp5 : ∀ (f : Nat) (y6 : Int32) (I7 : z_I) (H : Heap) (locs : List Loc) (ls : Array Slot), (2147483647 < y6.toInt + (f : Int)) → (0 ≤ y6.toInt) → (z_iR I7) → (z_iT I7) → (z_fr L_X9_either_5 I7 I) → z_W G A (shC c, ad, I7, JX, PC c ad) H → va_S A s.heap H locs → lv_has ls 3 [(2, .int y6), (0, .ref (ad 12)), (1, .int 5)] → W p l e (headSpec wsX9_either { frames := 24, cells := 0, slots := 0, locals := 517 }).room s m ([.ref (ad 12), .int 5] : List Value).toArray below meth c0 H locs 0 0 (MQ below (va_Qi (fun (r : Int32) (u1 : z_U) => ∃ I1 : z_I, u1 = (shC c, ad, I1, JX, PC c ad) ∧ z_iR I1 ∧ z_iT I1 ∧ z_fr L_X9_either_5 I1 I ∧ (r = 1 ∨ r = 0)) (z_B G A) A) ([.ref (ad 12), .int 5] : List Value).toArray s 0 0 A) (F0 m 12 ls []) := by
      intro f
      induction f with
      | zero => intro y6 I7  H locs ls lp5m lp5l2 lp5R lp5T lp5fr hW hS hl; exact absurd lp5m (by have := Int32.toInt_lt y6; have := Int32.le_toInt y6; omega)
      | succ f lp5ih =>
        intro y6 I7  H locs ls lp5m lp5l2 lp5R lp5T lp5fr hW hS hl
        have k8 : (I7 12 6).toInt ≤ 501 ∧ ((I7 12 7).toInt = 401 ∨ (I7 12 6).toInt ≤ 500) := lp5T
        refine lv_iload_n hx hb dX9_either_12 rfl (lv_at hl 0 rfl) ?_
        refine lv_sipush (v := 500) hx hb dX9_either_13 (by decide) ?_
        refine lv_icmp_ge (tgt := 55) hx hb dX9_either_16 (by decide) (fun c9 => ?_) (fun c9 => ?_)
        · have g10 := z_f_ge rfl z_l500 c9
          have b11 := Int32.toInt_lt y6
          refine lv_iconst (v := 1) hx hb dX9_either_55 (by decide) ?_
          exact z_zret hx hb hr (by decide) hK hS (Nat.le_of_ble_eq_true rfl) (Nat.le_of_ble_eq_true rfl) hlocks dX9_either_56 (shC c, ad, I7, JX, PC c ad) hW ⟨I7, rfl, ⟨(by show 0 ≤ (I7 12 1).toInt ∧ (I7 12 1).toInt ≤ 500; exact lp5R.1), (by show 0 ≤ (I7 12 5).toInt ∧ (I7 12 5).toInt ≤ 501; exact lp5R.2.1), (by show (-1) ≤ (I7 12 6).toInt ∧ (I7 12 6).toInt ≤ 1000000; exact lp5R.2.2.1), (by show 0 ≤ (I7 12 9).toInt ∧ (I7 12 9).toInt ≤ 500; exact lp5R.2.2.2.1), (by show 0 ≤ (I7 12 13).toInt ∧ (I7 12 13).toInt ≤ 24; exact lp5R.2.2.2.2)⟩, (by show (I7 12 6).toInt ≤ 501 ∧ ((I7 12 7).toInt = 401 ∨ (I7 12 6).toInt ≤ 500); first | omega | decide), lp5fr, Or.inl rfl⟩
        · have g12 := z_f_nge rfl z_l500 c9
          have b13 := Int32.toInt_lt y6
          refine lv_aload_n hx hb dX9_either_19 rfl (lv_at hl 1 rfl) ?_
          refine z_get (T := TX9) (N := 14) (ci := 9) (i := 12) (v := .int (I7 12 7)) hx hb hts zj_X9_either_X9 hown hK hW rfl rfl 7 (by decide) (hts (.fieldLink RX9 62 "PetrolBoard$Reader" "token" "I") (me_s (me_l (me_l (List.mem_of_getElem? (i := 0) rfl))))) (fun _ h => h) rfl dX9_either_20 ?_
          refine lv_sipush (v := 309) hx hb dX9_either_23 (by decide) ?_
          refine lv_icmp_ne (tgt := 55) hx hb dX9_either_26 (by decide) (fun c14 => ?_) (fun c14 => ?_)
          · have g15 := z_f_ne rfl z_l309 c14
            have b16 := Int32.toInt_lt (I7 12 7)
            refine lv_iconst (v := 1) hx hb dX9_either_55 (by decide) ?_
            exact z_zret hx hb hr (by decide) hK hS (Nat.le_of_ble_eq_true rfl) (Nat.le_of_ble_eq_true rfl) hlocks dX9_either_56 (shC c, ad, I7, JX, PC c ad) hW ⟨I7, rfl, ⟨(by show 0 ≤ (I7 12 1).toInt ∧ (I7 12 1).toInt ≤ 500; exact lp5R.1), (by show 0 ≤ (I7 12 5).toInt ∧ (I7 12 5).toInt ≤ 501; exact lp5R.2.1), (by show (-1) ≤ (I7 12 6).toInt ∧ (I7 12 6).toInt ≤ 1000000; exact lp5R.2.2.1), (by show 0 ≤ (I7 12 9).toInt ∧ (I7 12 9).toInt ≤ 500; exact lp5R.2.2.2.1), (by show 0 ≤ (I7 12 13).toInt ∧ (I7 12 13).toInt ≤ 24; exact lp5R.2.2.2.2)⟩, (by show (I7 12 6).toInt ≤ 501 ∧ ((I7 12 7).toInt = 401 ∨ (I7 12 6).toInt ≤ 500); first | omega | decide), lp5fr, Or.inl rfl⟩
          · have g17 := z_f_eq rfl z_l309 c14
            have b18 := Int32.toInt_lt (I7 12 7)
            refine lv_aload_n hx hb dX9_either_29 rfl (lv_at hl 1 rfl) ?_
            refine z_cv hW hS hA (va_runV (As := []) (rest := []) ⟨hx, hb, hml, hown, hts⟩ (sx_X9_step l G ad c I7 ⟨(by show 0 ≤ (I7 12 1).toInt ∧ (I7 12 1).toInt ≤ 500; exact lp5R.1), (by show 0 ≤ (I7 12 5).toInt ∧ (I7 12 5).toInt ≤ 501; exact lp5R.2.1), (by show (-1) ≤ (I7 12 6).toInt ∧ (I7 12 6).toInt ≤ 1000000; exact lp5R.2.2.1), (by show 0 ≤ (I7 12 9).toInt ∧ (I7 12 9).toInt ≤ 500; exact lp5R.2.2.2.1), (by show 0 ≤ (I7 12 13).toInt ∧ (I7 12 13).toInt ≤ 24; exact lp5R.2.2.2.2)⟩   (by show (I7 12 6).toInt ≤ 500; first | omega | decide) _) (cwV 0 hts gX9_either_X9_step rfl rfl rfl hy_X9_step ⟨Nat.le_of_ble_eq_true rfl, Nat.le_of_ble_eq_true rfl⟩) (z_preV (i := 12) hK hW rfl rfl) rfl rfl hl.1 rfl (lv_room (Nat.le_of_ble_eq_true rfl)) dX9_either_30 ⟨Nat.le_of_ble_eq_true rfl, Nat.le_of_ble_eq_true rfl⟩) (fun u1 H locs hp hW hS => ?_)
            obtain ⟨I19, e9, hI19R, hI19T, fI19⟩ := hp
            rw [e9] at hW
            have f20 := z_fr_sub (L := L_X9_either_5) lp5fr fI19 (by decide)
            have k21 : (I19 12 6).toInt ≤ 501 ∧ ((I19 12 7).toInt = 401 ∨ (I19 12 6).toInt ≤ 500) := hI19T
            refine lv_aload_n hx hb dX9_either_33 rfl (lv_at hl 1 rfl) ?_
            refine lv_iload_n hx hb dX9_either_34 rfl (lv_at hl 2 rfl) ?_
            refine z_ci hW hS hA (va_runV (As := [.int 5]) (rest := []) ⟨hx, hb, hml, hown, hts⟩ (sx_X9_all_5 l G ad c I19 ⟨(by show 0 ≤ (I19 12 1).toInt ∧ (I19 12 1).toInt ≤ 500; exact hI19R.1), (by show 0 ≤ (I19 12 5).toInt ∧ (I19 12 5).toInt ≤ 501; exact hI19R.2.1), (by show (-1) ≤ (I19 12 6).toInt ∧ (I19 12 6).toInt ≤ 1000000; exact hI19R.2.2.1), (by show 0 ≤ (I19 12 9).toInt ∧ (I19 12 9).toInt ≤ 500; exact hI19R.2.2.2.1), (by show 0 ≤ (I19 12 13).toInt ∧ (I19 12 13).toInt ≤ 24; exact hI19R.2.2.2.2)⟩ (by show (I19 12 6).toInt ≤ 501 ∧ ((I19 12 7).toInt = 401 ∨ (I19 12 6).toInt ≤ 500); first | omega | decide) _) (cwV 1 hts gX9_either_X9_all rfl rfl rfl hy_X9_all ⟨Nat.le_of_ble_eq_true rfl, Nat.le_of_ble_eq_true rfl⟩) (z_preV (i := 12) hK hW rfl rfl) rfl rfl hl.1 rfl (lv_room (Nat.le_of_ble_eq_true rfl)) dX9_either_35 ⟨Nat.le_of_ble_eq_true rfl, Nat.le_of_ble_eq_true rfl⟩) (fun r u1 H locs hp hW hS => ?_)
            obtain ⟨I22, e9, hI22R, hI22T, fI22, hp⟩ := hp
            rw [e9] at hW
            have f23 := z_fr_sub (L := L_X9_either_5) f20 fI22 (by decide)
            have k24 : (I22 12 6).toInt ≤ 501 ∧ ((I22 12 7).toInt = 401 ∨ (I22 12 6).toInt ≤ 500) := hI22T
            rcases hp with rfl | rfl
            · refine lv_if_ne (tgt := 43) hx hb dX9_either_38 (by decide) (fun c25 => ?_) (fun c25 => absurd c25 (by decide))
              refine lv_aload_n hx hb dX9_either_43 rfl (lv_at hl 1 rfl) ?_
              refine lv_bipush (v := (-11)) hx hb dX9_either_44 (by decide) ?_
              refine z_cv hW hS hA (va_runV (As := [.int (-11)]) (rest := []) ⟨hx, hb, hml, hown, hts⟩ (sx_X9_emit l G ad c I22 ⟨(by show 0 ≤ (I22 12 1).toInt ∧ (I22 12 1).toInt ≤ 500; exact hI22R.1), (by show 0 ≤ (I22 12 5).toInt ∧ (I22 12 5).toInt ≤ 501; exact hI22R.2.1), (by show (-1) ≤ (I22 12 6).toInt ∧ (I22 12 6).toInt ≤ 1000000; exact hI22R.2.2.1), (by show 0 ≤ (I22 12 9).toInt ∧ (I22 12 9).toInt ≤ 500; exact hI22R.2.2.2.1), (by show 0 ≤ (I22 12 13).toInt ∧ (I22 12 13).toInt ≤ 24; exact hI22R.2.2.2.2)⟩ (-11) _) (cwV 1 hts gX9_either_X9_emit rfl rfl rfl hy_X9_emit ⟨Nat.le_of_ble_eq_true rfl, Nat.le_of_ble_eq_true rfl⟩) (z_preV (i := 12) hK hW rfl rfl) rfl rfl hl.1 rfl (lv_room (Nat.le_of_ble_eq_true rfl)) dX9_either_46 ⟨Nat.le_of_ble_eq_true rfl, Nat.le_of_ble_eq_true rfl⟩) (fun u1 H locs hp hW hS => ?_)
              obtain ⟨I26, e9, hI26R, fI26⟩ := hp
              rw [e9] at hW
              have f27 := z_fr_sub (L := L_X9_either_5) f23 fI26 (by decide)
              have k28 : (I26 12 6).toInt ≤ 501 ∧ ((I26 12 7).toInt = 401 ∨ (I26 12 6).toInt ≤ 500) := (by have q0 : (I26 12 6) = (I22 12 6) := (by rw [fI26 12 6 (by decide)]); have q1 : (I26 12 7) = (I22 12 7) := (by rw [fI26 12 7 (by decide)]); show (I26 12 6).toInt ≤ 501 ∧ ((I26 12 7).toInt = 401 ∨ (I26 12 6).toInt ≤ 500); rw [q0, q1]; first | omega | decide)
              have k29 : (I26 12 6).toInt = (I22 12 6).toInt := by rw [fI26 12 6 (by decide)]
              have k30 : (I26 12 7).toInt = (I22 12 7).toInt := by rw [fI26 12 7 (by decide)]
              obtain ⟨x31, ex31⟩ : ∃ y : Int32, y = y6 + 1 := ⟨_, rfl⟩
              have tx31 : x31.toInt = y6.toInt + 1 := z_tadd ex31 rfl z_l1 (by omega) (by omega)
              refine lv_iinc (v := x31) (lv' := [(2, .int x31), (0, .ref (ad 12)), (1, .int 5)]) hx hb dX9_either_49 hl (k := 0) rfl (by rw [ex31]; rfl) (by decide) rfl (fun ls hl => ?_)
              refine lv_goto (tgt := 12) hx hb dX9_either_52 (by decide) ?_
              exact lp5ih x31 I26  _ _ _ (by omega) (by omega) ⟨(by show 0 ≤ (I26 12 1).toInt ∧ (I26 12 1).toInt ≤ 500; exact hI26R.1), (by show 0 ≤ (I26 12 5).toInt ∧ (I26 12 5).toInt ≤ 501; exact hI26R.2.1), (by show (-1) ≤ (I26 12 6).toInt ∧ (I26 12 6).toInt ≤ 1000000; exact hI26R.2.2.1), (by show 0 ≤ (I26 12 9).toInt ∧ (I26 12 9).toInt ≤ 500; exact hI26R.2.2.2.1), (by show 0 ≤ (I26 12 13).toInt ∧ (I26 12 13).toInt ≤ 24; exact hI26R.2.2.2.2)⟩ (by show (I26 12 6).toInt ≤ 501 ∧ ((I26 12 7).toInt = 401 ∨ (I26 12 6).toInt ≤ 500); first | omega | decide) f27 hW hS (lv_sub hl [0, 1, 2] rfl)
            · refine lv_if_ne (tgt := 43) hx hb dX9_either_38 (by decide) (fun c32 => absurd (by decide) c32) (fun c32 => ?_)
              refine lv_iconst (v := 0) hx hb dX9_either_41 (by decide) ?_
              exact z_zret hx hb hr (by decide) hK hS (Nat.le_of_ble_eq_true rfl) (Nat.le_of_ble_eq_true rfl) hlocks dX9_either_42 (shC c, ad, I22, JX, PC c ad) hW ⟨I22, rfl, ⟨(by show 0 ≤ (I22 12 1).toInt ∧ (I22 12 1).toInt ≤ 500; exact hI22R.1), (by show 0 ≤ (I22 12 5).toInt ∧ (I22 12 5).toInt ≤ 501; exact hI22R.2.1), (by show (-1) ≤ (I22 12 6).toInt ∧ (I22 12 6).toInt ≤ 1000000; exact hI22R.2.2.1), (by show 0 ≤ (I22 12 9).toInt ∧ (I22 12 9).toInt ≤ 500; exact hI22R.2.2.2.1), (by show 0 ≤ (I22 12 13).toInt ∧ (I22 12 13).toInt ≤ 24; exact hI22R.2.2.2.2)⟩, (by show (I22 12 6).toInt ≤ 501 ∧ ((I22 12 7).toInt = 401 ∨ (I22 12 6).toInt ≤ 500); first | omega | decide), f23, Or.inr rfl⟩
    exact lp5 4294967296 (0) I1  _ _ _ (z_m0u _) (by rw [z_l0]; omega) ⟨(by show 0 ≤ (I1 12 1).toInt ∧ (I1 12 1).toInt ≤ 500; exact hI1R.1), (by show 0 ≤ (I1 12 5).toInt ∧ (I1 12 5).toInt ≤ 501; exact hI1R.2.1), (by show (-1) ≤ (I1 12 6).toInt ∧ (I1 12 6).toInt ≤ 1000000; exact hI1R.2.2.1), (by show 0 ≤ (I1 12 9).toInt ∧ (I1 12 9).toInt ≤ 500; exact hI1R.2.2.2.1), (by show 0 ≤ (I1 12 13).toInt ∧ (I1 12 13).toInt ≤ 24; exact hI1R.2.2.2.2)⟩ (by show (I1 12 6).toInt ≤ 501 ∧ ((I1 12 7).toInt = 401 ∨ (I1 12 6).toInt ≤ 500); first | omega | decide) f2 hW hS (lv_sub hl [0, 1, 2] rfl)
  · refine lv_if_ne (tgt := 10) hx hb dX9_either_5 (by decide) (fun c33 => absurd (by decide) c33) (fun c33 => ?_)
    refine lv_iconst (v := 0) hx hb dX9_either_8 (by decide) ?_
    exact z_zret hx hb hr (by decide) hK hS (Nat.le_of_ble_eq_true rfl) (Nat.le_of_ble_eq_true rfl) hlocks dX9_either_9 (shC c, ad, I1, JX, PC c ad) hW ⟨I1, rfl, ⟨(by show 0 ≤ (I1 12 1).toInt ∧ (I1 12 1).toInt ≤ 500; exact hI1R.1), (by show 0 ≤ (I1 12 5).toInt ∧ (I1 12 5).toInt ≤ 501; exact hI1R.2.1), (by show (-1) ≤ (I1 12 6).toInt ∧ (I1 12 6).toInt ≤ 1000000; exact hI1R.2.2.1), (by show 0 ≤ (I1 12 9).toInt ∧ (I1 12 9).toInt ≤ 500; exact hI1R.2.2.2.1), (by show 0 ≤ (I1 12 13).toInt ∧ (I1 12 13).toInt ≤ 24; exact hI1R.2.2.2.2)⟩, (by show (I1 12 6).toInt ≤ 501 ∧ ((I1 12 7).toInt = 401 ∨ (I1 12 6).toInt ≤ 500); first | omega | decide), f2, Or.inr rfl⟩
noncomputable def L_X9_atom_4 : z_L := [(12, 6), (12, 7), (17, 999), (12, 9)]
set_option maxHeartbeats 8000000 in
set_option maxRecDepth 100000 in
theorem sx_X9_atom_4 (l : Launch) (G : z_G) (ad : Nat → Nat) (c : z_C) (I : z_I) (hR : z_iR I) (hT : z_iT I) : z_M l yX9_atom wsX9_atom { frames := 18, cells := 0, slots := 0, locals := 393 } [.ref (ad 12), .int 4] G (shC c, ad, I, JX, PC c ad) (fun r u1 => ∃ I1 : z_I, u1 = (shC c, ad, I1, JX, PC c ad) ∧ z_iR I1 ∧ z_iT I1 ∧ z_fr L_X9_atom_4 I1 I ∧ (r = 1 ∨ r = 0)) 0 0 := by
  intro sz
  refine z_headQ (cc := cX9_atom) (maxL := 3) (ret := (some .boolean)) (by decide) rfl (Nat.le_of_ble_eq_true rfl) ?_
  intro p e s m below meth c0 ls hIn hK hsz hW hl
  obtain ⟨hx, hb, hr, hml, hown, hts, hlocks, hname⟩ := hIn
  subst hsz
  have hown : s.vm.findClass RX9 = some m.cls := hown
  have hA : ∀ q : Nat, s.heap.size ≤ q → z_A (shC c, ad, I, JX, PC c ad) s.heap.size q := fun q h => Or.inr h
  generalize hAe : z_A (shC c, ad, I, JX, PC c ad) s.heap.size = A at *
  have hS : va_S A s.heap s.heap [] := va_S.rf
  have hl : lv_has ls 3 [(0, .ref (ad 12)), (1, .int 4)] := hl
  have kT : (I 12 6).toInt ≤ 501 ∧ ((I 12 7).toInt = 401 ∨ (I 12 6).toInt ≤ 500) := hT
  refine lv_aload_n hx hb dX9_atom_0 rfl (lv_at hl 0 rfl) ?_
  refine z_get (T := TX9) (N := 14) (ci := 9) (i := 12) (v := .int (I 12 7)) hx hb hts zj_X9_atom_X9 hown hK hW rfl rfl 7 (by decide) (hts (.fieldLink RX9 62 "PetrolBoard$Reader" "token" "I") (me_s (me_l (me_l (List.mem_of_getElem? (i := 0) rfl))))) (fun _ h => h) rfl dX9_atom_1 ?_
  refine lv_sipush (v := 400) hx hb dX9_atom_4 (by decide) ?_
  refine lv_icmp_eq (tgt := 30) hx hb dX9_atom_7 (by decide) (fun c1 => ?_) (fun c1 => ?_)
  · have g2 := z_f_eq rfl z_l400 c1
    have b3 := Int32.toInt_lt (I 12 7)
    refine lv_aload_n hx hb dX9_atom_30 rfl (lv_at hl 0 rfl) ?_
    refine lv_aload_n hx hb dX9_atom_31 rfl (lv_at hl 0 rfl) ?_
    refine z_get (T := TX9) (N := 14) (ci := 9) (i := 12) (v := .int (I 12 7)) hx hb hts zj_X9_atom_X9 hown hK hW rfl rfl 7 (by decide) (hts (.fieldLink RX9 62 "PetrolBoard$Reader" "token" "I") (me_s (me_l (me_l (List.mem_of_getElem? (i := 0) rfl))))) (fun _ h => h) rfl dX9_atom_32 ?_
    refine lv_sipush (v := 400) hx hb dX9_atom_35 (by decide) ?_
    refine lv_icmp_ne (tgt := 48) hx hb dX9_atom_38 (by decide) (fun c4 => (by have g := z_f_ne rfl z_l400 c4; omega)) (fun c4 => ?_)
    have g5 := z_f_eq rfl z_l400 c4
    refine lv_aload_n hx hb dX9_atom_41 rfl (lv_at hl 0 rfl) ?_
    refine z_ci hW hS hA (va_runV (As := []) (rest := [.ref (ad 12)]) ⟨hx, hb, hml, hown, hts⟩ (sx_X9_numberHere l G ad c I ⟨(by show 0 ≤ (I 12 1).toInt ∧ (I 12 1).toInt ≤ 500; exact hR.1), (by show 0 ≤ (I 12 5).toInt ∧ (I 12 5).toInt ≤ 501; exact hR.2.1), (by show (-1) ≤ (I 12 6).toInt ∧ (I 12 6).toInt ≤ 1000000; exact hR.2.2.1), (by show 0 ≤ (I 12 9).toInt ∧ (I 12 9).toInt ≤ 500; exact hR.2.2.2.1), (by show 0 ≤ (I 12 13).toInt ∧ (I 12 13).toInt ≤ 24; exact hR.2.2.2.2)⟩  _) (cwV 0 hts gX9_atom_X9_numberHere rfl rfl rfl hy_X9_numberHere ⟨Nat.le_of_ble_eq_true rfl, Nat.le_of_ble_eq_true rfl⟩) (z_preV (i := 12) hK hW rfl rfl) rfl rfl hl.1 rfl (lv_room (Nat.le_of_ble_eq_true rfl)) dX9_atom_42 ⟨Nat.le_of_ble_eq_true rfl, Nat.le_of_ble_eq_true rfl⟩) (fun r u1 H locs hp hW hS => ?_)
    rw [hp] at hW
    refine lv_topi (fun x6 ex6 => ?_)
    refine lv_goto (tgt := 59) hx hb dX9_atom_45 (by decide) ?_
    refine z_cv hW hS hA (va_runV (As := [.int x6]) (rest := []) ⟨hx, hb, hml, hown, hts⟩ (sx_X9_emit l G ad c I ⟨(by show 0 ≤ (I 12 1).toInt ∧ (I 12 1).toInt ≤ 500; exact hR.1), (by show 0 ≤ (I 12 5).toInt ∧ (I 12 5).toInt ≤ 501; exact hR.2.1), (by show (-1) ≤ (I 12 6).toInt ∧ (I 12 6).toInt ≤ 1000000; exact hR.2.2.1), (by show 0 ≤ (I 12 9).toInt ∧ (I 12 9).toInt ≤ 500; exact hR.2.2.2.1), (by show 0 ≤ (I 12 13).toInt ∧ (I 12 13).toInt ≤ 24; exact hR.2.2.2.2)⟩ x6 _) (cwV 1 hts gX9_atom_X9_emit rfl rfl rfl hy_X9_emit ⟨Nat.le_of_ble_eq_true rfl, Nat.le_of_ble_eq_true rfl⟩) (z_preV (i := 12) hK hW rfl rfl) rfl rfl hl.1 rfl (lv_room (Nat.le_of_ble_eq_true rfl)) dX9_atom_59 ⟨Nat.le_of_ble_eq_true rfl, Nat.le_of_ble_eq_true rfl⟩) (fun u1 H locs hp hW hS => ?_)
    obtain ⟨I7, e9, hI7R, fI7⟩ := hp
    rw [e9] at hW
    have f8 := z_fr_sub (L := L_X9_atom_4) z_fr_0 fI7 (by decide)
    have k9 : (I7 12 6).toInt ≤ 501 ∧ ((I7 12 7).toInt = 401 ∨ (I7 12 6).toInt ≤ 500) := (by have q0 : (I7 12 6) = (I 12 6) := (by rw [fI7 12 6 (by decide)]); have q1 : (I7 12 7) = (I 12 7) := (by rw [fI7 12 7 (by decide)]); show (I7 12 6).toInt ≤ 501 ∧ ((I7 12 7).toInt = 401 ∨ (I7 12 6).toInt ≤ 500); rw [q0, q1]; first | omega | decide)
    have k10 : (I7 12 6).toInt = (I 12 6).toInt := by rw [fI7 12 6 (by decide)]
    have k11 : (I7 12 7).toInt = (I 12 7).toInt := by rw [fI7 12 7 (by decide)]
    refine lv_aload_n hx hb dX9_atom_62 rfl (lv_at hl 0 rfl) ?_
    refine z_cv hW hS hA (va_runV (As := []) (rest := []) ⟨hx, hb, hml, hown, hts⟩ (sx_X9_step l G ad c I7 ⟨(by show 0 ≤ (I7 12 1).toInt ∧ (I7 12 1).toInt ≤ 500; exact hI7R.1), (by show 0 ≤ (I7 12 5).toInt ∧ (I7 12 5).toInt ≤ 501; exact hI7R.2.1), (by show (-1) ≤ (I7 12 6).toInt ∧ (I7 12 6).toInt ≤ 1000000; exact hI7R.2.2.1), (by show 0 ≤ (I7 12 9).toInt ∧ (I7 12 9).toInt ≤ 500; exact hI7R.2.2.2.1), (by show 0 ≤ (I7 12 13).toInt ∧ (I7 12 13).toInt ≤ 24; exact hI7R.2.2.2.2)⟩   (by show (I7 12 6).toInt ≤ 500; first | omega | decide) _) (cwV 0 hts gX9_atom_X9_step rfl rfl rfl hy_X9_step ⟨Nat.le_of_ble_eq_true rfl, Nat.le_of_ble_eq_true rfl⟩) (z_preV (i := 12) hK hW rfl rfl) rfl rfl hl.1 rfl (lv_room (Nat.le_of_ble_eq_true rfl)) dX9_atom_63 ⟨Nat.le_of_ble_eq_true rfl, Nat.le_of_ble_eq_true rfl⟩) (fun u1 H locs hp hW hS => ?_)
    obtain ⟨I12, e9, hI12R, hI12T, fI12⟩ := hp
    rw [e9] at hW
    have f13 := z_fr_sub (L := L_X9_atom_4) f8 fI12 (by decide)
    have k14 : (I12 12 6).toInt ≤ 501 ∧ ((I12 12 7).toInt = 401 ∨ (I12 12 6).toInt ≤ 500) := hI12T
    refine lv_iconst (v := 1) hx hb dX9_atom_66 (by decide) ?_
    exact z_zret hx hb hr (by decide) hK hS (Nat.le_of_ble_eq_true rfl) (Nat.le_of_ble_eq_true rfl) hlocks dX9_atom_67 (shC c, ad, I12, JX, PC c ad) hW ⟨I12, rfl, ⟨(by show 0 ≤ (I12 12 1).toInt ∧ (I12 12 1).toInt ≤ 500; exact hI12R.1), (by show 0 ≤ (I12 12 5).toInt ∧ (I12 12 5).toInt ≤ 501; exact hI12R.2.1), (by show (-1) ≤ (I12 12 6).toInt ∧ (I12 12 6).toInt ≤ 1000000; exact hI12R.2.2.1), (by show 0 ≤ (I12 12 9).toInt ∧ (I12 12 9).toInt ≤ 500; exact hI12R.2.2.2.1), (by show 0 ≤ (I12 12 13).toInt ∧ (I12 12 13).toInt ≤ 24; exact hI12R.2.2.2.2)⟩, (by show (I12 12 6).toInt ≤ 501 ∧ ((I12 12 7).toInt = 401 ∨ (I12 12 6).toInt ≤ 500); first | omega | decide), f13, Or.inl rfl⟩
  · have g15 := z_f_ne rfl z_l400 c1
    have b16 := Int32.toInt_lt (I 12 7)
    refine lv_aload_n hx hb dX9_atom_10 rfl (lv_at hl 0 rfl) ?_
    refine z_get (T := TX9) (N := 14) (ci := 9) (i := 12) (v := .int (I 12 7)) hx hb hts zj_X9_atom_X9 hown hK hW rfl rfl 7 (by decide) (hts (.fieldLink RX9 62 "PetrolBoard$Reader" "token" "I") (me_s (me_l (me_l (List.mem_of_getElem? (i := 0) rfl))))) (fun _ h => h) rfl dX9_atom_11 ?_
    refine lv_sipush (v := 314) hx hb dX9_atom_14 (by decide) ?_
    refine lv_icmp_lt (tgt := 68) hx hb dX9_atom_17 (by decide) (fun c17 => ?_) (fun c17 => ?_)
    · have g18 := z_f_lt rfl z_l314 c17
      refine lv_aload_n hx hb dX9_atom_68 rfl (lv_at hl 0 rfl) ?_
      refine z_get (T := TX9) (N := 14) (ci := 9) (i := 12) (v := .int (I 12 7)) hx hb hts zj_X9_atom_X9 hown hK hW rfl rfl 7 (by decide) (hts (.fieldLink RX9 62 "PetrolBoard$Reader" "token" "I") (me_s (me_l (me_l (List.mem_of_getElem? (i := 0) rfl))))) (fun _ h => h) rfl dX9_atom_69 ?_
      refine lv_istore_n (lv' := [(2, .int (I 12 7)), (0, .ref (ad 12)), (1, .int 4)]) hx hb dX9_atom_72 rfl hl (by decide) rfl (fun ls hl => ?_)
      refine lv_iload_n hx hb dX9_atom_73 rfl (lv_at hl 0 rfl) ?_
      refine lv_bipush (v := 40) hx hb dX9_atom_74 (by decide) ?_
      refine lv_icmp_eq (tgt := 93) hx hb dX9_atom_76 (by decide) (fun c19 => ?_) (fun c19 => ?_)
      · have g20 := z_f_eq rfl z_l40 c19
        refine lv_iload_n hx hb dX9_atom_93 rfl (lv_at hl 2 rfl) ?_
        refine lv_bipush (v := 9) hx hb dX9_atom_94 (by decide) ?_
        refine lv_icmp_lt (tgt := 101) hx hb dX9_atom_96 (by decide) (fun c21 => ?_) (fun c21 => absurd (by decide) c21)
        refine lv_aload_n hx hb dX9_atom_101 rfl (lv_at hl 1 rfl) ?_
        refine z_cv hW hS hA (va_runV (As := []) (rest := []) ⟨hx, hb, hml, hown, hts⟩ (sx_X9_step l G ad c I ⟨(by show 0 ≤ (I 12 1).toInt ∧ (I 12 1).toInt ≤ 500; exact hR.1), (by show 0 ≤ (I 12 5).toInt ∧ (I 12 5).toInt ≤ 501; exact hR.2.1), (by show (-1) ≤ (I 12 6).toInt ∧ (I 12 6).toInt ≤ 1000000; exact hR.2.2.1), (by show 0 ≤ (I 12 9).toInt ∧ (I 12 9).toInt ≤ 500; exact hR.2.2.2.1), (by show 0 ≤ (I 12 13).toInt ∧ (I 12 13).toInt ≤ 24; exact hR.2.2.2.2)⟩   (by show (I 12 6).toInt ≤ 500; first | omega | decide) _) (cwV 0 hts gX9_atom_X9_step rfl rfl rfl hy_X9_step ⟨Nat.le_of_ble_eq_true rfl, Nat.le_of_ble_eq_true rfl⟩) (z_preV (i := 12) hK hW rfl rfl) rfl rfl hl.1 rfl (lv_room (Nat.le_of_ble_eq_true rfl)) dX9_atom_102 ⟨Nat.le_of_ble_eq_true rfl, Nat.le_of_ble_eq_true rfl⟩) (fun u1 H locs hp hW hS => ?_)
        obtain ⟨I22, e9, hI22R, hI22T, fI22⟩ := hp
        rw [e9] at hW
        have f23 := z_fr_sub (L := L_X9_atom_4) z_fr_0 fI22 (by decide)
        have k24 : (I22 12 6).toInt ≤ 501 ∧ ((I22 12 7).toInt = 401 ∨ (I22 12 6).toInt ≤ 500) := hI22T
        refine lv_iload_n hx hb dX9_atom_105 rfl (lv_at hl 0 rfl) ?_
        refine lv_bipush (v := 40) hx hb dX9_atom_106 (by decide) ?_
        refine lv_icmp_ne (tgt := 136) hx hb dX9_atom_108 (by decide) (fun c25 => (by have g := z_f_ne rfl z_l40 c25; omega)) (fun c25 => ?_)
        have g26 := z_f_eq rfl z_l40 c25
        refine lv_aload_n hx hb dX9_atom_111 rfl (lv_at hl 1 rfl) ?_
        refine lv_iload_n hx hb dX9_atom_112 rfl (lv_at hl 2 rfl) ?_
        refine lv_iconst (v := 1) hx hb dX9_atom_113 (by decide) ?_
        refine lv_iadd hx hb dX9_atom_114 ?_
        refine z_topi (v := 5) (by decide) ?_
        refine z_ci hW hS hA (va_runV (As := [.int 5]) (rest := []) ⟨hx, hb, hml, hown, hts⟩ (sx_X9_sum_5 l G ad c I22 ⟨(by show 0 ≤ (I22 12 1).toInt ∧ (I22 12 1).toInt ≤ 500; exact hI22R.1), (by show 0 ≤ (I22 12 5).toInt ∧ (I22 12 5).toInt ≤ 501; exact hI22R.2.1), (by show (-1) ≤ (I22 12 6).toInt ∧ (I22 12 6).toInt ≤ 1000000; exact hI22R.2.2.1), (by show 0 ≤ (I22 12 9).toInt ∧ (I22 12 9).toInt ≤ 500; exact hI22R.2.2.2.1), (by show 0 ≤ (I22 12 13).toInt ∧ (I22 12 13).toInt ≤ 24; exact hI22R.2.2.2.2)⟩ (by show (I22 12 6).toInt ≤ 501 ∧ ((I22 12 7).toInt = 401 ∨ (I22 12 6).toInt ≤ 500); first | omega | decide) _) (cwV 1 hts gX9_atom_X9_sum rfl rfl rfl hy_X9_sum ⟨Nat.le_of_ble_eq_true rfl, Nat.le_of_ble_eq_true rfl⟩) (z_preV (i := 12) hK hW rfl rfl) rfl rfl hl.1 rfl (lv_room (Nat.le_of_ble_eq_true rfl)) dX9_atom_115 ⟨Nat.le_of_ble_eq_true rfl, Nat.le_of_ble_eq_true rfl⟩) (fun r u1 H locs hp hW hS => ?_)
        obtain ⟨I27, e9, hI27R, hI27T, fI27, hp⟩ := hp
        rw [e9] at hW
        have f28 := z_fr_sub (L := L_X9_atom_4) f23 fI27 (by decide)
        have k29 : (I27 12 6).toInt ≤ 501 ∧ ((I27 12 7).toInt = 401 ∨ (I27 12 6).toInt ≤ 500) := hI27T
        rcases hp with rfl | rfl
        · refine lv_if_eq (tgt := 134) hx hb dX9_atom_118 (by decide) (fun c30 => absurd c30 (by decide)) (fun c30 => ?_)
          refine lv_aload_n hx hb dX9_atom_121 rfl (lv_at hl 1 rfl) ?_
          refine lv_bipush (v := 41) hx hb dX9_atom_122 (by decide) ?_
          refine z_ci hW hS hA (va_runV (As := [.int 41]) (rest := []) ⟨hx, hb, hml, hown, hts⟩ (sx_X9_taken l G ad c I27 ⟨(by show 0 ≤ (I27 12 1).toInt ∧ (I27 12 1).toInt ≤ 500; exact hI27R.1), (by show 0 ≤ (I27 12 5).toInt ∧ (I27 12 5).toInt ≤ 501; exact hI27R.2.1), (by show (-1) ≤ (I27 12 6).toInt ∧ (I27 12 6).toInt ≤ 1000000; exact hI27R.2.2.1), (by show 0 ≤ (I27 12 9).toInt ∧ (I27 12 9).toInt ≤ 500; exact hI27R.2.2.2.1), (by show 0 ≤ (I27 12 13).toInt ∧ (I27 12 13).toInt ≤ 24; exact hI27R.2.2.2.2)⟩ (by show (I27 12 6).toInt ≤ 501 ∧ ((I27 12 7).toInt = 401 ∨ (I27 12 6).toInt ≤ 500); first | omega | decide) 41 (by first | omega | decide) _) (cwV 1 hts gX9_atom_X9_taken rfl rfl rfl hy_X9_taken ⟨Nat.le_of_ble_eq_true rfl, Nat.le_of_ble_eq_true rfl⟩) (z_preV (i := 12) hK hW rfl rfl) rfl rfl hl.1 rfl (lv_room (Nat.le_of_ble_eq_true rfl)) dX9_atom_124 ⟨Nat.le_of_ble_eq_true rfl, Nat.le_of_ble_eq_true rfl⟩) (fun r u1 H locs hp hW hS => ?_)
          obtain ⟨I31, e9, hI31R, hI31T, fI31, hp⟩ := hp
          rw [e9] at hW
          have f32 := z_fr_sub (L := L_X9_atom_4) f28 fI31 (by decide)
          have k33 : (I31 12 6).toInt ≤ 501 ∧ ((I31 12 7).toInt = 401 ∨ (I31 12 6).toInt ≤ 500) := hI31T
          rcases hp with rfl | rfl
          · refine lv_if_eq (tgt := 134) hx hb dX9_atom_127 (by decide) (fun c34 => absurd c34 (by decide)) (fun c34 => ?_)
            refine lv_iconst (v := 1) hx hb dX9_atom_130 (by decide) ?_
            refine lv_goto (tgt := 135) hx hb dX9_atom_131 (by decide) ?_
            exact z_zret hx hb hr (by decide) hK hS (Nat.le_of_ble_eq_true rfl) (Nat.le_of_ble_eq_true rfl) hlocks dX9_atom_135 (shC c, ad, I31, JX, PC c ad) hW ⟨I31, rfl, ⟨(by show 0 ≤ (I31 12 1).toInt ∧ (I31 12 1).toInt ≤ 500; exact hI31R.1), (by show 0 ≤ (I31 12 5).toInt ∧ (I31 12 5).toInt ≤ 501; exact hI31R.2.1), (by show (-1) ≤ (I31 12 6).toInt ∧ (I31 12 6).toInt ≤ 1000000; exact hI31R.2.2.1), (by show 0 ≤ (I31 12 9).toInt ∧ (I31 12 9).toInt ≤ 500; exact hI31R.2.2.2.1), (by show 0 ≤ (I31 12 13).toInt ∧ (I31 12 13).toInt ≤ 24; exact hI31R.2.2.2.2)⟩, (by show (I31 12 6).toInt ≤ 501 ∧ ((I31 12 7).toInt = 401 ∨ (I31 12 6).toInt ≤ 500); first | omega | decide), f32, Or.inl rfl⟩
          · refine lv_if_eq (tgt := 134) hx hb dX9_atom_127 (by decide) (fun c35 => ?_) (fun c35 => absurd (by decide) c35)
            refine lv_iconst (v := 0) hx hb dX9_atom_134 (by decide) ?_
            exact z_zret hx hb hr (by decide) hK hS (Nat.le_of_ble_eq_true rfl) (Nat.le_of_ble_eq_true rfl) hlocks dX9_atom_135 (shC c, ad, I31, JX, PC c ad) hW ⟨I31, rfl, ⟨(by show 0 ≤ (I31 12 1).toInt ∧ (I31 12 1).toInt ≤ 500; exact hI31R.1), (by show 0 ≤ (I31 12 5).toInt ∧ (I31 12 5).toInt ≤ 501; exact hI31R.2.1), (by show (-1) ≤ (I31 12 6).toInt ∧ (I31 12 6).toInt ≤ 1000000; exact hI31R.2.2.1), (by show 0 ≤ (I31 12 9).toInt ∧ (I31 12 9).toInt ≤ 500; exact hI31R.2.2.2.1), (by show 0 ≤ (I31 12 13).toInt ∧ (I31 12 13).toInt ≤ 24; exact hI31R.2.2.2.2)⟩, (by show (I31 12 6).toInt ≤ 501 ∧ ((I31 12 7).toInt = 401 ∨ (I31 12 6).toInt ≤ 500); first | omega | decide), f32, Or.inr rfl⟩
        · refine lv_if_eq (tgt := 134) hx hb dX9_atom_118 (by decide) (fun c36 => ?_) (fun c36 => absurd (by decide) c36)
          refine lv_iconst (v := 0) hx hb dX9_atom_134 (by decide) ?_
          exact z_zret hx hb hr (by decide) hK hS (Nat.le_of_ble_eq_true rfl) (Nat.le_of_ble_eq_true rfl) hlocks dX9_atom_135 (shC c, ad, I27, JX, PC c ad) hW ⟨I27, rfl, ⟨(by show 0 ≤ (I27 12 1).toInt ∧ (I27 12 1).toInt ≤ 500; exact hI27R.1), (by show 0 ≤ (I27 12 5).toInt ∧ (I27 12 5).toInt ≤ 501; exact hI27R.2.1), (by show (-1) ≤ (I27 12 6).toInt ∧ (I27 12 6).toInt ≤ 1000000; exact hI27R.2.2.1), (by show 0 ≤ (I27 12 9).toInt ∧ (I27 12 9).toInt ≤ 500; exact hI27R.2.2.2.1), (by show 0 ≤ (I27 12 13).toInt ∧ (I27 12 13).toInt ≤ 24; exact hI27R.2.2.2.2)⟩, (by show (I27 12 6).toInt ≤ 501 ∧ ((I27 12 7).toInt = 401 ∨ (I27 12 6).toInt ≤ 500); first | omega | decide), f28, Or.inr rfl⟩
      · have g37 := z_f_ne rfl z_l40 c19
        refine lv_iload_n hx hb dX9_atom_79 rfl (lv_at hl 0 rfl) ?_
        refine lv_sipush (v := 312) hx hb dX9_atom_80 (by decide) ?_
        refine lv_icmp_eq (tgt := 93) hx hb dX9_atom_83 (by decide) (fun c38 => ?_) (fun c38 => ?_)
        · have g39 := z_f_eq rfl z_l312 c38
          refine lv_iload_n hx hb dX9_atom_93 rfl (lv_at hl 2 rfl) ?_
          refine lv_bipush (v := 9) hx hb dX9_atom_94 (by decide) ?_
          refine lv_icmp_lt (tgt := 101) hx hb dX9_atom_96 (by decide) (fun c40 => ?_) (fun c40 => absurd (by decide) c40)
          refine lv_aload_n hx hb dX9_atom_101 rfl (lv_at hl 1 rfl) ?_
          refine z_cv hW hS hA (va_runV (As := []) (rest := []) ⟨hx, hb, hml, hown, hts⟩ (sx_X9_step l G ad c I ⟨(by show 0 ≤ (I 12 1).toInt ∧ (I 12 1).toInt ≤ 500; exact hR.1), (by show 0 ≤ (I 12 5).toInt ∧ (I 12 5).toInt ≤ 501; exact hR.2.1), (by show (-1) ≤ (I 12 6).toInt ∧ (I 12 6).toInt ≤ 1000000; exact hR.2.2.1), (by show 0 ≤ (I 12 9).toInt ∧ (I 12 9).toInt ≤ 500; exact hR.2.2.2.1), (by show 0 ≤ (I 12 13).toInt ∧ (I 12 13).toInt ≤ 24; exact hR.2.2.2.2)⟩   (by show (I 12 6).toInt ≤ 500; first | omega | decide) _) (cwV 0 hts gX9_atom_X9_step rfl rfl rfl hy_X9_step ⟨Nat.le_of_ble_eq_true rfl, Nat.le_of_ble_eq_true rfl⟩) (z_preV (i := 12) hK hW rfl rfl) rfl rfl hl.1 rfl (lv_room (Nat.le_of_ble_eq_true rfl)) dX9_atom_102 ⟨Nat.le_of_ble_eq_true rfl, Nat.le_of_ble_eq_true rfl⟩) (fun u1 H locs hp hW hS => ?_)
          obtain ⟨I41, e9, hI41R, hI41T, fI41⟩ := hp
          rw [e9] at hW
          have f42 := z_fr_sub (L := L_X9_atom_4) z_fr_0 fI41 (by decide)
          have k43 : (I41 12 6).toInt ≤ 501 ∧ ((I41 12 7).toInt = 401 ∨ (I41 12 6).toInt ≤ 500) := hI41T
          refine lv_iload_n hx hb dX9_atom_105 rfl (lv_at hl 0 rfl) ?_
          refine lv_bipush (v := 40) hx hb dX9_atom_106 (by decide) ?_
          refine lv_icmp_ne (tgt := 136) hx hb dX9_atom_108 (by decide) (fun c44 => ?_) (fun c44 => (by have g := z_f_eq rfl z_l40 c44; omega))
          have g45 := z_f_ne rfl z_l40 c44
          refine lv_aload_n hx hb dX9_atom_136 rfl (lv_at hl 1 rfl) ?_
          refine lv_bipush (v := 40) hx hb dX9_atom_137 (by decide) ?_
          refine z_ci hW hS hA (va_runV (As := [.int 40]) (rest := []) ⟨hx, hb, hml, hown, hts⟩ (sx_X9_taken l G ad c I41 ⟨(by show 0 ≤ (I41 12 1).toInt ∧ (I41 12 1).toInt ≤ 500; exact hI41R.1), (by show 0 ≤ (I41 12 5).toInt ∧ (I41 12 5).toInt ≤ 501; exact hI41R.2.1), (by show (-1) ≤ (I41 12 6).toInt ∧ (I41 12 6).toInt ≤ 1000000; exact hI41R.2.2.1), (by show 0 ≤ (I41 12 9).toInt ∧ (I41 12 9).toInt ≤ 500; exact hI41R.2.2.2.1), (by show 0 ≤ (I41 12 13).toInt ∧ (I41 12 13).toInt ≤ 24; exact hI41R.2.2.2.2)⟩ (by show (I41 12 6).toInt ≤ 501 ∧ ((I41 12 7).toInt = 401 ∨ (I41 12 6).toInt ≤ 500); first | omega | decide) 40 (by first | omega | decide) _) (cwV 1 hts gX9_atom_X9_taken rfl rfl rfl hy_X9_taken ⟨Nat.le_of_ble_eq_true rfl, Nat.le_of_ble_eq_true rfl⟩) (z_preV (i := 12) hK hW rfl rfl) rfl rfl hl.1 rfl (lv_room (Nat.le_of_ble_eq_true rfl)) dX9_atom_139 ⟨Nat.le_of_ble_eq_true rfl, Nat.le_of_ble_eq_true rfl⟩) (fun r u1 H locs hp hW hS => ?_)
          obtain ⟨I46, e9, hI46R, hI46T, fI46, hp⟩ := hp
          rw [e9] at hW
          have f47 := z_fr_sub (L := L_X9_atom_4) f42 fI46 (by decide)
          have k48 : (I46 12 6).toInt ≤ 501 ∧ ((I46 12 7).toInt = 401 ∨ (I46 12 6).toInt ≤ 500) := hI46T
          rcases hp with rfl | rfl
          · refine lv_if_eq (tgt := 183) hx hb dX9_atom_142 (by decide) (fun c49 => absurd c49 (by decide)) (fun c49 => ?_)
            refine lv_aload_n hx hb dX9_atom_145 rfl (lv_at hl 1 rfl) ?_
            refine lv_iload_n hx hb dX9_atom_146 rfl (lv_at hl 2 rfl) ?_
            refine lv_iconst (v := 1) hx hb dX9_atom_147 (by decide) ?_
            refine lv_iadd hx hb dX9_atom_148 ?_
            refine z_topi (v := 5) (by decide) ?_
            refine z_ci hW hS hA (va_runV (As := [.int 5]) (rest := []) ⟨hx, hb, hml, hown, hts⟩ (sx_X9_sum_5 l G ad c I46 ⟨(by show 0 ≤ (I46 12 1).toInt ∧ (I46 12 1).toInt ≤ 500; exact hI46R.1), (by show 0 ≤ (I46 12 5).toInt ∧ (I46 12 5).toInt ≤ 501; exact hI46R.2.1), (by show (-1) ≤ (I46 12 6).toInt ∧ (I46 12 6).toInt ≤ 1000000; exact hI46R.2.2.1), (by show 0 ≤ (I46 12 9).toInt ∧ (I46 12 9).toInt ≤ 500; exact hI46R.2.2.2.1), (by show 0 ≤ (I46 12 13).toInt ∧ (I46 12 13).toInt ≤ 24; exact hI46R.2.2.2.2)⟩ (by show (I46 12 6).toInt ≤ 501 ∧ ((I46 12 7).toInt = 401 ∨ (I46 12 6).toInt ≤ 500); first | omega | decide) _) (cwV 1 hts gX9_atom_X9_sum rfl rfl rfl hy_X9_sum ⟨Nat.le_of_ble_eq_true rfl, Nat.le_of_ble_eq_true rfl⟩) (z_preV (i := 12) hK hW rfl rfl) rfl rfl hl.1 rfl (lv_room (Nat.le_of_ble_eq_true rfl)) dX9_atom_149 ⟨Nat.le_of_ble_eq_true rfl, Nat.le_of_ble_eq_true rfl⟩) (fun r u1 H locs hp hW hS => ?_)
            obtain ⟨I50, e9, hI50R, hI50T, fI50, hp⟩ := hp
            rw [e9] at hW
            have f51 := z_fr_sub (L := L_X9_atom_4) f47 fI50 (by decide)
            have k52 : (I50 12 6).toInt ≤ 501 ∧ ((I50 12 7).toInt = 401 ∨ (I50 12 6).toInt ≤ 500) := hI50T
            rcases hp with rfl | rfl
            · refine lv_if_eq (tgt := 183) hx hb dX9_atom_152 (by decide) (fun c53 => absurd c53 (by decide)) (fun c53 => ?_)
              refine lv_aload_n hx hb dX9_atom_155 rfl (lv_at hl 1 rfl) ?_
              refine lv_bipush (v := 44) hx hb dX9_atom_156 (by decide) ?_
              refine z_ci hW hS hA (va_runV (As := [.int 44]) (rest := []) ⟨hx, hb, hml, hown, hts⟩ (sx_X9_taken l G ad c I50 ⟨(by show 0 ≤ (I50 12 1).toInt ∧ (I50 12 1).toInt ≤ 500; exact hI50R.1), (by show 0 ≤ (I50 12 5).toInt ∧ (I50 12 5).toInt ≤ 501; exact hI50R.2.1), (by show (-1) ≤ (I50 12 6).toInt ∧ (I50 12 6).toInt ≤ 1000000; exact hI50R.2.2.1), (by show 0 ≤ (I50 12 9).toInt ∧ (I50 12 9).toInt ≤ 500; exact hI50R.2.2.2.1), (by show 0 ≤ (I50 12 13).toInt ∧ (I50 12 13).toInt ≤ 24; exact hI50R.2.2.2.2)⟩ (by show (I50 12 6).toInt ≤ 501 ∧ ((I50 12 7).toInt = 401 ∨ (I50 12 6).toInt ≤ 500); first | omega | decide) 44 (by first | omega | decide) _) (cwV 1 hts gX9_atom_X9_taken rfl rfl rfl hy_X9_taken ⟨Nat.le_of_ble_eq_true rfl, Nat.le_of_ble_eq_true rfl⟩) (z_preV (i := 12) hK hW rfl rfl) rfl rfl hl.1 rfl (lv_room (Nat.le_of_ble_eq_true rfl)) dX9_atom_158 ⟨Nat.le_of_ble_eq_true rfl, Nat.le_of_ble_eq_true rfl⟩) (fun r u1 H locs hp hW hS => ?_)
              obtain ⟨I54, e9, hI54R, hI54T, fI54, hp⟩ := hp
              rw [e9] at hW
              have f55 := z_fr_sub (L := L_X9_atom_4) f51 fI54 (by decide)
              have k56 : (I54 12 6).toInt ≤ 501 ∧ ((I54 12 7).toInt = 401 ∨ (I54 12 6).toInt ≤ 500) := hI54T
              rcases hp with rfl | rfl
              · refine lv_if_eq (tgt := 183) hx hb dX9_atom_161 (by decide) (fun c57 => absurd c57 (by decide)) (fun c57 => ?_)
                refine lv_aload_n hx hb dX9_atom_164 rfl (lv_at hl 1 rfl) ?_
                refine lv_iload_n hx hb dX9_atom_165 rfl (lv_at hl 2 rfl) ?_
                refine lv_iconst (v := 1) hx hb dX9_atom_166 (by decide) ?_
                refine lv_iadd hx hb dX9_atom_167 ?_
                refine z_topi (v := 5) (by decide) ?_
                refine z_ci hW hS hA (va_runV (As := [.int 5]) (rest := []) ⟨hx, hb, hml, hown, hts⟩ (sx_X9_sum_5 l G ad c I54 ⟨(by show 0 ≤ (I54 12 1).toInt ∧ (I54 12 1).toInt ≤ 500; exact hI54R.1), (by show 0 ≤ (I54 12 5).toInt ∧ (I54 12 5).toInt ≤ 501; exact hI54R.2.1), (by show (-1) ≤ (I54 12 6).toInt ∧ (I54 12 6).toInt ≤ 1000000; exact hI54R.2.2.1), (by show 0 ≤ (I54 12 9).toInt ∧ (I54 12 9).toInt ≤ 500; exact hI54R.2.2.2.1), (by show 0 ≤ (I54 12 13).toInt ∧ (I54 12 13).toInt ≤ 24; exact hI54R.2.2.2.2)⟩ (by show (I54 12 6).toInt ≤ 501 ∧ ((I54 12 7).toInt = 401 ∨ (I54 12 6).toInt ≤ 500); first | omega | decide) _) (cwV 1 hts gX9_atom_X9_sum rfl rfl rfl hy_X9_sum ⟨Nat.le_of_ble_eq_true rfl, Nat.le_of_ble_eq_true rfl⟩) (z_preV (i := 12) hK hW rfl rfl) rfl rfl hl.1 rfl (lv_room (Nat.le_of_ble_eq_true rfl)) dX9_atom_168 ⟨Nat.le_of_ble_eq_true rfl, Nat.le_of_ble_eq_true rfl⟩) (fun r u1 H locs hp hW hS => ?_)
                obtain ⟨I58, e9, hI58R, hI58T, fI58, hp⟩ := hp
                rw [e9] at hW
                have f59 := z_fr_sub (L := L_X9_atom_4) f55 fI58 (by decide)
                have k60 : (I58 12 6).toInt ≤ 501 ∧ ((I58 12 7).toInt = 401 ∨ (I58 12 6).toInt ≤ 500) := hI58T
                rcases hp with rfl | rfl
                · refine lv_if_eq (tgt := 183) hx hb dX9_atom_171 (by decide) (fun c61 => absurd c61 (by decide)) (fun c61 => ?_)
                  refine lv_aload_n hx hb dX9_atom_174 rfl (lv_at hl 1 rfl) ?_
                  refine lv_bipush (v := 41) hx hb dX9_atom_175 (by decide) ?_
                  refine z_ci hW hS hA (va_runV (As := [.int 41]) (rest := []) ⟨hx, hb, hml, hown, hts⟩ (sx_X9_taken l G ad c I58 ⟨(by show 0 ≤ (I58 12 1).toInt ∧ (I58 12 1).toInt ≤ 500; exact hI58R.1), (by show 0 ≤ (I58 12 5).toInt ∧ (I58 12 5).toInt ≤ 501; exact hI58R.2.1), (by show (-1) ≤ (I58 12 6).toInt ∧ (I58 12 6).toInt ≤ 1000000; exact hI58R.2.2.1), (by show 0 ≤ (I58 12 9).toInt ∧ (I58 12 9).toInt ≤ 500; exact hI58R.2.2.2.1), (by show 0 ≤ (I58 12 13).toInt ∧ (I58 12 13).toInt ≤ 24; exact hI58R.2.2.2.2)⟩ (by show (I58 12 6).toInt ≤ 501 ∧ ((I58 12 7).toInt = 401 ∨ (I58 12 6).toInt ≤ 500); first | omega | decide) 41 (by first | omega | decide) _) (cwV 1 hts gX9_atom_X9_taken rfl rfl rfl hy_X9_taken ⟨Nat.le_of_ble_eq_true rfl, Nat.le_of_ble_eq_true rfl⟩) (z_preV (i := 12) hK hW rfl rfl) rfl rfl hl.1 rfl (lv_room (Nat.le_of_ble_eq_true rfl)) dX9_atom_177 ⟨Nat.le_of_ble_eq_true rfl, Nat.le_of_ble_eq_true rfl⟩) (fun r u1 H locs hp hW hS => ?_)
                  obtain ⟨I62, e9, hI62R, hI62T, fI62, hp⟩ := hp
                  rw [e9] at hW
                  have f63 := z_fr_sub (L := L_X9_atom_4) f59 fI62 (by decide)
                  have k64 : (I62 12 6).toInt ≤ 501 ∧ ((I62 12 7).toInt = 401 ∨ (I62 12 6).toInt ≤ 500) := hI62T
                  rcases hp with rfl | rfl
                  · refine lv_if_ne (tgt := 185) hx hb dX9_atom_180 (by decide) (fun c65 => ?_) (fun c65 => absurd c65 (by decide))
                    refine lv_aload_n hx hb dX9_atom_185 rfl (lv_at hl 1 rfl) ?_
                    refine lv_iload_n hx hb dX9_atom_186 rfl (lv_at hl 0 rfl) ?_
                    refine lv_sipush (v := 312) hx hb dX9_atom_187 (by decide) ?_
                    refine lv_icmp_ne (tgt := 198) hx hb dX9_atom_190 (by decide) (fun c66 => (by have g := z_f_ne rfl z_l312 c66; omega)) (fun c66 => ?_)
                    have g67 := z_f_eq rfl z_l312 c66
                    refine lv_bipush (v := (-5)) hx hb dX9_atom_193 (by decide) ?_
                    refine lv_goto (tgt := 200) hx hb dX9_atom_195 (by decide) ?_
                    refine z_cv hW hS hA (va_runV (As := [.int (-5)]) (rest := []) ⟨hx, hb, hml, hown, hts⟩ (sx_X9_emit l G ad c I62 ⟨(by show 0 ≤ (I62 12 1).toInt ∧ (I62 12 1).toInt ≤ 500; exact hI62R.1), (by show 0 ≤ (I62 12 5).toInt ∧ (I62 12 5).toInt ≤ 501; exact hI62R.2.1), (by show (-1) ≤ (I62 12 6).toInt ∧ (I62 12 6).toInt ≤ 1000000; exact hI62R.2.2.1), (by show 0 ≤ (I62 12 9).toInt ∧ (I62 12 9).toInt ≤ 500; exact hI62R.2.2.2.1), (by show 0 ≤ (I62 12 13).toInt ∧ (I62 12 13).toInt ≤ 24; exact hI62R.2.2.2.2)⟩ (-5) _) (cwV 1 hts gX9_atom_X9_emit rfl rfl rfl hy_X9_emit ⟨Nat.le_of_ble_eq_true rfl, Nat.le_of_ble_eq_true rfl⟩) (z_preV (i := 12) hK hW rfl rfl) rfl rfl hl.1 rfl (lv_room (Nat.le_of_ble_eq_true rfl)) dX9_atom_200 ⟨Nat.le_of_ble_eq_true rfl, Nat.le_of_ble_eq_true rfl⟩) (fun u1 H locs hp hW hS => ?_)
                    obtain ⟨I68, e9, hI68R, fI68⟩ := hp
                    rw [e9] at hW
                    have f69 := z_fr_sub (L := L_X9_atom_4) f63 fI68 (by decide)
                    have k70 : (I68 12 6).toInt ≤ 501 ∧ ((I68 12 7).toInt = 401 ∨ (I68 12 6).toInt ≤ 500) := (by have q0 : (I68 12 6) = (I62 12 6) := (by rw [fI68 12 6 (by decide)]); have q1 : (I68 12 7) = (I62 12 7) := (by rw [fI68 12 7 (by decide)]); show (I68 12 6).toInt ≤ 501 ∧ ((I68 12 7).toInt = 401 ∨ (I68 12 6).toInt ≤ 500); rw [q0, q1]; first | omega | decide)
                    have k71 : (I68 12 6).toInt = (I62 12 6).toInt := by rw [fI68 12 6 (by decide)]
                    have k72 : (I68 12 7).toInt = (I62 12 7).toInt := by rw [fI68 12 7 (by decide)]
                    refine lv_iconst (v := 1) hx hb dX9_atom_203 (by decide) ?_
                    exact z_zret hx hb hr (by decide) hK hS (Nat.le_of_ble_eq_true rfl) (Nat.le_of_ble_eq_true rfl) hlocks dX9_atom_204 (shC c, ad, I68, JX, PC c ad) hW ⟨I68, rfl, ⟨(by show 0 ≤ (I68 12 1).toInt ∧ (I68 12 1).toInt ≤ 500; exact hI68R.1), (by show 0 ≤ (I68 12 5).toInt ∧ (I68 12 5).toInt ≤ 501; exact hI68R.2.1), (by show (-1) ≤ (I68 12 6).toInt ∧ (I68 12 6).toInt ≤ 1000000; exact hI68R.2.2.1), (by show 0 ≤ (I68 12 9).toInt ∧ (I68 12 9).toInt ≤ 500; exact hI68R.2.2.2.1), (by show 0 ≤ (I68 12 13).toInt ∧ (I68 12 13).toInt ≤ 24; exact hI68R.2.2.2.2)⟩, (by show (I68 12 6).toInt ≤ 501 ∧ ((I68 12 7).toInt = 401 ∨ (I68 12 6).toInt ≤ 500); first | omega | decide), f69, Or.inl rfl⟩
                  · refine lv_if_ne (tgt := 185) hx hb dX9_atom_180 (by decide) (fun c73 => absurd (by decide) c73) (fun c73 => ?_)
                    refine lv_iconst (v := 0) hx hb dX9_atom_183 (by decide) ?_
                    exact z_zret hx hb hr (by decide) hK hS (Nat.le_of_ble_eq_true rfl) (Nat.le_of_ble_eq_true rfl) hlocks dX9_atom_184 (shC c, ad, I62, JX, PC c ad) hW ⟨I62, rfl, ⟨(by show 0 ≤ (I62 12 1).toInt ∧ (I62 12 1).toInt ≤ 500; exact hI62R.1), (by show 0 ≤ (I62 12 5).toInt ∧ (I62 12 5).toInt ≤ 501; exact hI62R.2.1), (by show (-1) ≤ (I62 12 6).toInt ∧ (I62 12 6).toInt ≤ 1000000; exact hI62R.2.2.1), (by show 0 ≤ (I62 12 9).toInt ∧ (I62 12 9).toInt ≤ 500; exact hI62R.2.2.2.1), (by show 0 ≤ (I62 12 13).toInt ∧ (I62 12 13).toInt ≤ 24; exact hI62R.2.2.2.2)⟩, (by show (I62 12 6).toInt ≤ 501 ∧ ((I62 12 7).toInt = 401 ∨ (I62 12 6).toInt ≤ 500); first | omega | decide), f63, Or.inr rfl⟩
                · refine lv_if_eq (tgt := 183) hx hb dX9_atom_171 (by decide) (fun c74 => ?_) (fun c74 => absurd (by decide) c74)
                  refine lv_iconst (v := 0) hx hb dX9_atom_183 (by decide) ?_
                  exact z_zret hx hb hr (by decide) hK hS (Nat.le_of_ble_eq_true rfl) (Nat.le_of_ble_eq_true rfl) hlocks dX9_atom_184 (shC c, ad, I58, JX, PC c ad) hW ⟨I58, rfl, ⟨(by show 0 ≤ (I58 12 1).toInt ∧ (I58 12 1).toInt ≤ 500; exact hI58R.1), (by show 0 ≤ (I58 12 5).toInt ∧ (I58 12 5).toInt ≤ 501; exact hI58R.2.1), (by show (-1) ≤ (I58 12 6).toInt ∧ (I58 12 6).toInt ≤ 1000000; exact hI58R.2.2.1), (by show 0 ≤ (I58 12 9).toInt ∧ (I58 12 9).toInt ≤ 500; exact hI58R.2.2.2.1), (by show 0 ≤ (I58 12 13).toInt ∧ (I58 12 13).toInt ≤ 24; exact hI58R.2.2.2.2)⟩, (by show (I58 12 6).toInt ≤ 501 ∧ ((I58 12 7).toInt = 401 ∨ (I58 12 6).toInt ≤ 500); first | omega | decide), f59, Or.inr rfl⟩
              · refine lv_if_eq (tgt := 183) hx hb dX9_atom_161 (by decide) (fun c75 => ?_) (fun c75 => absurd (by decide) c75)
                refine lv_iconst (v := 0) hx hb dX9_atom_183 (by decide) ?_
                exact z_zret hx hb hr (by decide) hK hS (Nat.le_of_ble_eq_true rfl) (Nat.le_of_ble_eq_true rfl) hlocks dX9_atom_184 (shC c, ad, I54, JX, PC c ad) hW ⟨I54, rfl, ⟨(by show 0 ≤ (I54 12 1).toInt ∧ (I54 12 1).toInt ≤ 500; exact hI54R.1), (by show 0 ≤ (I54 12 5).toInt ∧ (I54 12 5).toInt ≤ 501; exact hI54R.2.1), (by show (-1) ≤ (I54 12 6).toInt ∧ (I54 12 6).toInt ≤ 1000000; exact hI54R.2.2.1), (by show 0 ≤ (I54 12 9).toInt ∧ (I54 12 9).toInt ≤ 500; exact hI54R.2.2.2.1), (by show 0 ≤ (I54 12 13).toInt ∧ (I54 12 13).toInt ≤ 24; exact hI54R.2.2.2.2)⟩, (by show (I54 12 6).toInt ≤ 501 ∧ ((I54 12 7).toInt = 401 ∨ (I54 12 6).toInt ≤ 500); first | omega | decide), f55, Or.inr rfl⟩
            · refine lv_if_eq (tgt := 183) hx hb dX9_atom_152 (by decide) (fun c76 => ?_) (fun c76 => absurd (by decide) c76)
              refine lv_iconst (v := 0) hx hb dX9_atom_183 (by decide) ?_
              exact z_zret hx hb hr (by decide) hK hS (Nat.le_of_ble_eq_true rfl) (Nat.le_of_ble_eq_true rfl) hlocks dX9_atom_184 (shC c, ad, I50, JX, PC c ad) hW ⟨I50, rfl, ⟨(by show 0 ≤ (I50 12 1).toInt ∧ (I50 12 1).toInt ≤ 500; exact hI50R.1), (by show 0 ≤ (I50 12 5).toInt ∧ (I50 12 5).toInt ≤ 501; exact hI50R.2.1), (by show (-1) ≤ (I50 12 6).toInt ∧ (I50 12 6).toInt ≤ 1000000; exact hI50R.2.2.1), (by show 0 ≤ (I50 12 9).toInt ∧ (I50 12 9).toInt ≤ 500; exact hI50R.2.2.2.1), (by show 0 ≤ (I50 12 13).toInt ∧ (I50 12 13).toInt ≤ 24; exact hI50R.2.2.2.2)⟩, (by show (I50 12 6).toInt ≤ 501 ∧ ((I50 12 7).toInt = 401 ∨ (I50 12 6).toInt ≤ 500); first | omega | decide), f51, Or.inr rfl⟩
          · refine lv_if_eq (tgt := 183) hx hb dX9_atom_142 (by decide) (fun c77 => ?_) (fun c77 => absurd (by decide) c77)
            refine lv_iconst (v := 0) hx hb dX9_atom_183 (by decide) ?_
            exact z_zret hx hb hr (by decide) hK hS (Nat.le_of_ble_eq_true rfl) (Nat.le_of_ble_eq_true rfl) hlocks dX9_atom_184 (shC c, ad, I46, JX, PC c ad) hW ⟨I46, rfl, ⟨(by show 0 ≤ (I46 12 1).toInt ∧ (I46 12 1).toInt ≤ 500; exact hI46R.1), (by show 0 ≤ (I46 12 5).toInt ∧ (I46 12 5).toInt ≤ 501; exact hI46R.2.1), (by show (-1) ≤ (I46 12 6).toInt ∧ (I46 12 6).toInt ≤ 1000000; exact hI46R.2.2.1), (by show 0 ≤ (I46 12 9).toInt ∧ (I46 12 9).toInt ≤ 500; exact hI46R.2.2.2.1), (by show 0 ≤ (I46 12 13).toInt ∧ (I46 12 13).toInt ≤ 24; exact hI46R.2.2.2.2)⟩, (by show (I46 12 6).toInt ≤ 501 ∧ ((I46 12 7).toInt = 401 ∨ (I46 12 6).toInt ≤ 500); first | omega | decide), f47, Or.inr rfl⟩
        · have g78 := z_f_ne rfl z_l312 c38
          refine lv_iload_n hx hb dX9_atom_86 rfl (lv_at hl 0 rfl) ?_
          refine lv_sipush (v := 313) hx hb dX9_atom_87 (by decide) ?_
          refine lv_icmp_ne (tgt := 99) hx hb dX9_atom_90 (by decide) (fun c79 => ?_) (fun c79 => ?_)
          · have g80 := z_f_ne rfl z_l313 c79
            refine lv_iconst (v := 0) hx hb dX9_atom_99 (by decide) ?_
            exact z_zret hx hb hr (by decide) hK hS (Nat.le_of_ble_eq_true rfl) (Nat.le_of_ble_eq_true rfl) hlocks dX9_atom_100 (shC c, ad, I, JX, PC c ad) hW ⟨I, rfl, ⟨(by show 0 ≤ (I 12 1).toInt ∧ (I 12 1).toInt ≤ 500; exact hR.1), (by show 0 ≤ (I 12 5).toInt ∧ (I 12 5).toInt ≤ 501; exact hR.2.1), (by show (-1) ≤ (I 12 6).toInt ∧ (I 12 6).toInt ≤ 1000000; exact hR.2.2.1), (by show 0 ≤ (I 12 9).toInt ∧ (I 12 9).toInt ≤ 500; exact hR.2.2.2.1), (by show 0 ≤ (I 12 13).toInt ∧ (I 12 13).toInt ≤ 24; exact hR.2.2.2.2)⟩, (by show (I 12 6).toInt ≤ 501 ∧ ((I 12 7).toInt = 401 ∨ (I 12 6).toInt ≤ 500); first | omega | decide), z_fr_0, Or.inr rfl⟩
          · have g81 := z_f_eq rfl z_l313 c79
            refine lv_iload_n hx hb dX9_atom_93 rfl (lv_at hl 2 rfl) ?_
            refine lv_bipush (v := 9) hx hb dX9_atom_94 (by decide) ?_
            refine lv_icmp_lt (tgt := 101) hx hb dX9_atom_96 (by decide) (fun c82 => ?_) (fun c82 => absurd (by decide) c82)
            refine lv_aload_n hx hb dX9_atom_101 rfl (lv_at hl 1 rfl) ?_
            refine z_cv hW hS hA (va_runV (As := []) (rest := []) ⟨hx, hb, hml, hown, hts⟩ (sx_X9_step l G ad c I ⟨(by show 0 ≤ (I 12 1).toInt ∧ (I 12 1).toInt ≤ 500; exact hR.1), (by show 0 ≤ (I 12 5).toInt ∧ (I 12 5).toInt ≤ 501; exact hR.2.1), (by show (-1) ≤ (I 12 6).toInt ∧ (I 12 6).toInt ≤ 1000000; exact hR.2.2.1), (by show 0 ≤ (I 12 9).toInt ∧ (I 12 9).toInt ≤ 500; exact hR.2.2.2.1), (by show 0 ≤ (I 12 13).toInt ∧ (I 12 13).toInt ≤ 24; exact hR.2.2.2.2)⟩   (by show (I 12 6).toInt ≤ 500; first | omega | decide) _) (cwV 0 hts gX9_atom_X9_step rfl rfl rfl hy_X9_step ⟨Nat.le_of_ble_eq_true rfl, Nat.le_of_ble_eq_true rfl⟩) (z_preV (i := 12) hK hW rfl rfl) rfl rfl hl.1 rfl (lv_room (Nat.le_of_ble_eq_true rfl)) dX9_atom_102 ⟨Nat.le_of_ble_eq_true rfl, Nat.le_of_ble_eq_true rfl⟩) (fun u1 H locs hp hW hS => ?_)
            obtain ⟨I83, e9, hI83R, hI83T, fI83⟩ := hp
            rw [e9] at hW
            have f84 := z_fr_sub (L := L_X9_atom_4) z_fr_0 fI83 (by decide)
            have k85 : (I83 12 6).toInt ≤ 501 ∧ ((I83 12 7).toInt = 401 ∨ (I83 12 6).toInt ≤ 500) := hI83T
            refine lv_iload_n hx hb dX9_atom_105 rfl (lv_at hl 0 rfl) ?_
            refine lv_bipush (v := 40) hx hb dX9_atom_106 (by decide) ?_
            refine lv_icmp_ne (tgt := 136) hx hb dX9_atom_108 (by decide) (fun c86 => ?_) (fun c86 => (by have g := z_f_eq rfl z_l40 c86; omega))
            have g87 := z_f_ne rfl z_l40 c86
            refine lv_aload_n hx hb dX9_atom_136 rfl (lv_at hl 1 rfl) ?_
            refine lv_bipush (v := 40) hx hb dX9_atom_137 (by decide) ?_
            refine z_ci hW hS hA (va_runV (As := [.int 40]) (rest := []) ⟨hx, hb, hml, hown, hts⟩ (sx_X9_taken l G ad c I83 ⟨(by show 0 ≤ (I83 12 1).toInt ∧ (I83 12 1).toInt ≤ 500; exact hI83R.1), (by show 0 ≤ (I83 12 5).toInt ∧ (I83 12 5).toInt ≤ 501; exact hI83R.2.1), (by show (-1) ≤ (I83 12 6).toInt ∧ (I83 12 6).toInt ≤ 1000000; exact hI83R.2.2.1), (by show 0 ≤ (I83 12 9).toInt ∧ (I83 12 9).toInt ≤ 500; exact hI83R.2.2.2.1), (by show 0 ≤ (I83 12 13).toInt ∧ (I83 12 13).toInt ≤ 24; exact hI83R.2.2.2.2)⟩ (by show (I83 12 6).toInt ≤ 501 ∧ ((I83 12 7).toInt = 401 ∨ (I83 12 6).toInt ≤ 500); first | omega | decide) 40 (by first | omega | decide) _) (cwV 1 hts gX9_atom_X9_taken rfl rfl rfl hy_X9_taken ⟨Nat.le_of_ble_eq_true rfl, Nat.le_of_ble_eq_true rfl⟩) (z_preV (i := 12) hK hW rfl rfl) rfl rfl hl.1 rfl (lv_room (Nat.le_of_ble_eq_true rfl)) dX9_atom_139 ⟨Nat.le_of_ble_eq_true rfl, Nat.le_of_ble_eq_true rfl⟩) (fun r u1 H locs hp hW hS => ?_)
            obtain ⟨I88, e9, hI88R, hI88T, fI88, hp⟩ := hp
            rw [e9] at hW
            have f89 := z_fr_sub (L := L_X9_atom_4) f84 fI88 (by decide)
            have k90 : (I88 12 6).toInt ≤ 501 ∧ ((I88 12 7).toInt = 401 ∨ (I88 12 6).toInt ≤ 500) := hI88T
            rcases hp with rfl | rfl
            · refine lv_if_eq (tgt := 183) hx hb dX9_atom_142 (by decide) (fun c91 => absurd c91 (by decide)) (fun c91 => ?_)
              refine lv_aload_n hx hb dX9_atom_145 rfl (lv_at hl 1 rfl) ?_
              refine lv_iload_n hx hb dX9_atom_146 rfl (lv_at hl 2 rfl) ?_
              refine lv_iconst (v := 1) hx hb dX9_atom_147 (by decide) ?_
              refine lv_iadd hx hb dX9_atom_148 ?_
              refine z_topi (v := 5) (by decide) ?_
              refine z_ci hW hS hA (va_runV (As := [.int 5]) (rest := []) ⟨hx, hb, hml, hown, hts⟩ (sx_X9_sum_5 l G ad c I88 ⟨(by show 0 ≤ (I88 12 1).toInt ∧ (I88 12 1).toInt ≤ 500; exact hI88R.1), (by show 0 ≤ (I88 12 5).toInt ∧ (I88 12 5).toInt ≤ 501; exact hI88R.2.1), (by show (-1) ≤ (I88 12 6).toInt ∧ (I88 12 6).toInt ≤ 1000000; exact hI88R.2.2.1), (by show 0 ≤ (I88 12 9).toInt ∧ (I88 12 9).toInt ≤ 500; exact hI88R.2.2.2.1), (by show 0 ≤ (I88 12 13).toInt ∧ (I88 12 13).toInt ≤ 24; exact hI88R.2.2.2.2)⟩ (by show (I88 12 6).toInt ≤ 501 ∧ ((I88 12 7).toInt = 401 ∨ (I88 12 6).toInt ≤ 500); first | omega | decide) _) (cwV 1 hts gX9_atom_X9_sum rfl rfl rfl hy_X9_sum ⟨Nat.le_of_ble_eq_true rfl, Nat.le_of_ble_eq_true rfl⟩) (z_preV (i := 12) hK hW rfl rfl) rfl rfl hl.1 rfl (lv_room (Nat.le_of_ble_eq_true rfl)) dX9_atom_149 ⟨Nat.le_of_ble_eq_true rfl, Nat.le_of_ble_eq_true rfl⟩) (fun r u1 H locs hp hW hS => ?_)
              obtain ⟨I92, e9, hI92R, hI92T, fI92, hp⟩ := hp
              rw [e9] at hW
              have f93 := z_fr_sub (L := L_X9_atom_4) f89 fI92 (by decide)
              have k94 : (I92 12 6).toInt ≤ 501 ∧ ((I92 12 7).toInt = 401 ∨ (I92 12 6).toInt ≤ 500) := hI92T
              rcases hp with rfl | rfl
              · refine lv_if_eq (tgt := 183) hx hb dX9_atom_152 (by decide) (fun c95 => absurd c95 (by decide)) (fun c95 => ?_)
                refine lv_aload_n hx hb dX9_atom_155 rfl (lv_at hl 1 rfl) ?_
                refine lv_bipush (v := 44) hx hb dX9_atom_156 (by decide) ?_
                refine z_ci hW hS hA (va_runV (As := [.int 44]) (rest := []) ⟨hx, hb, hml, hown, hts⟩ (sx_X9_taken l G ad c I92 ⟨(by show 0 ≤ (I92 12 1).toInt ∧ (I92 12 1).toInt ≤ 500; exact hI92R.1), (by show 0 ≤ (I92 12 5).toInt ∧ (I92 12 5).toInt ≤ 501; exact hI92R.2.1), (by show (-1) ≤ (I92 12 6).toInt ∧ (I92 12 6).toInt ≤ 1000000; exact hI92R.2.2.1), (by show 0 ≤ (I92 12 9).toInt ∧ (I92 12 9).toInt ≤ 500; exact hI92R.2.2.2.1), (by show 0 ≤ (I92 12 13).toInt ∧ (I92 12 13).toInt ≤ 24; exact hI92R.2.2.2.2)⟩ (by show (I92 12 6).toInt ≤ 501 ∧ ((I92 12 7).toInt = 401 ∨ (I92 12 6).toInt ≤ 500); first | omega | decide) 44 (by first | omega | decide) _) (cwV 1 hts gX9_atom_X9_taken rfl rfl rfl hy_X9_taken ⟨Nat.le_of_ble_eq_true rfl, Nat.le_of_ble_eq_true rfl⟩) (z_preV (i := 12) hK hW rfl rfl) rfl rfl hl.1 rfl (lv_room (Nat.le_of_ble_eq_true rfl)) dX9_atom_158 ⟨Nat.le_of_ble_eq_true rfl, Nat.le_of_ble_eq_true rfl⟩) (fun r u1 H locs hp hW hS => ?_)
                obtain ⟨I96, e9, hI96R, hI96T, fI96, hp⟩ := hp
                rw [e9] at hW
                have f97 := z_fr_sub (L := L_X9_atom_4) f93 fI96 (by decide)
                have k98 : (I96 12 6).toInt ≤ 501 ∧ ((I96 12 7).toInt = 401 ∨ (I96 12 6).toInt ≤ 500) := hI96T
                rcases hp with rfl | rfl
                · refine lv_if_eq (tgt := 183) hx hb dX9_atom_161 (by decide) (fun c99 => absurd c99 (by decide)) (fun c99 => ?_)
                  refine lv_aload_n hx hb dX9_atom_164 rfl (lv_at hl 1 rfl) ?_
                  refine lv_iload_n hx hb dX9_atom_165 rfl (lv_at hl 2 rfl) ?_
                  refine lv_iconst (v := 1) hx hb dX9_atom_166 (by decide) ?_
                  refine lv_iadd hx hb dX9_atom_167 ?_
                  refine z_topi (v := 5) (by decide) ?_
                  refine z_ci hW hS hA (va_runV (As := [.int 5]) (rest := []) ⟨hx, hb, hml, hown, hts⟩ (sx_X9_sum_5 l G ad c I96 ⟨(by show 0 ≤ (I96 12 1).toInt ∧ (I96 12 1).toInt ≤ 500; exact hI96R.1), (by show 0 ≤ (I96 12 5).toInt ∧ (I96 12 5).toInt ≤ 501; exact hI96R.2.1), (by show (-1) ≤ (I96 12 6).toInt ∧ (I96 12 6).toInt ≤ 1000000; exact hI96R.2.2.1), (by show 0 ≤ (I96 12 9).toInt ∧ (I96 12 9).toInt ≤ 500; exact hI96R.2.2.2.1), (by show 0 ≤ (I96 12 13).toInt ∧ (I96 12 13).toInt ≤ 24; exact hI96R.2.2.2.2)⟩ (by show (I96 12 6).toInt ≤ 501 ∧ ((I96 12 7).toInt = 401 ∨ (I96 12 6).toInt ≤ 500); first | omega | decide) _) (cwV 1 hts gX9_atom_X9_sum rfl rfl rfl hy_X9_sum ⟨Nat.le_of_ble_eq_true rfl, Nat.le_of_ble_eq_true rfl⟩) (z_preV (i := 12) hK hW rfl rfl) rfl rfl hl.1 rfl (lv_room (Nat.le_of_ble_eq_true rfl)) dX9_atom_168 ⟨Nat.le_of_ble_eq_true rfl, Nat.le_of_ble_eq_true rfl⟩) (fun r u1 H locs hp hW hS => ?_)
                  obtain ⟨I100, e9, hI100R, hI100T, fI100, hp⟩ := hp
                  rw [e9] at hW
                  have f101 := z_fr_sub (L := L_X9_atom_4) f97 fI100 (by decide)
                  have k102 : (I100 12 6).toInt ≤ 501 ∧ ((I100 12 7).toInt = 401 ∨ (I100 12 6).toInt ≤ 500) := hI100T
                  rcases hp with rfl | rfl
                  · refine lv_if_eq (tgt := 183) hx hb dX9_atom_171 (by decide) (fun c103 => absurd c103 (by decide)) (fun c103 => ?_)
                    refine lv_aload_n hx hb dX9_atom_174 rfl (lv_at hl 1 rfl) ?_
                    refine lv_bipush (v := 41) hx hb dX9_atom_175 (by decide) ?_
                    refine z_ci hW hS hA (va_runV (As := [.int 41]) (rest := []) ⟨hx, hb, hml, hown, hts⟩ (sx_X9_taken l G ad c I100 ⟨(by show 0 ≤ (I100 12 1).toInt ∧ (I100 12 1).toInt ≤ 500; exact hI100R.1), (by show 0 ≤ (I100 12 5).toInt ∧ (I100 12 5).toInt ≤ 501; exact hI100R.2.1), (by show (-1) ≤ (I100 12 6).toInt ∧ (I100 12 6).toInt ≤ 1000000; exact hI100R.2.2.1), (by show 0 ≤ (I100 12 9).toInt ∧ (I100 12 9).toInt ≤ 500; exact hI100R.2.2.2.1), (by show 0 ≤ (I100 12 13).toInt ∧ (I100 12 13).toInt ≤ 24; exact hI100R.2.2.2.2)⟩ (by show (I100 12 6).toInt ≤ 501 ∧ ((I100 12 7).toInt = 401 ∨ (I100 12 6).toInt ≤ 500); first | omega | decide) 41 (by first | omega | decide) _) (cwV 1 hts gX9_atom_X9_taken rfl rfl rfl hy_X9_taken ⟨Nat.le_of_ble_eq_true rfl, Nat.le_of_ble_eq_true rfl⟩) (z_preV (i := 12) hK hW rfl rfl) rfl rfl hl.1 rfl (lv_room (Nat.le_of_ble_eq_true rfl)) dX9_atom_177 ⟨Nat.le_of_ble_eq_true rfl, Nat.le_of_ble_eq_true rfl⟩) (fun r u1 H locs hp hW hS => ?_)
                    obtain ⟨I104, e9, hI104R, hI104T, fI104, hp⟩ := hp
                    rw [e9] at hW
                    have f105 := z_fr_sub (L := L_X9_atom_4) f101 fI104 (by decide)
                    have k106 : (I104 12 6).toInt ≤ 501 ∧ ((I104 12 7).toInt = 401 ∨ (I104 12 6).toInt ≤ 500) := hI104T
                    rcases hp with rfl | rfl
                    · refine lv_if_ne (tgt := 185) hx hb dX9_atom_180 (by decide) (fun c107 => ?_) (fun c107 => absurd c107 (by decide))
                      refine lv_aload_n hx hb dX9_atom_185 rfl (lv_at hl 1 rfl) ?_
                      refine lv_iload_n hx hb dX9_atom_186 rfl (lv_at hl 0 rfl) ?_
                      refine lv_sipush (v := 312) hx hb dX9_atom_187 (by decide) ?_
                      refine lv_icmp_ne (tgt := 198) hx hb dX9_atom_190 (by decide) (fun c108 => ?_) (fun c108 => (by have g := z_f_eq rfl z_l312 c108; omega))
                      have g109 := z_f_ne rfl z_l312 c108
                      refine lv_bipush (v := (-6)) hx hb dX9_atom_198 (by decide) ?_
                      refine z_cv hW hS hA (va_runV (As := [.int (-6)]) (rest := []) ⟨hx, hb, hml, hown, hts⟩ (sx_X9_emit l G ad c I104 ⟨(by show 0 ≤ (I104 12 1).toInt ∧ (I104 12 1).toInt ≤ 500; exact hI104R.1), (by show 0 ≤ (I104 12 5).toInt ∧ (I104 12 5).toInt ≤ 501; exact hI104R.2.1), (by show (-1) ≤ (I104 12 6).toInt ∧ (I104 12 6).toInt ≤ 1000000; exact hI104R.2.2.1), (by show 0 ≤ (I104 12 9).toInt ∧ (I104 12 9).toInt ≤ 500; exact hI104R.2.2.2.1), (by show 0 ≤ (I104 12 13).toInt ∧ (I104 12 13).toInt ≤ 24; exact hI104R.2.2.2.2)⟩ (-6) _) (cwV 1 hts gX9_atom_X9_emit rfl rfl rfl hy_X9_emit ⟨Nat.le_of_ble_eq_true rfl, Nat.le_of_ble_eq_true rfl⟩) (z_preV (i := 12) hK hW rfl rfl) rfl rfl hl.1 rfl (lv_room (Nat.le_of_ble_eq_true rfl)) dX9_atom_200 ⟨Nat.le_of_ble_eq_true rfl, Nat.le_of_ble_eq_true rfl⟩) (fun u1 H locs hp hW hS => ?_)
                      obtain ⟨I110, e9, hI110R, fI110⟩ := hp
                      rw [e9] at hW
                      have f111 := z_fr_sub (L := L_X9_atom_4) f105 fI110 (by decide)
                      have k112 : (I110 12 6).toInt ≤ 501 ∧ ((I110 12 7).toInt = 401 ∨ (I110 12 6).toInt ≤ 500) := (by have q0 : (I110 12 6) = (I104 12 6) := (by rw [fI110 12 6 (by decide)]); have q1 : (I110 12 7) = (I104 12 7) := (by rw [fI110 12 7 (by decide)]); show (I110 12 6).toInt ≤ 501 ∧ ((I110 12 7).toInt = 401 ∨ (I110 12 6).toInt ≤ 500); rw [q0, q1]; first | omega | decide)
                      have k113 : (I110 12 6).toInt = (I104 12 6).toInt := by rw [fI110 12 6 (by decide)]
                      have k114 : (I110 12 7).toInt = (I104 12 7).toInt := by rw [fI110 12 7 (by decide)]
                      refine lv_iconst (v := 1) hx hb dX9_atom_203 (by decide) ?_
                      exact z_zret hx hb hr (by decide) hK hS (Nat.le_of_ble_eq_true rfl) (Nat.le_of_ble_eq_true rfl) hlocks dX9_atom_204 (shC c, ad, I110, JX, PC c ad) hW ⟨I110, rfl, ⟨(by show 0 ≤ (I110 12 1).toInt ∧ (I110 12 1).toInt ≤ 500; exact hI110R.1), (by show 0 ≤ (I110 12 5).toInt ∧ (I110 12 5).toInt ≤ 501; exact hI110R.2.1), (by show (-1) ≤ (I110 12 6).toInt ∧ (I110 12 6).toInt ≤ 1000000; exact hI110R.2.2.1), (by show 0 ≤ (I110 12 9).toInt ∧ (I110 12 9).toInt ≤ 500; exact hI110R.2.2.2.1), (by show 0 ≤ (I110 12 13).toInt ∧ (I110 12 13).toInt ≤ 24; exact hI110R.2.2.2.2)⟩, (by show (I110 12 6).toInt ≤ 501 ∧ ((I110 12 7).toInt = 401 ∨ (I110 12 6).toInt ≤ 500); first | omega | decide), f111, Or.inl rfl⟩
                    · refine lv_if_ne (tgt := 185) hx hb dX9_atom_180 (by decide) (fun c115 => absurd (by decide) c115) (fun c115 => ?_)
                      refine lv_iconst (v := 0) hx hb dX9_atom_183 (by decide) ?_
                      exact z_zret hx hb hr (by decide) hK hS (Nat.le_of_ble_eq_true rfl) (Nat.le_of_ble_eq_true rfl) hlocks dX9_atom_184 (shC c, ad, I104, JX, PC c ad) hW ⟨I104, rfl, ⟨(by show 0 ≤ (I104 12 1).toInt ∧ (I104 12 1).toInt ≤ 500; exact hI104R.1), (by show 0 ≤ (I104 12 5).toInt ∧ (I104 12 5).toInt ≤ 501; exact hI104R.2.1), (by show (-1) ≤ (I104 12 6).toInt ∧ (I104 12 6).toInt ≤ 1000000; exact hI104R.2.2.1), (by show 0 ≤ (I104 12 9).toInt ∧ (I104 12 9).toInt ≤ 500; exact hI104R.2.2.2.1), (by show 0 ≤ (I104 12 13).toInt ∧ (I104 12 13).toInt ≤ 24; exact hI104R.2.2.2.2)⟩, (by show (I104 12 6).toInt ≤ 501 ∧ ((I104 12 7).toInt = 401 ∨ (I104 12 6).toInt ≤ 500); first | omega | decide), f105, Or.inr rfl⟩
                  · refine lv_if_eq (tgt := 183) hx hb dX9_atom_171 (by decide) (fun c116 => ?_) (fun c116 => absurd (by decide) c116)
                    refine lv_iconst (v := 0) hx hb dX9_atom_183 (by decide) ?_
                    exact z_zret hx hb hr (by decide) hK hS (Nat.le_of_ble_eq_true rfl) (Nat.le_of_ble_eq_true rfl) hlocks dX9_atom_184 (shC c, ad, I100, JX, PC c ad) hW ⟨I100, rfl, ⟨(by show 0 ≤ (I100 12 1).toInt ∧ (I100 12 1).toInt ≤ 500; exact hI100R.1), (by show 0 ≤ (I100 12 5).toInt ∧ (I100 12 5).toInt ≤ 501; exact hI100R.2.1), (by show (-1) ≤ (I100 12 6).toInt ∧ (I100 12 6).toInt ≤ 1000000; exact hI100R.2.2.1), (by show 0 ≤ (I100 12 9).toInt ∧ (I100 12 9).toInt ≤ 500; exact hI100R.2.2.2.1), (by show 0 ≤ (I100 12 13).toInt ∧ (I100 12 13).toInt ≤ 24; exact hI100R.2.2.2.2)⟩, (by show (I100 12 6).toInt ≤ 501 ∧ ((I100 12 7).toInt = 401 ∨ (I100 12 6).toInt ≤ 500); first | omega | decide), f101, Or.inr rfl⟩
                · refine lv_if_eq (tgt := 183) hx hb dX9_atom_161 (by decide) (fun c117 => ?_) (fun c117 => absurd (by decide) c117)
                  refine lv_iconst (v := 0) hx hb dX9_atom_183 (by decide) ?_
                  exact z_zret hx hb hr (by decide) hK hS (Nat.le_of_ble_eq_true rfl) (Nat.le_of_ble_eq_true rfl) hlocks dX9_atom_184 (shC c, ad, I96, JX, PC c ad) hW ⟨I96, rfl, ⟨(by show 0 ≤ (I96 12 1).toInt ∧ (I96 12 1).toInt ≤ 500; exact hI96R.1), (by show 0 ≤ (I96 12 5).toInt ∧ (I96 12 5).toInt ≤ 501; exact hI96R.2.1), (by show (-1) ≤ (I96 12 6).toInt ∧ (I96 12 6).toInt ≤ 1000000; exact hI96R.2.2.1), (by show 0 ≤ (I96 12 9).toInt ∧ (I96 12 9).toInt ≤ 500; exact hI96R.2.2.2.1), (by show 0 ≤ (I96 12 13).toInt ∧ (I96 12 13).toInt ≤ 24; exact hI96R.2.2.2.2)⟩, (by show (I96 12 6).toInt ≤ 501 ∧ ((I96 12 7).toInt = 401 ∨ (I96 12 6).toInt ≤ 500); first | omega | decide), f97, Or.inr rfl⟩
              · refine lv_if_eq (tgt := 183) hx hb dX9_atom_152 (by decide) (fun c118 => ?_) (fun c118 => absurd (by decide) c118)
                refine lv_iconst (v := 0) hx hb dX9_atom_183 (by decide) ?_
                exact z_zret hx hb hr (by decide) hK hS (Nat.le_of_ble_eq_true rfl) (Nat.le_of_ble_eq_true rfl) hlocks dX9_atom_184 (shC c, ad, I92, JX, PC c ad) hW ⟨I92, rfl, ⟨(by show 0 ≤ (I92 12 1).toInt ∧ (I92 12 1).toInt ≤ 500; exact hI92R.1), (by show 0 ≤ (I92 12 5).toInt ∧ (I92 12 5).toInt ≤ 501; exact hI92R.2.1), (by show (-1) ≤ (I92 12 6).toInt ∧ (I92 12 6).toInt ≤ 1000000; exact hI92R.2.2.1), (by show 0 ≤ (I92 12 9).toInt ∧ (I92 12 9).toInt ≤ 500; exact hI92R.2.2.2.1), (by show 0 ≤ (I92 12 13).toInt ∧ (I92 12 13).toInt ≤ 24; exact hI92R.2.2.2.2)⟩, (by show (I92 12 6).toInt ≤ 501 ∧ ((I92 12 7).toInt = 401 ∨ (I92 12 6).toInt ≤ 500); first | omega | decide), f93, Or.inr rfl⟩
            · refine lv_if_eq (tgt := 183) hx hb dX9_atom_142 (by decide) (fun c119 => ?_) (fun c119 => absurd (by decide) c119)
              refine lv_iconst (v := 0) hx hb dX9_atom_183 (by decide) ?_
              exact z_zret hx hb hr (by decide) hK hS (Nat.le_of_ble_eq_true rfl) (Nat.le_of_ble_eq_true rfl) hlocks dX9_atom_184 (shC c, ad, I88, JX, PC c ad) hW ⟨I88, rfl, ⟨(by show 0 ≤ (I88 12 1).toInt ∧ (I88 12 1).toInt ≤ 500; exact hI88R.1), (by show 0 ≤ (I88 12 5).toInt ∧ (I88 12 5).toInt ≤ 501; exact hI88R.2.1), (by show (-1) ≤ (I88 12 6).toInt ∧ (I88 12 6).toInt ≤ 1000000; exact hI88R.2.2.1), (by show 0 ≤ (I88 12 9).toInt ∧ (I88 12 9).toInt ≤ 500; exact hI88R.2.2.2.1), (by show 0 ≤ (I88 12 13).toInt ∧ (I88 12 13).toInt ≤ 24; exact hI88R.2.2.2.2)⟩, (by show (I88 12 6).toInt ≤ 501 ∧ ((I88 12 7).toInt = 401 ∨ (I88 12 6).toInt ≤ 500); first | omega | decide), f89, Or.inr rfl⟩
    · have g120 := z_f_nlt rfl z_l314 c17
      refine lv_aload_n hx hb dX9_atom_20 rfl (lv_at hl 0 rfl) ?_
      refine z_get (T := TX9) (N := 14) (ci := 9) (i := 12) (v := .int (I 12 7)) hx hb hts zj_X9_atom_X9 hown hK hW rfl rfl 7 (by decide) (hts (.fieldLink RX9 62 "PetrolBoard$Reader" "token" "I") (me_s (me_l (me_l (List.mem_of_getElem? (i := 0) rfl))))) (fun _ h => h) rfl dX9_atom_21 ?_
      refine lv_sipush (v := 320) hx hb dX9_atom_24 (by decide) ?_
      refine lv_icmp_gt (tgt := 68) hx hb dX9_atom_27 (by decide) (fun c121 => ?_) (fun c121 => ?_)
      · have g122 := z_f_gt rfl z_l320 c121
        refine lv_aload_n hx hb dX9_atom_68 rfl (lv_at hl 0 rfl) ?_
        refine z_get (T := TX9) (N := 14) (ci := 9) (i := 12) (v := .int (I 12 7)) hx hb hts zj_X9_atom_X9 hown hK hW rfl rfl 7 (by decide) (hts (.fieldLink RX9 62 "PetrolBoard$Reader" "token" "I") (me_s (me_l (me_l (List.mem_of_getElem? (i := 0) rfl))))) (fun _ h => h) rfl dX9_atom_69 ?_
        refine lv_istore_n (lv' := [(2, .int (I 12 7)), (0, .ref (ad 12)), (1, .int 4)]) hx hb dX9_atom_72 rfl hl (by decide) rfl (fun ls hl => ?_)
        refine lv_iload_n hx hb dX9_atom_73 rfl (lv_at hl 0 rfl) ?_
        refine lv_bipush (v := 40) hx hb dX9_atom_74 (by decide) ?_
        refine lv_icmp_eq (tgt := 93) hx hb dX9_atom_76 (by decide) (fun c123 => (by have g := z_f_eq rfl z_l40 c123; omega)) (fun c123 => ?_)
        have g124 := z_f_ne rfl z_l40 c123
        refine lv_iload_n hx hb dX9_atom_79 rfl (lv_at hl 0 rfl) ?_
        refine lv_sipush (v := 312) hx hb dX9_atom_80 (by decide) ?_
        refine lv_icmp_eq (tgt := 93) hx hb dX9_atom_83 (by decide) (fun c125 => (by have g := z_f_eq rfl z_l312 c125; omega)) (fun c125 => ?_)
        have g126 := z_f_ne rfl z_l312 c125
        refine lv_iload_n hx hb dX9_atom_86 rfl (lv_at hl 0 rfl) ?_
        refine lv_sipush (v := 313) hx hb dX9_atom_87 (by decide) ?_
        refine lv_icmp_ne (tgt := 99) hx hb dX9_atom_90 (by decide) (fun c127 => ?_) (fun c127 => (by have g := z_f_eq rfl z_l313 c127; omega))
        have g128 := z_f_ne rfl z_l313 c127
        refine lv_iconst (v := 0) hx hb dX9_atom_99 (by decide) ?_
        exact z_zret hx hb hr (by decide) hK hS (Nat.le_of_ble_eq_true rfl) (Nat.le_of_ble_eq_true rfl) hlocks dX9_atom_100 (shC c, ad, I, JX, PC c ad) hW ⟨I, rfl, ⟨(by show 0 ≤ (I 12 1).toInt ∧ (I 12 1).toInt ≤ 500; exact hR.1), (by show 0 ≤ (I 12 5).toInt ∧ (I 12 5).toInt ≤ 501; exact hR.2.1), (by show (-1) ≤ (I 12 6).toInt ∧ (I 12 6).toInt ≤ 1000000; exact hR.2.2.1), (by show 0 ≤ (I 12 9).toInt ∧ (I 12 9).toInt ≤ 500; exact hR.2.2.2.1), (by show 0 ≤ (I 12 13).toInt ∧ (I 12 13).toInt ≤ 24; exact hR.2.2.2.2)⟩, (by show (I 12 6).toInt ≤ 501 ∧ ((I 12 7).toInt = 401 ∨ (I 12 6).toInt ≤ 500); first | omega | decide), z_fr_0, Or.inr rfl⟩
      · have g129 := z_f_ngt rfl z_l320 c121
        refine lv_aload_n hx hb dX9_atom_30 rfl (lv_at hl 0 rfl) ?_
        refine lv_aload_n hx hb dX9_atom_31 rfl (lv_at hl 0 rfl) ?_
        refine z_get (T := TX9) (N := 14) (ci := 9) (i := 12) (v := .int (I 12 7)) hx hb hts zj_X9_atom_X9 hown hK hW rfl rfl 7 (by decide) (hts (.fieldLink RX9 62 "PetrolBoard$Reader" "token" "I") (me_s (me_l (me_l (List.mem_of_getElem? (i := 0) rfl))))) (fun _ h => h) rfl dX9_atom_32 ?_
        refine lv_sipush (v := 400) hx hb dX9_atom_35 (by decide) ?_
        refine lv_icmp_ne (tgt := 48) hx hb dX9_atom_38 (by decide) (fun c130 => ?_) (fun c130 => (by have g := z_f_eq rfl z_l400 c130; omega))
        have g131 := z_f_ne rfl z_l400 c130
        refine lv_bipush (v := (-20)) hx hb dX9_atom_48 (by decide) ?_
        refine lv_aload_n hx hb dX9_atom_50 rfl (lv_at hl 0 rfl) ?_
        refine z_get (T := TX9) (N := 14) (ci := 9) (i := 12) (v := .int (I 12 7)) hx hb hts zj_X9_atom_X9 hown hK hW rfl rfl 7 (by decide) (hts (.fieldLink RX9 62 "PetrolBoard$Reader" "token" "I") (me_s (me_l (me_l (List.mem_of_getElem? (i := 0) rfl))))) (fun _ h => h) rfl dX9_atom_51 ?_
        refine lv_sipush (v := 314) hx hb dX9_atom_54 (by decide) ?_
        refine lv_isub hx hb dX9_atom_57 ?_
        refine lv_topi (fun x132 ex132 => ?_)
        have tx132 : x132.toInt = (I 12 7).toInt - 314 := z_tsub ex132 rfl z_l314 (by omega) (by omega)
        refine lv_isub hx hb dX9_atom_58 ?_
        refine lv_topi (fun x133 ex133 => ?_)
        have tx133 : x133.toInt = (-20) - x132.toInt := z_tsub ex133 z_lm20 rfl (by omega) (by omega)
        refine z_cv hW hS hA (va_runV (As := [.int x133]) (rest := []) ⟨hx, hb, hml, hown, hts⟩ (sx_X9_emit l G ad c I ⟨(by show 0 ≤ (I 12 1).toInt ∧ (I 12 1).toInt ≤ 500; exact hR.1), (by show 0 ≤ (I 12 5).toInt ∧ (I 12 5).toInt ≤ 501; exact hR.2.1), (by show (-1) ≤ (I 12 6).toInt ∧ (I 12 6).toInt ≤ 1000000; exact hR.2.2.1), (by show 0 ≤ (I 12 9).toInt ∧ (I 12 9).toInt ≤ 500; exact hR.2.2.2.1), (by show 0 ≤ (I 12 13).toInt ∧ (I 12 13).toInt ≤ 24; exact hR.2.2.2.2)⟩ x133 _) (cwV 1 hts gX9_atom_X9_emit rfl rfl rfl hy_X9_emit ⟨Nat.le_of_ble_eq_true rfl, Nat.le_of_ble_eq_true rfl⟩) (z_preV (i := 12) hK hW rfl rfl) rfl rfl hl.1 rfl (lv_room (Nat.le_of_ble_eq_true rfl)) dX9_atom_59 ⟨Nat.le_of_ble_eq_true rfl, Nat.le_of_ble_eq_true rfl⟩) (fun u1 H locs hp hW hS => ?_)
        obtain ⟨I134, e9, hI134R, fI134⟩ := hp
        rw [e9] at hW
        have f135 := z_fr_sub (L := L_X9_atom_4) z_fr_0 fI134 (by decide)
        have k136 : (I134 12 6).toInt ≤ 501 ∧ ((I134 12 7).toInt = 401 ∨ (I134 12 6).toInt ≤ 500) := (by have q0 : (I134 12 6) = (I 12 6) := (by rw [fI134 12 6 (by decide)]); have q1 : (I134 12 7) = (I 12 7) := (by rw [fI134 12 7 (by decide)]); show (I134 12 6).toInt ≤ 501 ∧ ((I134 12 7).toInt = 401 ∨ (I134 12 6).toInt ≤ 500); rw [q0, q1]; first | omega | decide)
        have k137 : (I134 12 6).toInt = (I 12 6).toInt := by rw [fI134 12 6 (by decide)]
        have k138 : (I134 12 7).toInt = (I 12 7).toInt := by rw [fI134 12 7 (by decide)]
        refine lv_aload_n hx hb dX9_atom_62 rfl (lv_at hl 0 rfl) ?_
        refine z_cv hW hS hA (va_runV (As := []) (rest := []) ⟨hx, hb, hml, hown, hts⟩ (sx_X9_step l G ad c I134 ⟨(by show 0 ≤ (I134 12 1).toInt ∧ (I134 12 1).toInt ≤ 500; exact hI134R.1), (by show 0 ≤ (I134 12 5).toInt ∧ (I134 12 5).toInt ≤ 501; exact hI134R.2.1), (by show (-1) ≤ (I134 12 6).toInt ∧ (I134 12 6).toInt ≤ 1000000; exact hI134R.2.2.1), (by show 0 ≤ (I134 12 9).toInt ∧ (I134 12 9).toInt ≤ 500; exact hI134R.2.2.2.1), (by show 0 ≤ (I134 12 13).toInt ∧ (I134 12 13).toInt ≤ 24; exact hI134R.2.2.2.2)⟩   (by show (I134 12 6).toInt ≤ 500; first | omega | decide) _) (cwV 0 hts gX9_atom_X9_step rfl rfl rfl hy_X9_step ⟨Nat.le_of_ble_eq_true rfl, Nat.le_of_ble_eq_true rfl⟩) (z_preV (i := 12) hK hW rfl rfl) rfl rfl hl.1 rfl (lv_room (Nat.le_of_ble_eq_true rfl)) dX9_atom_63 ⟨Nat.le_of_ble_eq_true rfl, Nat.le_of_ble_eq_true rfl⟩) (fun u1 H locs hp hW hS => ?_)
        obtain ⟨I139, e9, hI139R, hI139T, fI139⟩ := hp
        rw [e9] at hW
        have f140 := z_fr_sub (L := L_X9_atom_4) f135 fI139 (by decide)
        have k141 : (I139 12 6).toInt ≤ 501 ∧ ((I139 12 7).toInt = 401 ∨ (I139 12 6).toInt ≤ 500) := hI139T
        refine lv_iconst (v := 1) hx hb dX9_atom_66 (by decide) ?_
        exact z_zret hx hb hr (by decide) hK hS (Nat.le_of_ble_eq_true rfl) (Nat.le_of_ble_eq_true rfl) hlocks dX9_atom_67 (shC c, ad, I139, JX, PC c ad) hW ⟨I139, rfl, ⟨(by show 0 ≤ (I139 12 1).toInt ∧ (I139 12 1).toInt ≤ 500; exact hI139R.1), (by show 0 ≤ (I139 12 5).toInt ∧ (I139 12 5).toInt ≤ 501; exact hI139R.2.1), (by show (-1) ≤ (I139 12 6).toInt ∧ (I139 12 6).toInt ≤ 1000000; exact hI139R.2.2.1), (by show 0 ≤ (I139 12 9).toInt ∧ (I139 12 9).toInt ≤ 500; exact hI139R.2.2.2.1), (by show 0 ≤ (I139 12 13).toInt ∧ (I139 12 13).toInt ≤ 24; exact hI139R.2.2.2.2)⟩, (by show (I139 12 6).toInt ≤ 501 ∧ ((I139 12 7).toInt = 401 ∨ (I139 12 6).toInt ≤ 500); first | omega | decide), f140, Or.inl rfl⟩
noncomputable def L_X9_product_4 : z_L := [(12, 6), (12, 7), (17, 999), (12, 9)]
set_option maxHeartbeats 8000000 in
set_option maxRecDepth 100000 in
theorem sx_X9_product_4 (l : Launch) (G : z_G) (ad : Nat → Nat) (c : z_C) (I : z_I) (hR : z_iR I) (hT : z_iT I) : z_M l yX9_product wsX9_product { frames := 19, cells := 0, slots := 0, locals := 415 } [.ref (ad 12), .int 4] G (shC c, ad, I, JX, PC c ad) (fun r u1 => ∃ I1 : z_I, u1 = (shC c, ad, I1, JX, PC c ad) ∧ z_iR I1 ∧ z_iT I1 ∧ z_fr L_X9_product_4 I1 I ∧ (r = 1 ∨ r = 0)) 0 0 := by
  intro sz
  refine z_headQ (cc := cX9_product) (maxL := 4) (ret := (some .boolean)) (by decide) rfl (Nat.le_of_ble_eq_true rfl) ?_
  intro p e s m below meth c0 ls hIn hK hsz hW hl
  obtain ⟨hx, hb, hr, hml, hown, hts, hlocks, hname⟩ := hIn
  subst hsz
  have hown : s.vm.findClass RX9 = some m.cls := hown
  have hA : ∀ q : Nat, s.heap.size ≤ q → z_A (shC c, ad, I, JX, PC c ad) s.heap.size q := fun q h => Or.inr h
  generalize hAe : z_A (shC c, ad, I, JX, PC c ad) s.heap.size = A at *
  have hS : va_S A s.heap s.heap [] := va_S.rf
  have hl : lv_has ls 4 [(0, .ref (ad 12)), (1, .int 4)] := hl
  have kT : (I 12 6).toInt ≤ 501 ∧ ((I 12 7).toInt = 401 ∨ (I 12 6).toInt ≤ 500) := hT
  refine lv_aload_n hx hb dX9_product_0 rfl (lv_at hl 0 rfl) ?_
  refine lv_iload_n hx hb dX9_product_1 rfl (lv_at hl 1 rfl) ?_
  refine z_ci hW hS hA (va_runV (As := [.int 4]) (rest := []) ⟨hx, hb, hml, hown, hts⟩ (sx_X9_atom_4 l G ad c I ⟨(by show 0 ≤ (I 12 1).toInt ∧ (I 12 1).toInt ≤ 500; exact hR.1), (by show 0 ≤ (I 12 5).toInt ∧ (I 12 5).toInt ≤ 501; exact hR.2.1), (by show (-1) ≤ (I 12 6).toInt ∧ (I 12 6).toInt ≤ 1000000; exact hR.2.2.1), (by show 0 ≤ (I 12 9).toInt ∧ (I 12 9).toInt ≤ 500; exact hR.2.2.2.1), (by show 0 ≤ (I 12 13).toInt ∧ (I 12 13).toInt ≤ 24; exact hR.2.2.2.2)⟩ (by show (I 12 6).toInt ≤ 501 ∧ ((I 12 7).toInt = 401 ∨ (I 12 6).toInt ≤ 500); first | omega | decide) _) (cwV 1 hts gX9_product_X9_atom rfl rfl rfl hy_X9_atom ⟨Nat.le_of_ble_eq_true rfl, Nat.le_of_ble_eq_true rfl⟩) (z_preV (i := 12) hK hW rfl rfl) rfl rfl hl.1 rfl (lv_room (Nat.le_of_ble_eq_true rfl)) dX9_product_2 ⟨Nat.le_of_ble_eq_true rfl, Nat.le_of_ble_eq_true rfl⟩) (fun r u1 H locs hp hW hS => ?_)
  obtain ⟨I1, e9, hI1R, hI1T, fI1, hp⟩ := hp
  rw [e9] at hW
  have f2 := z_fr_sub (L := L_X9_product_4) z_fr_0 fI1 (by decide)
  have k3 : (I1 12 6).toInt ≤ 501 ∧ ((I1 12 7).toInt = 401 ∨ (I1 12 6).toInt ≤ 500) := hI1T
  rcases hp with rfl | rfl
  · refine lv_if_ne (tgt := 10) hx hb dX9_product_5 (by decide) (fun c4 => ?_) (fun c4 => absurd c4 (by decide))
    refine lv_iconst (v := 0) hx hb dX9_product_10 (by decide) ?_
    refine lv_istore_n (lv' := [(2, .int 0), (0, .ref (ad 12)), (1, .int 4)]) hx hb dX9_product_11 rfl hl (by decide) rfl (fun ls hl => ?_)
    have lp5 : ∀ (f : Nat) (y6 : Int32) (I7 : z_I) (H : Heap) (locs : List Loc) (ls : Array Slot), (2147483647 < y6.toInt + (f : Int)) → (0 ≤ y6.toInt) → (z_iR I7) → (z_iT I7) → (z_fr L_X9_product_4 I7 I) → z_W G A (shC c, ad, I7, JX, PC c ad) H → va_S A s.heap H locs → lv_has ls 4 [(2, .int y6), (0, .ref (ad 12)), (1, .int 4)] → W p l e (headSpec wsX9_product { frames := 19, cells := 0, slots := 0, locals := 415 }).room s m ([.ref (ad 12), .int 4] : List Value).toArray below meth c0 H locs 0 0 (MQ below (va_Qi (fun (r : Int32) (u1 : z_U) => ∃ I1 : z_I, u1 = (shC c, ad, I1, JX, PC c ad) ∧ z_iR I1 ∧ z_iT I1 ∧ z_fr L_X9_product_4 I1 I ∧ (r = 1 ∨ r = 0)) (z_B G A) A) ([.ref (ad 12), .int 4] : List Value).toArray s 0 0 A) (F0 m 12 ls []) := by
      intro f
      induction f with
      | zero => intro y6 I7  H locs ls lp5m lp5l2 lp5R lp5T lp5fr hW hS hl; exact absurd lp5m (by have := Int32.toInt_lt y6; have := Int32.le_toInt y6; omega)
      | succ f lp5ih =>
        intro y6 I7  H locs ls lp5m lp5l2 lp5R lp5T lp5fr hW hS hl
        have k8 : (I7 12 6).toInt ≤ 501 ∧ ((I7 12 7).toInt = 401 ∨ (I7 12 6).toInt ≤ 500) := lp5T
        refine lv_iload_n hx hb dX9_product_12 rfl (lv_at hl 0 rfl) ?_
        refine lv_sipush (v := 500) hx hb dX9_product_13 (by decide) ?_
        refine lv_icmp_ge (tgt := 79) hx hb dX9_product_16 (by decide) (fun c9 => ?_) (fun c9 => ?_)
        · have g10 := z_f_ge rfl z_l500 c9
          have b11 := Int32.toInt_lt y6
          refine lv_iconst (v := 1) hx hb dX9_product_79 (by decide) ?_
          exact z_zret hx hb hr (by decide) hK hS (Nat.le_of_ble_eq_true rfl) (Nat.le_of_ble_eq_true rfl) hlocks dX9_product_80 (shC c, ad, I7, JX, PC c ad) hW ⟨I7, rfl, ⟨(by show 0 ≤ (I7 12 1).toInt ∧ (I7 12 1).toInt ≤ 500; exact lp5R.1), (by show 0 ≤ (I7 12 5).toInt ∧ (I7 12 5).toInt ≤ 501; exact lp5R.2.1), (by show (-1) ≤ (I7 12 6).toInt ∧ (I7 12 6).toInt ≤ 1000000; exact lp5R.2.2.1), (by show 0 ≤ (I7 12 9).toInt ∧ (I7 12 9).toInt ≤ 500; exact lp5R.2.2.2.1), (by show 0 ≤ (I7 12 13).toInt ∧ (I7 12 13).toInt ≤ 24; exact lp5R.2.2.2.2)⟩, (by show (I7 12 6).toInt ≤ 501 ∧ ((I7 12 7).toInt = 401 ∨ (I7 12 6).toInt ≤ 500); first | omega | decide), lp5fr, Or.inl rfl⟩
        · have g12 := z_f_nge rfl z_l500 c9
          have b13 := Int32.toInt_lt y6
          refine lv_aload_n hx hb dX9_product_19 rfl (lv_at hl 1 rfl) ?_
          refine z_get (T := TX9) (N := 14) (ci := 9) (i := 12) (v := .int (I7 12 7)) hx hb hts zj_X9_product_X9 hown hK hW rfl rfl 7 (by decide) (hts (.fieldLink RX9 62 "PetrolBoard$Reader" "token" "I") (me_s (me_l (me_l (List.mem_of_getElem? (i := 0) rfl))))) (fun _ h => h) rfl dX9_product_20 ?_
          refine lv_bipush (v := 42) hx hb dX9_product_23 (by decide) ?_
          refine lv_icmp_eq (tgt := 37) hx hb dX9_product_25 (by decide) (fun c14 => ?_) (fun c14 => ?_)
          · have g15 := z_f_eq rfl z_l42 c14
            have b16 := Int32.toInt_lt (I7 12 7)
            refine lv_aload_n hx hb dX9_product_37 rfl (lv_at hl 1 rfl) ?_
            refine z_get (T := TX9) (N := 14) (ci := 9) (i := 12) (v := .int (I7 12 7)) hx hb hts zj_X9_product_X9 hown hK hW rfl rfl 7 (by decide) (hts (.fieldLink RX9 62 "PetrolBoard$Reader" "token" "I") (me_s (me_l (me_l (List.mem_of_getElem? (i := 0) rfl))))) (fun _ h => h) rfl dX9_product_38 ?_
            refine lv_istore_n (lv' := [(3, .int (I7 12 7)), (2, .int y6), (0, .ref (ad 12)), (1, .int 4)]) hx hb dX9_product_41 rfl hl (by decide) rfl (fun ls hl => ?_)
            refine lv_aload_n hx hb dX9_product_42 rfl (lv_at hl 2 rfl) ?_
            refine z_cv hW hS hA (va_runV (As := []) (rest := []) ⟨hx, hb, hml, hown, hts⟩ (sx_X9_step l G ad c I7 ⟨(by show 0 ≤ (I7 12 1).toInt ∧ (I7 12 1).toInt ≤ 500; exact lp5R.1), (by show 0 ≤ (I7 12 5).toInt ∧ (I7 12 5).toInt ≤ 501; exact lp5R.2.1), (by show (-1) ≤ (I7 12 6).toInt ∧ (I7 12 6).toInt ≤ 1000000; exact lp5R.2.2.1), (by show 0 ≤ (I7 12 9).toInt ∧ (I7 12 9).toInt ≤ 500; exact lp5R.2.2.2.1), (by show 0 ≤ (I7 12 13).toInt ∧ (I7 12 13).toInt ≤ 24; exact lp5R.2.2.2.2)⟩   (by show (I7 12 6).toInt ≤ 500; first | omega | decide) _) (cwV 0 hts gX9_product_X9_step rfl rfl rfl hy_X9_step ⟨Nat.le_of_ble_eq_true rfl, Nat.le_of_ble_eq_true rfl⟩) (z_preV (i := 12) hK hW rfl rfl) rfl rfl hl.1 rfl (lv_room (Nat.le_of_ble_eq_true rfl)) dX9_product_43 ⟨Nat.le_of_ble_eq_true rfl, Nat.le_of_ble_eq_true rfl⟩) (fun u1 H locs hp hW hS => ?_)
            obtain ⟨I17, e9, hI17R, hI17T, fI17⟩ := hp
            rw [e9] at hW
            have f18 := z_fr_sub (L := L_X9_product_4) lp5fr fI17 (by decide)
            have k19 : (I17 12 6).toInt ≤ 501 ∧ ((I17 12 7).toInt = 401 ∨ (I17 12 6).toInt ≤ 500) := hI17T
            refine lv_aload_n hx hb dX9_product_46 rfl (lv_at hl 2 rfl) ?_
            refine lv_iload_n hx hb dX9_product_47 rfl (lv_at hl 3 rfl) ?_
            refine z_ci hW hS hA (va_runV (As := [.int 4]) (rest := []) ⟨hx, hb, hml, hown, hts⟩ (sx_X9_atom_4 l G ad c I17 ⟨(by show 0 ≤ (I17 12 1).toInt ∧ (I17 12 1).toInt ≤ 500; exact hI17R.1), (by show 0 ≤ (I17 12 5).toInt ∧ (I17 12 5).toInt ≤ 501; exact hI17R.2.1), (by show (-1) ≤ (I17 12 6).toInt ∧ (I17 12 6).toInt ≤ 1000000; exact hI17R.2.2.1), (by show 0 ≤ (I17 12 9).toInt ∧ (I17 12 9).toInt ≤ 500; exact hI17R.2.2.2.1), (by show 0 ≤ (I17 12 13).toInt ∧ (I17 12 13).toInt ≤ 24; exact hI17R.2.2.2.2)⟩ (by show (I17 12 6).toInt ≤ 501 ∧ ((I17 12 7).toInt = 401 ∨ (I17 12 6).toInt ≤ 500); first | omega | decide) _) (cwV 1 hts gX9_product_X9_atom rfl rfl rfl hy_X9_atom ⟨Nat.le_of_ble_eq_true rfl, Nat.le_of_ble_eq_true rfl⟩) (z_preV (i := 12) hK hW rfl rfl) rfl rfl hl.1 rfl (lv_room (Nat.le_of_ble_eq_true rfl)) dX9_product_48 ⟨Nat.le_of_ble_eq_true rfl, Nat.le_of_ble_eq_true rfl⟩) (fun r u1 H locs hp hW hS => ?_)
            obtain ⟨I20, e9, hI20R, hI20T, fI20, hp⟩ := hp
            rw [e9] at hW
            have f21 := z_fr_sub (L := L_X9_product_4) f18 fI20 (by decide)
            have k22 : (I20 12 6).toInt ≤ 501 ∧ ((I20 12 7).toInt = 401 ∨ (I20 12 6).toInt ≤ 500) := hI20T
            rcases hp with rfl | rfl
            · refine lv_if_ne (tgt := 56) hx hb dX9_product_51 (by decide) (fun c23 => ?_) (fun c23 => absurd c23 (by decide))
              refine lv_aload_n hx hb dX9_product_56 rfl (lv_at hl 2 rfl) ?_
              refine lv_iload_n hx hb dX9_product_57 rfl (lv_at hl 0 rfl) ?_
              refine lv_bipush (v := 42) hx hb dX9_product_58 (by decide) ?_
              refine lv_icmp_ne (tgt := 68) hx hb dX9_product_60 (by decide) (fun c24 => (by have g := z_f_ne rfl z_l42 c24; omega)) (fun c24 => ?_)
              have g25 := z_f_eq rfl z_l42 c24
              refine lv_bipush (v := (-3)) hx hb dX9_product_63 (by decide) ?_
              refine lv_goto (tgt := 70) hx hb dX9_product_65 (by decide) ?_
              refine z_cv hW hS hA (va_runV (As := [.int (-3)]) (rest := []) ⟨hx, hb, hml, hown, hts⟩ (sx_X9_emit l G ad c I20 ⟨(by show 0 ≤ (I20 12 1).toInt ∧ (I20 12 1).toInt ≤ 500; exact hI20R.1), (by show 0 ≤ (I20 12 5).toInt ∧ (I20 12 5).toInt ≤ 501; exact hI20R.2.1), (by show (-1) ≤ (I20 12 6).toInt ∧ (I20 12 6).toInt ≤ 1000000; exact hI20R.2.2.1), (by show 0 ≤ (I20 12 9).toInt ∧ (I20 12 9).toInt ≤ 500; exact hI20R.2.2.2.1), (by show 0 ≤ (I20 12 13).toInt ∧ (I20 12 13).toInt ≤ 24; exact hI20R.2.2.2.2)⟩ (-3) _) (cwV 1 hts gX9_product_X9_emit rfl rfl rfl hy_X9_emit ⟨Nat.le_of_ble_eq_true rfl, Nat.le_of_ble_eq_true rfl⟩) (z_preV (i := 12) hK hW rfl rfl) rfl rfl hl.1 rfl (lv_room (Nat.le_of_ble_eq_true rfl)) dX9_product_70 ⟨Nat.le_of_ble_eq_true rfl, Nat.le_of_ble_eq_true rfl⟩) (fun u1 H locs hp hW hS => ?_)
              obtain ⟨I26, e9, hI26R, fI26⟩ := hp
              rw [e9] at hW
              have f27 := z_fr_sub (L := L_X9_product_4) f21 fI26 (by decide)
              have k28 : (I26 12 6).toInt ≤ 501 ∧ ((I26 12 7).toInt = 401 ∨ (I26 12 6).toInt ≤ 500) := (by have q0 : (I26 12 6) = (I20 12 6) := (by rw [fI26 12 6 (by decide)]); have q1 : (I26 12 7) = (I20 12 7) := (by rw [fI26 12 7 (by decide)]); show (I26 12 6).toInt ≤ 501 ∧ ((I26 12 7).toInt = 401 ∨ (I26 12 6).toInt ≤ 500); rw [q0, q1]; first | omega | decide)
              have k29 : (I26 12 6).toInt = (I20 12 6).toInt := by rw [fI26 12 6 (by decide)]
              have k30 : (I26 12 7).toInt = (I20 12 7).toInt := by rw [fI26 12 7 (by decide)]
              obtain ⟨x31, ex31⟩ : ∃ y : Int32, y = y6 + 1 := ⟨_, rfl⟩
              have tx31 : x31.toInt = y6.toInt + 1 := z_tadd ex31 rfl z_l1 (by omega) (by omega)
              refine lv_iinc (v := x31) (lv' := [(2, .int x31), (3, .int (I7 12 7)), (0, .ref (ad 12)), (1, .int 4)]) hx hb dX9_product_73 hl (k := 1) rfl (by rw [ex31]; rfl) (by decide) rfl (fun ls hl => ?_)
              refine lv_goto (tgt := 12) hx hb dX9_product_76 (by decide) ?_
              exact lp5ih x31 I26  _ _ _ (by omega) (by omega) ⟨(by show 0 ≤ (I26 12 1).toInt ∧ (I26 12 1).toInt ≤ 500; exact hI26R.1), (by show 0 ≤ (I26 12 5).toInt ∧ (I26 12 5).toInt ≤ 501; exact hI26R.2.1), (by show (-1) ≤ (I26 12 6).toInt ∧ (I26 12 6).toInt ≤ 1000000; exact hI26R.2.2.1), (by show 0 ≤ (I26 12 9).toInt ∧ (I26 12 9).toInt ≤ 500; exact hI26R.2.2.2.1), (by show 0 ≤ (I26 12 13).toInt ∧ (I26 12 13).toInt ≤ 24; exact hI26R.2.2.2.2)⟩ (by show (I26 12 6).toInt ≤ 501 ∧ ((I26 12 7).toInt = 401 ∨ (I26 12 6).toInt ≤ 500); first | omega | decide) f27 hW hS (lv_sub hl [0, 2, 3] rfl)
            · refine lv_if_ne (tgt := 56) hx hb dX9_product_51 (by decide) (fun c32 => absurd (by decide) c32) (fun c32 => ?_)
              refine lv_iconst (v := 0) hx hb dX9_product_54 (by decide) ?_
              exact z_zret hx hb hr (by decide) hK hS (Nat.le_of_ble_eq_true rfl) (Nat.le_of_ble_eq_true rfl) hlocks dX9_product_55 (shC c, ad, I20, JX, PC c ad) hW ⟨I20, rfl, ⟨(by show 0 ≤ (I20 12 1).toInt ∧ (I20 12 1).toInt ≤ 500; exact hI20R.1), (by show 0 ≤ (I20 12 5).toInt ∧ (I20 12 5).toInt ≤ 501; exact hI20R.2.1), (by show (-1) ≤ (I20 12 6).toInt ∧ (I20 12 6).toInt ≤ 1000000; exact hI20R.2.2.1), (by show 0 ≤ (I20 12 9).toInt ∧ (I20 12 9).toInt ≤ 500; exact hI20R.2.2.2.1), (by show 0 ≤ (I20 12 13).toInt ∧ (I20 12 13).toInt ≤ 24; exact hI20R.2.2.2.2)⟩, (by show (I20 12 6).toInt ≤ 501 ∧ ((I20 12 7).toInt = 401 ∨ (I20 12 6).toInt ≤ 500); first | omega | decide), f21, Or.inr rfl⟩
          · have g33 := z_f_ne rfl z_l42 c14
            have b34 := Int32.toInt_lt (I7 12 7)
            refine lv_aload_n hx hb dX9_product_28 rfl (lv_at hl 1 rfl) ?_
            refine z_get (T := TX9) (N := 14) (ci := 9) (i := 12) (v := .int (I7 12 7)) hx hb hts zj_X9_product_X9 hown hK hW rfl rfl 7 (by decide) (hts (.fieldLink RX9 62 "PetrolBoard$Reader" "token" "I") (me_s (me_l (me_l (List.mem_of_getElem? (i := 0) rfl))))) (fun _ h => h) rfl dX9_product_29 ?_
            refine lv_bipush (v := 47) hx hb dX9_product_32 (by decide) ?_
            refine lv_icmp_ne (tgt := 79) hx hb dX9_product_34 (by decide) (fun c35 => ?_) (fun c35 => ?_)
            · have g36 := z_f_ne rfl z_l47 c35
              refine lv_iconst (v := 1) hx hb dX9_product_79 (by decide) ?_
              exact z_zret hx hb hr (by decide) hK hS (Nat.le_of_ble_eq_true rfl) (Nat.le_of_ble_eq_true rfl) hlocks dX9_product_80 (shC c, ad, I7, JX, PC c ad) hW ⟨I7, rfl, ⟨(by show 0 ≤ (I7 12 1).toInt ∧ (I7 12 1).toInt ≤ 500; exact lp5R.1), (by show 0 ≤ (I7 12 5).toInt ∧ (I7 12 5).toInt ≤ 501; exact lp5R.2.1), (by show (-1) ≤ (I7 12 6).toInt ∧ (I7 12 6).toInt ≤ 1000000; exact lp5R.2.2.1), (by show 0 ≤ (I7 12 9).toInt ∧ (I7 12 9).toInt ≤ 500; exact lp5R.2.2.2.1), (by show 0 ≤ (I7 12 13).toInt ∧ (I7 12 13).toInt ≤ 24; exact lp5R.2.2.2.2)⟩, (by show (I7 12 6).toInt ≤ 501 ∧ ((I7 12 7).toInt = 401 ∨ (I7 12 6).toInt ≤ 500); first | omega | decide), lp5fr, Or.inl rfl⟩
            · have g37 := z_f_eq rfl z_l47 c35
              refine lv_aload_n hx hb dX9_product_37 rfl (lv_at hl 1 rfl) ?_
              refine z_get (T := TX9) (N := 14) (ci := 9) (i := 12) (v := .int (I7 12 7)) hx hb hts zj_X9_product_X9 hown hK hW rfl rfl 7 (by decide) (hts (.fieldLink RX9 62 "PetrolBoard$Reader" "token" "I") (me_s (me_l (me_l (List.mem_of_getElem? (i := 0) rfl))))) (fun _ h => h) rfl dX9_product_38 ?_
              refine lv_istore_n (lv' := [(3, .int (I7 12 7)), (2, .int y6), (0, .ref (ad 12)), (1, .int 4)]) hx hb dX9_product_41 rfl hl (by decide) rfl (fun ls hl => ?_)
              refine lv_aload_n hx hb dX9_product_42 rfl (lv_at hl 2 rfl) ?_
              refine z_cv hW hS hA (va_runV (As := []) (rest := []) ⟨hx, hb, hml, hown, hts⟩ (sx_X9_step l G ad c I7 ⟨(by show 0 ≤ (I7 12 1).toInt ∧ (I7 12 1).toInt ≤ 500; exact lp5R.1), (by show 0 ≤ (I7 12 5).toInt ∧ (I7 12 5).toInt ≤ 501; exact lp5R.2.1), (by show (-1) ≤ (I7 12 6).toInt ∧ (I7 12 6).toInt ≤ 1000000; exact lp5R.2.2.1), (by show 0 ≤ (I7 12 9).toInt ∧ (I7 12 9).toInt ≤ 500; exact lp5R.2.2.2.1), (by show 0 ≤ (I7 12 13).toInt ∧ (I7 12 13).toInt ≤ 24; exact lp5R.2.2.2.2)⟩   (by show (I7 12 6).toInt ≤ 500; first | omega | decide) _) (cwV 0 hts gX9_product_X9_step rfl rfl rfl hy_X9_step ⟨Nat.le_of_ble_eq_true rfl, Nat.le_of_ble_eq_true rfl⟩) (z_preV (i := 12) hK hW rfl rfl) rfl rfl hl.1 rfl (lv_room (Nat.le_of_ble_eq_true rfl)) dX9_product_43 ⟨Nat.le_of_ble_eq_true rfl, Nat.le_of_ble_eq_true rfl⟩) (fun u1 H locs hp hW hS => ?_)
              obtain ⟨I38, e9, hI38R, hI38T, fI38⟩ := hp
              rw [e9] at hW
              have f39 := z_fr_sub (L := L_X9_product_4) lp5fr fI38 (by decide)
              have k40 : (I38 12 6).toInt ≤ 501 ∧ ((I38 12 7).toInt = 401 ∨ (I38 12 6).toInt ≤ 500) := hI38T
              refine lv_aload_n hx hb dX9_product_46 rfl (lv_at hl 2 rfl) ?_
              refine lv_iload_n hx hb dX9_product_47 rfl (lv_at hl 3 rfl) ?_
              refine z_ci hW hS hA (va_runV (As := [.int 4]) (rest := []) ⟨hx, hb, hml, hown, hts⟩ (sx_X9_atom_4 l G ad c I38 ⟨(by show 0 ≤ (I38 12 1).toInt ∧ (I38 12 1).toInt ≤ 500; exact hI38R.1), (by show 0 ≤ (I38 12 5).toInt ∧ (I38 12 5).toInt ≤ 501; exact hI38R.2.1), (by show (-1) ≤ (I38 12 6).toInt ∧ (I38 12 6).toInt ≤ 1000000; exact hI38R.2.2.1), (by show 0 ≤ (I38 12 9).toInt ∧ (I38 12 9).toInt ≤ 500; exact hI38R.2.2.2.1), (by show 0 ≤ (I38 12 13).toInt ∧ (I38 12 13).toInt ≤ 24; exact hI38R.2.2.2.2)⟩ (by show (I38 12 6).toInt ≤ 501 ∧ ((I38 12 7).toInt = 401 ∨ (I38 12 6).toInt ≤ 500); first | omega | decide) _) (cwV 1 hts gX9_product_X9_atom rfl rfl rfl hy_X9_atom ⟨Nat.le_of_ble_eq_true rfl, Nat.le_of_ble_eq_true rfl⟩) (z_preV (i := 12) hK hW rfl rfl) rfl rfl hl.1 rfl (lv_room (Nat.le_of_ble_eq_true rfl)) dX9_product_48 ⟨Nat.le_of_ble_eq_true rfl, Nat.le_of_ble_eq_true rfl⟩) (fun r u1 H locs hp hW hS => ?_)
              obtain ⟨I41, e9, hI41R, hI41T, fI41, hp⟩ := hp
              rw [e9] at hW
              have f42 := z_fr_sub (L := L_X9_product_4) f39 fI41 (by decide)
              have k43 : (I41 12 6).toInt ≤ 501 ∧ ((I41 12 7).toInt = 401 ∨ (I41 12 6).toInt ≤ 500) := hI41T
              rcases hp with rfl | rfl
              · refine lv_if_ne (tgt := 56) hx hb dX9_product_51 (by decide) (fun c44 => ?_) (fun c44 => absurd c44 (by decide))
                refine lv_aload_n hx hb dX9_product_56 rfl (lv_at hl 2 rfl) ?_
                refine lv_iload_n hx hb dX9_product_57 rfl (lv_at hl 0 rfl) ?_
                refine lv_bipush (v := 42) hx hb dX9_product_58 (by decide) ?_
                refine lv_icmp_ne (tgt := 68) hx hb dX9_product_60 (by decide) (fun c45 => ?_) (fun c45 => (by have g := z_f_eq rfl z_l42 c45; omega))
                have g46 := z_f_ne rfl z_l42 c45
                refine lv_bipush (v := (-4)) hx hb dX9_product_68 (by decide) ?_
                refine z_cv hW hS hA (va_runV (As := [.int (-4)]) (rest := []) ⟨hx, hb, hml, hown, hts⟩ (sx_X9_emit l G ad c I41 ⟨(by show 0 ≤ (I41 12 1).toInt ∧ (I41 12 1).toInt ≤ 500; exact hI41R.1), (by show 0 ≤ (I41 12 5).toInt ∧ (I41 12 5).toInt ≤ 501; exact hI41R.2.1), (by show (-1) ≤ (I41 12 6).toInt ∧ (I41 12 6).toInt ≤ 1000000; exact hI41R.2.2.1), (by show 0 ≤ (I41 12 9).toInt ∧ (I41 12 9).toInt ≤ 500; exact hI41R.2.2.2.1), (by show 0 ≤ (I41 12 13).toInt ∧ (I41 12 13).toInt ≤ 24; exact hI41R.2.2.2.2)⟩ (-4) _) (cwV 1 hts gX9_product_X9_emit rfl rfl rfl hy_X9_emit ⟨Nat.le_of_ble_eq_true rfl, Nat.le_of_ble_eq_true rfl⟩) (z_preV (i := 12) hK hW rfl rfl) rfl rfl hl.1 rfl (lv_room (Nat.le_of_ble_eq_true rfl)) dX9_product_70 ⟨Nat.le_of_ble_eq_true rfl, Nat.le_of_ble_eq_true rfl⟩) (fun u1 H locs hp hW hS => ?_)
                obtain ⟨I47, e9, hI47R, fI47⟩ := hp
                rw [e9] at hW
                have f48 := z_fr_sub (L := L_X9_product_4) f42 fI47 (by decide)
                have k49 : (I47 12 6).toInt ≤ 501 ∧ ((I47 12 7).toInt = 401 ∨ (I47 12 6).toInt ≤ 500) := (by have q0 : (I47 12 6) = (I41 12 6) := (by rw [fI47 12 6 (by decide)]); have q1 : (I47 12 7) = (I41 12 7) := (by rw [fI47 12 7 (by decide)]); show (I47 12 6).toInt ≤ 501 ∧ ((I47 12 7).toInt = 401 ∨ (I47 12 6).toInt ≤ 500); rw [q0, q1]; first | omega | decide)
                have k50 : (I47 12 6).toInt = (I41 12 6).toInt := by rw [fI47 12 6 (by decide)]
                have k51 : (I47 12 7).toInt = (I41 12 7).toInt := by rw [fI47 12 7 (by decide)]
                obtain ⟨x52, ex52⟩ : ∃ y : Int32, y = y6 + 1 := ⟨_, rfl⟩
                have tx52 : x52.toInt = y6.toInt + 1 := z_tadd ex52 rfl z_l1 (by omega) (by omega)
                refine lv_iinc (v := x52) (lv' := [(2, .int x52), (3, .int (I7 12 7)), (0, .ref (ad 12)), (1, .int 4)]) hx hb dX9_product_73 hl (k := 1) rfl (by rw [ex52]; rfl) (by decide) rfl (fun ls hl => ?_)
                refine lv_goto (tgt := 12) hx hb dX9_product_76 (by decide) ?_
                exact lp5ih x52 I47  _ _ _ (by omega) (by omega) ⟨(by show 0 ≤ (I47 12 1).toInt ∧ (I47 12 1).toInt ≤ 500; exact hI47R.1), (by show 0 ≤ (I47 12 5).toInt ∧ (I47 12 5).toInt ≤ 501; exact hI47R.2.1), (by show (-1) ≤ (I47 12 6).toInt ∧ (I47 12 6).toInt ≤ 1000000; exact hI47R.2.2.1), (by show 0 ≤ (I47 12 9).toInt ∧ (I47 12 9).toInt ≤ 500; exact hI47R.2.2.2.1), (by show 0 ≤ (I47 12 13).toInt ∧ (I47 12 13).toInt ≤ 24; exact hI47R.2.2.2.2)⟩ (by show (I47 12 6).toInt ≤ 501 ∧ ((I47 12 7).toInt = 401 ∨ (I47 12 6).toInt ≤ 500); first | omega | decide) f48 hW hS (lv_sub hl [0, 2, 3] rfl)
              · refine lv_if_ne (tgt := 56) hx hb dX9_product_51 (by decide) (fun c53 => absurd (by decide) c53) (fun c53 => ?_)
                refine lv_iconst (v := 0) hx hb dX9_product_54 (by decide) ?_
                exact z_zret hx hb hr (by decide) hK hS (Nat.le_of_ble_eq_true rfl) (Nat.le_of_ble_eq_true rfl) hlocks dX9_product_55 (shC c, ad, I41, JX, PC c ad) hW ⟨I41, rfl, ⟨(by show 0 ≤ (I41 12 1).toInt ∧ (I41 12 1).toInt ≤ 500; exact hI41R.1), (by show 0 ≤ (I41 12 5).toInt ∧ (I41 12 5).toInt ≤ 501; exact hI41R.2.1), (by show (-1) ≤ (I41 12 6).toInt ∧ (I41 12 6).toInt ≤ 1000000; exact hI41R.2.2.1), (by show 0 ≤ (I41 12 9).toInt ∧ (I41 12 9).toInt ≤ 500; exact hI41R.2.2.2.1), (by show 0 ≤ (I41 12 13).toInt ∧ (I41 12 13).toInt ≤ 24; exact hI41R.2.2.2.2)⟩, (by show (I41 12 6).toInt ≤ 501 ∧ ((I41 12 7).toInt = 401 ∨ (I41 12 6).toInt ≤ 500); first | omega | decide), f42, Or.inr rfl⟩
    exact lp5 4294967296 (0) I1  _ _ _ (z_m0u _) (by rw [z_l0]; omega) ⟨(by show 0 ≤ (I1 12 1).toInt ∧ (I1 12 1).toInt ≤ 500; exact hI1R.1), (by show 0 ≤ (I1 12 5).toInt ∧ (I1 12 5).toInt ≤ 501; exact hI1R.2.1), (by show (-1) ≤ (I1 12 6).toInt ∧ (I1 12 6).toInt ≤ 1000000; exact hI1R.2.2.1), (by show 0 ≤ (I1 12 9).toInt ∧ (I1 12 9).toInt ≤ 500; exact hI1R.2.2.2.1), (by show 0 ≤ (I1 12 13).toInt ∧ (I1 12 13).toInt ≤ 24; exact hI1R.2.2.2.2)⟩ (by show (I1 12 6).toInt ≤ 501 ∧ ((I1 12 7).toInt = 401 ∨ (I1 12 6).toInt ≤ 500); first | omega | decide) f2 hW hS (lv_sub hl [0, 1, 2] rfl)
  · refine lv_if_ne (tgt := 10) hx hb dX9_product_5 (by decide) (fun c54 => absurd (by decide) c54) (fun c54 => ?_)
    refine lv_iconst (v := 0) hx hb dX9_product_8 (by decide) ?_
    exact z_zret hx hb hr (by decide) hK hS (Nat.le_of_ble_eq_true rfl) (Nat.le_of_ble_eq_true rfl) hlocks dX9_product_9 (shC c, ad, I1, JX, PC c ad) hW ⟨I1, rfl, ⟨(by show 0 ≤ (I1 12 1).toInt ∧ (I1 12 1).toInt ≤ 500; exact hI1R.1), (by show 0 ≤ (I1 12 5).toInt ∧ (I1 12 5).toInt ≤ 501; exact hI1R.2.1), (by show (-1) ≤ (I1 12 6).toInt ∧ (I1 12 6).toInt ≤ 1000000; exact hI1R.2.2.1), (by show 0 ≤ (I1 12 9).toInt ∧ (I1 12 9).toInt ≤ 500; exact hI1R.2.2.2.1), (by show 0 ≤ (I1 12 13).toInt ∧ (I1 12 13).toInt ≤ 24; exact hI1R.2.2.2.2)⟩, (by show (I1 12 6).toInt ≤ 501 ∧ ((I1 12 7).toInt = 401 ∨ (I1 12 6).toInt ≤ 500); first | omega | decide), f2, Or.inr rfl⟩
noncomputable def L_X9_sum_4 : z_L := [(12, 6), (12, 7), (17, 999), (12, 9)]
set_option maxHeartbeats 8000000 in
set_option maxRecDepth 100000 in
theorem sx_X9_sum_4 (l : Launch) (G : z_G) (ad : Nat → Nat) (c : z_C) (I : z_I) (hR : z_iR I) (hT : z_iT I) : z_M l yX9_sum wsX9_sum { frames := 20, cells := 0, slots := 0, locals := 438 } [.ref (ad 12), .int 4] G (shC c, ad, I, JX, PC c ad) (fun r u1 => ∃ I1 : z_I, u1 = (shC c, ad, I1, JX, PC c ad) ∧ z_iR I1 ∧ z_iT I1 ∧ z_fr L_X9_sum_4 I1 I ∧ (r = 1 ∨ r = 0)) 0 0 := by
  intro sz
  refine z_headQ (cc := cX9_sum) (maxL := 4) (ret := (some .boolean)) (by decide) rfl (Nat.le_of_ble_eq_true rfl) ?_
  intro p e s m below meth c0 ls hIn hK hsz hW hl
  obtain ⟨hx, hb, hr, hml, hown, hts, hlocks, hname⟩ := hIn
  subst hsz
  have hown : s.vm.findClass RX9 = some m.cls := hown
  have hA : ∀ q : Nat, s.heap.size ≤ q → z_A (shC c, ad, I, JX, PC c ad) s.heap.size q := fun q h => Or.inr h
  generalize hAe : z_A (shC c, ad, I, JX, PC c ad) s.heap.size = A at *
  have hS : va_S A s.heap s.heap [] := va_S.rf
  have hl : lv_has ls 4 [(0, .ref (ad 12)), (1, .int 4)] := hl
  have kT : (I 12 6).toInt ≤ 501 ∧ ((I 12 7).toInt = 401 ∨ (I 12 6).toInt ≤ 500) := hT
  refine lv_aload_n hx hb dX9_sum_0 rfl (lv_at hl 0 rfl) ?_
  refine lv_iload_n hx hb dX9_sum_1 rfl (lv_at hl 1 rfl) ?_
  refine z_ci hW hS hA (va_runV (As := [.int 4]) (rest := []) ⟨hx, hb, hml, hown, hts⟩ (sx_X9_product_4 l G ad c I ⟨(by show 0 ≤ (I 12 1).toInt ∧ (I 12 1).toInt ≤ 500; exact hR.1), (by show 0 ≤ (I 12 5).toInt ∧ (I 12 5).toInt ≤ 501; exact hR.2.1), (by show (-1) ≤ (I 12 6).toInt ∧ (I 12 6).toInt ≤ 1000000; exact hR.2.2.1), (by show 0 ≤ (I 12 9).toInt ∧ (I 12 9).toInt ≤ 500; exact hR.2.2.2.1), (by show 0 ≤ (I 12 13).toInt ∧ (I 12 13).toInt ≤ 24; exact hR.2.2.2.2)⟩ (by show (I 12 6).toInt ≤ 501 ∧ ((I 12 7).toInt = 401 ∨ (I 12 6).toInt ≤ 500); first | omega | decide) _) (cwV 1 hts gX9_sum_X9_product rfl rfl rfl hy_X9_product ⟨Nat.le_of_ble_eq_true rfl, Nat.le_of_ble_eq_true rfl⟩) (z_preV (i := 12) hK hW rfl rfl) rfl rfl hl.1 rfl (lv_room (Nat.le_of_ble_eq_true rfl)) dX9_sum_2 ⟨Nat.le_of_ble_eq_true rfl, Nat.le_of_ble_eq_true rfl⟩) (fun r u1 H locs hp hW hS => ?_)
  obtain ⟨I1, e9, hI1R, hI1T, fI1, hp⟩ := hp
  rw [e9] at hW
  have f2 := z_fr_sub (L := L_X9_sum_4) z_fr_0 fI1 (by decide)
  have k3 : (I1 12 6).toInt ≤ 501 ∧ ((I1 12 7).toInt = 401 ∨ (I1 12 6).toInt ≤ 500) := hI1T
  rcases hp with rfl | rfl
  · refine lv_if_ne (tgt := 10) hx hb dX9_sum_5 (by decide) (fun c4 => ?_) (fun c4 => absurd c4 (by decide))
    refine lv_iconst (v := 0) hx hb dX9_sum_10 (by decide) ?_
    refine lv_istore_n (lv' := [(2, .int 0), (0, .ref (ad 12)), (1, .int 4)]) hx hb dX9_sum_11 rfl hl (by decide) rfl (fun ls hl => ?_)
    have lp5 : ∀ (f : Nat) (y6 : Int32) (I7 : z_I) (H : Heap) (locs : List Loc) (ls : Array Slot), (2147483647 < y6.toInt + (f : Int)) → (0 ≤ y6.toInt) → (z_iR I7) → (z_iT I7) → (z_fr L_X9_sum_4 I7 I) → z_W G A (shC c, ad, I7, JX, PC c ad) H → va_S A s.heap H locs → lv_has ls 4 [(2, .int y6), (0, .ref (ad 12)), (1, .int 4)] → W p l e (headSpec wsX9_sum { frames := 20, cells := 0, slots := 0, locals := 438 }).room s m ([.ref (ad 12), .int 4] : List Value).toArray below meth c0 H locs 0 0 (MQ below (va_Qi (fun (r : Int32) (u1 : z_U) => ∃ I1 : z_I, u1 = (shC c, ad, I1, JX, PC c ad) ∧ z_iR I1 ∧ z_iT I1 ∧ z_fr L_X9_sum_4 I1 I ∧ (r = 1 ∨ r = 0)) (z_B G A) A) ([.ref (ad 12), .int 4] : List Value).toArray s 0 0 A) (F0 m 12 ls []) := by
      intro f
      induction f with
      | zero => intro y6 I7  H locs ls lp5m lp5l2 lp5R lp5T lp5fr hW hS hl; exact absurd lp5m (by have := Int32.toInt_lt y6; have := Int32.le_toInt y6; omega)
      | succ f lp5ih =>
        intro y6 I7  H locs ls lp5m lp5l2 lp5R lp5T lp5fr hW hS hl
        have k8 : (I7 12 6).toInt ≤ 501 ∧ ((I7 12 7).toInt = 401 ∨ (I7 12 6).toInt ≤ 500) := lp5T
        refine lv_iload_n hx hb dX9_sum_12 rfl (lv_at hl 0 rfl) ?_
        refine lv_sipush (v := 500) hx hb dX9_sum_13 (by decide) ?_
        refine lv_icmp_ge (tgt := 78) hx hb dX9_sum_16 (by decide) (fun c9 => ?_) (fun c9 => ?_)
        · have g10 := z_f_ge rfl z_l500 c9
          have b11 := Int32.toInt_lt y6
          refine lv_iconst (v := 1) hx hb dX9_sum_78 (by decide) ?_
          exact z_zret hx hb hr (by decide) hK hS (Nat.le_of_ble_eq_true rfl) (Nat.le_of_ble_eq_true rfl) hlocks dX9_sum_79 (shC c, ad, I7, JX, PC c ad) hW ⟨I7, rfl, ⟨(by show 0 ≤ (I7 12 1).toInt ∧ (I7 12 1).toInt ≤ 500; exact lp5R.1), (by show 0 ≤ (I7 12 5).toInt ∧ (I7 12 5).toInt ≤ 501; exact lp5R.2.1), (by show (-1) ≤ (I7 12 6).toInt ∧ (I7 12 6).toInt ≤ 1000000; exact lp5R.2.2.1), (by show 0 ≤ (I7 12 9).toInt ∧ (I7 12 9).toInt ≤ 500; exact lp5R.2.2.2.1), (by show 0 ≤ (I7 12 13).toInt ∧ (I7 12 13).toInt ≤ 24; exact lp5R.2.2.2.2)⟩, (by show (I7 12 6).toInt ≤ 501 ∧ ((I7 12 7).toInt = 401 ∨ (I7 12 6).toInt ≤ 500); first | omega | decide), lp5fr, Or.inl rfl⟩
        · have g12 := z_f_nge rfl z_l500 c9
          have b13 := Int32.toInt_lt y6
          refine lv_aload_n hx hb dX9_sum_19 rfl (lv_at hl 1 rfl) ?_
          refine z_get (T := TX9) (N := 14) (ci := 9) (i := 12) (v := .int (I7 12 7)) hx hb hts zj_X9_sum_X9 hown hK hW rfl rfl 7 (by decide) (hts (.fieldLink RX9 62 "PetrolBoard$Reader" "token" "I") (me_s (me_l (me_l (List.mem_of_getElem? (i := 0) rfl))))) (fun _ h => h) rfl dX9_sum_20 ?_
          refine lv_bipush (v := 43) hx hb dX9_sum_23 (by decide) ?_
          refine lv_icmp_eq (tgt := 37) hx hb dX9_sum_25 (by decide) (fun c14 => ?_) (fun c14 => ?_)
          · have g15 := z_f_eq rfl z_l43 c14
            have b16 := Int32.toInt_lt (I7 12 7)
            refine lv_aload_n hx hb dX9_sum_37 rfl (lv_at hl 1 rfl) ?_
            refine z_get (T := TX9) (N := 14) (ci := 9) (i := 12) (v := .int (I7 12 7)) hx hb hts zj_X9_sum_X9 hown hK hW rfl rfl 7 (by decide) (hts (.fieldLink RX9 62 "PetrolBoard$Reader" "token" "I") (me_s (me_l (me_l (List.mem_of_getElem? (i := 0) rfl))))) (fun _ h => h) rfl dX9_sum_38 ?_
            refine lv_istore_n (lv' := [(3, .int (I7 12 7)), (2, .int y6), (0, .ref (ad 12)), (1, .int 4)]) hx hb dX9_sum_41 rfl hl (by decide) rfl (fun ls hl => ?_)
            refine lv_aload_n hx hb dX9_sum_42 rfl (lv_at hl 2 rfl) ?_
            refine z_cv hW hS hA (va_runV (As := []) (rest := []) ⟨hx, hb, hml, hown, hts⟩ (sx_X9_step l G ad c I7 ⟨(by show 0 ≤ (I7 12 1).toInt ∧ (I7 12 1).toInt ≤ 500; exact lp5R.1), (by show 0 ≤ (I7 12 5).toInt ∧ (I7 12 5).toInt ≤ 501; exact lp5R.2.1), (by show (-1) ≤ (I7 12 6).toInt ∧ (I7 12 6).toInt ≤ 1000000; exact lp5R.2.2.1), (by show 0 ≤ (I7 12 9).toInt ∧ (I7 12 9).toInt ≤ 500; exact lp5R.2.2.2.1), (by show 0 ≤ (I7 12 13).toInt ∧ (I7 12 13).toInt ≤ 24; exact lp5R.2.2.2.2)⟩   (by show (I7 12 6).toInt ≤ 500; first | omega | decide) _) (cwV 0 hts gX9_sum_X9_step rfl rfl rfl hy_X9_step ⟨Nat.le_of_ble_eq_true rfl, Nat.le_of_ble_eq_true rfl⟩) (z_preV (i := 12) hK hW rfl rfl) rfl rfl hl.1 rfl (lv_room (Nat.le_of_ble_eq_true rfl)) dX9_sum_43 ⟨Nat.le_of_ble_eq_true rfl, Nat.le_of_ble_eq_true rfl⟩) (fun u1 H locs hp hW hS => ?_)
            obtain ⟨I17, e9, hI17R, hI17T, fI17⟩ := hp
            rw [e9] at hW
            have f18 := z_fr_sub (L := L_X9_sum_4) lp5fr fI17 (by decide)
            have k19 : (I17 12 6).toInt ≤ 501 ∧ ((I17 12 7).toInt = 401 ∨ (I17 12 6).toInt ≤ 500) := hI17T
            refine lv_aload_n hx hb dX9_sum_46 rfl (lv_at hl 2 rfl) ?_
            refine lv_iload_n hx hb dX9_sum_47 rfl (lv_at hl 3 rfl) ?_
            refine z_ci hW hS hA (va_runV (As := [.int 4]) (rest := []) ⟨hx, hb, hml, hown, hts⟩ (sx_X9_product_4 l G ad c I17 ⟨(by show 0 ≤ (I17 12 1).toInt ∧ (I17 12 1).toInt ≤ 500; exact hI17R.1), (by show 0 ≤ (I17 12 5).toInt ∧ (I17 12 5).toInt ≤ 501; exact hI17R.2.1), (by show (-1) ≤ (I17 12 6).toInt ∧ (I17 12 6).toInt ≤ 1000000; exact hI17R.2.2.1), (by show 0 ≤ (I17 12 9).toInt ∧ (I17 12 9).toInt ≤ 500; exact hI17R.2.2.2.1), (by show 0 ≤ (I17 12 13).toInt ∧ (I17 12 13).toInt ≤ 24; exact hI17R.2.2.2.2)⟩ (by show (I17 12 6).toInt ≤ 501 ∧ ((I17 12 7).toInt = 401 ∨ (I17 12 6).toInt ≤ 500); first | omega | decide) _) (cwV 1 hts gX9_sum_X9_product rfl rfl rfl hy_X9_product ⟨Nat.le_of_ble_eq_true rfl, Nat.le_of_ble_eq_true rfl⟩) (z_preV (i := 12) hK hW rfl rfl) rfl rfl hl.1 rfl (lv_room (Nat.le_of_ble_eq_true rfl)) dX9_sum_48 ⟨Nat.le_of_ble_eq_true rfl, Nat.le_of_ble_eq_true rfl⟩) (fun r u1 H locs hp hW hS => ?_)
            obtain ⟨I20, e9, hI20R, hI20T, fI20, hp⟩ := hp
            rw [e9] at hW
            have f21 := z_fr_sub (L := L_X9_sum_4) f18 fI20 (by decide)
            have k22 : (I20 12 6).toInt ≤ 501 ∧ ((I20 12 7).toInt = 401 ∨ (I20 12 6).toInt ≤ 500) := hI20T
            rcases hp with rfl | rfl
            · refine lv_if_ne (tgt := 56) hx hb dX9_sum_51 (by decide) (fun c23 => ?_) (fun c23 => absurd c23 (by decide))
              refine lv_aload_n hx hb dX9_sum_56 rfl (lv_at hl 2 rfl) ?_
              refine lv_iload_n hx hb dX9_sum_57 rfl (lv_at hl 0 rfl) ?_
              refine lv_bipush (v := 43) hx hb dX9_sum_58 (by decide) ?_
              refine lv_icmp_ne (tgt := 67) hx hb dX9_sum_60 (by decide) (fun c24 => (by have g := z_f_ne rfl z_l43 c24; omega)) (fun c24 => ?_)
              have g25 := z_f_eq rfl z_l43 c24
              refine lv_iconst (v := (-1)) hx hb dX9_sum_63 (by decide) ?_
              refine lv_goto (tgt := 69) hx hb dX9_sum_64 (by decide) ?_
              refine z_cv hW hS hA (va_runV (As := [.int (-1)]) (rest := []) ⟨hx, hb, hml, hown, hts⟩ (sx_X9_emit l G ad c I20 ⟨(by show 0 ≤ (I20 12 1).toInt ∧ (I20 12 1).toInt ≤ 500; exact hI20R.1), (by show 0 ≤ (I20 12 5).toInt ∧ (I20 12 5).toInt ≤ 501; exact hI20R.2.1), (by show (-1) ≤ (I20 12 6).toInt ∧ (I20 12 6).toInt ≤ 1000000; exact hI20R.2.2.1), (by show 0 ≤ (I20 12 9).toInt ∧ (I20 12 9).toInt ≤ 500; exact hI20R.2.2.2.1), (by show 0 ≤ (I20 12 13).toInt ∧ (I20 12 13).toInt ≤ 24; exact hI20R.2.2.2.2)⟩ (-1) _) (cwV 1 hts gX9_sum_X9_emit rfl rfl rfl hy_X9_emit ⟨Nat.le_of_ble_eq_true rfl, Nat.le_of_ble_eq_true rfl⟩) (z_preV (i := 12) hK hW rfl rfl) rfl rfl hl.1 rfl (lv_room (Nat.le_of_ble_eq_true rfl)) dX9_sum_69 ⟨Nat.le_of_ble_eq_true rfl, Nat.le_of_ble_eq_true rfl⟩) (fun u1 H locs hp hW hS => ?_)
              obtain ⟨I26, e9, hI26R, fI26⟩ := hp
              rw [e9] at hW
              have f27 := z_fr_sub (L := L_X9_sum_4) f21 fI26 (by decide)
              have k28 : (I26 12 6).toInt ≤ 501 ∧ ((I26 12 7).toInt = 401 ∨ (I26 12 6).toInt ≤ 500) := (by have q0 : (I26 12 6) = (I20 12 6) := (by rw [fI26 12 6 (by decide)]); have q1 : (I26 12 7) = (I20 12 7) := (by rw [fI26 12 7 (by decide)]); show (I26 12 6).toInt ≤ 501 ∧ ((I26 12 7).toInt = 401 ∨ (I26 12 6).toInt ≤ 500); rw [q0, q1]; first | omega | decide)
              have k29 : (I26 12 6).toInt = (I20 12 6).toInt := by rw [fI26 12 6 (by decide)]
              have k30 : (I26 12 7).toInt = (I20 12 7).toInt := by rw [fI26 12 7 (by decide)]
              obtain ⟨x31, ex31⟩ : ∃ y : Int32, y = y6 + 1 := ⟨_, rfl⟩
              have tx31 : x31.toInt = y6.toInt + 1 := z_tadd ex31 rfl z_l1 (by omega) (by omega)
              refine lv_iinc (v := x31) (lv' := [(2, .int x31), (3, .int (I7 12 7)), (0, .ref (ad 12)), (1, .int 4)]) hx hb dX9_sum_72 hl (k := 1) rfl (by rw [ex31]; rfl) (by decide) rfl (fun ls hl => ?_)
              refine lv_goto (tgt := 12) hx hb dX9_sum_75 (by decide) ?_
              exact lp5ih x31 I26  _ _ _ (by omega) (by omega) ⟨(by show 0 ≤ (I26 12 1).toInt ∧ (I26 12 1).toInt ≤ 500; exact hI26R.1), (by show 0 ≤ (I26 12 5).toInt ∧ (I26 12 5).toInt ≤ 501; exact hI26R.2.1), (by show (-1) ≤ (I26 12 6).toInt ∧ (I26 12 6).toInt ≤ 1000000; exact hI26R.2.2.1), (by show 0 ≤ (I26 12 9).toInt ∧ (I26 12 9).toInt ≤ 500; exact hI26R.2.2.2.1), (by show 0 ≤ (I26 12 13).toInt ∧ (I26 12 13).toInt ≤ 24; exact hI26R.2.2.2.2)⟩ (by show (I26 12 6).toInt ≤ 501 ∧ ((I26 12 7).toInt = 401 ∨ (I26 12 6).toInt ≤ 500); first | omega | decide) f27 hW hS (lv_sub hl [0, 2, 3] rfl)
            · refine lv_if_ne (tgt := 56) hx hb dX9_sum_51 (by decide) (fun c32 => absurd (by decide) c32) (fun c32 => ?_)
              refine lv_iconst (v := 0) hx hb dX9_sum_54 (by decide) ?_
              exact z_zret hx hb hr (by decide) hK hS (Nat.le_of_ble_eq_true rfl) (Nat.le_of_ble_eq_true rfl) hlocks dX9_sum_55 (shC c, ad, I20, JX, PC c ad) hW ⟨I20, rfl, ⟨(by show 0 ≤ (I20 12 1).toInt ∧ (I20 12 1).toInt ≤ 500; exact hI20R.1), (by show 0 ≤ (I20 12 5).toInt ∧ (I20 12 5).toInt ≤ 501; exact hI20R.2.1), (by show (-1) ≤ (I20 12 6).toInt ∧ (I20 12 6).toInt ≤ 1000000; exact hI20R.2.2.1), (by show 0 ≤ (I20 12 9).toInt ∧ (I20 12 9).toInt ≤ 500; exact hI20R.2.2.2.1), (by show 0 ≤ (I20 12 13).toInt ∧ (I20 12 13).toInt ≤ 24; exact hI20R.2.2.2.2)⟩, (by show (I20 12 6).toInt ≤ 501 ∧ ((I20 12 7).toInt = 401 ∨ (I20 12 6).toInt ≤ 500); first | omega | decide), f21, Or.inr rfl⟩
          · have g33 := z_f_ne rfl z_l43 c14
            have b34 := Int32.toInt_lt (I7 12 7)
            refine lv_aload_n hx hb dX9_sum_28 rfl (lv_at hl 1 rfl) ?_
            refine z_get (T := TX9) (N := 14) (ci := 9) (i := 12) (v := .int (I7 12 7)) hx hb hts zj_X9_sum_X9 hown hK hW rfl rfl 7 (by decide) (hts (.fieldLink RX9 62 "PetrolBoard$Reader" "token" "I") (me_s (me_l (me_l (List.mem_of_getElem? (i := 0) rfl))))) (fun _ h => h) rfl dX9_sum_29 ?_
            refine lv_bipush (v := 45) hx hb dX9_sum_32 (by decide) ?_
            refine lv_icmp_ne (tgt := 78) hx hb dX9_sum_34 (by decide) (fun c35 => ?_) (fun c35 => ?_)
            · have g36 := z_f_ne rfl z_l45 c35
              refine lv_iconst (v := 1) hx hb dX9_sum_78 (by decide) ?_
              exact z_zret hx hb hr (by decide) hK hS (Nat.le_of_ble_eq_true rfl) (Nat.le_of_ble_eq_true rfl) hlocks dX9_sum_79 (shC c, ad, I7, JX, PC c ad) hW ⟨I7, rfl, ⟨(by show 0 ≤ (I7 12 1).toInt ∧ (I7 12 1).toInt ≤ 500; exact lp5R.1), (by show 0 ≤ (I7 12 5).toInt ∧ (I7 12 5).toInt ≤ 501; exact lp5R.2.1), (by show (-1) ≤ (I7 12 6).toInt ∧ (I7 12 6).toInt ≤ 1000000; exact lp5R.2.2.1), (by show 0 ≤ (I7 12 9).toInt ∧ (I7 12 9).toInt ≤ 500; exact lp5R.2.2.2.1), (by show 0 ≤ (I7 12 13).toInt ∧ (I7 12 13).toInt ≤ 24; exact lp5R.2.2.2.2)⟩, (by show (I7 12 6).toInt ≤ 501 ∧ ((I7 12 7).toInt = 401 ∨ (I7 12 6).toInt ≤ 500); first | omega | decide), lp5fr, Or.inl rfl⟩
            · have g37 := z_f_eq rfl z_l45 c35
              refine lv_aload_n hx hb dX9_sum_37 rfl (lv_at hl 1 rfl) ?_
              refine z_get (T := TX9) (N := 14) (ci := 9) (i := 12) (v := .int (I7 12 7)) hx hb hts zj_X9_sum_X9 hown hK hW rfl rfl 7 (by decide) (hts (.fieldLink RX9 62 "PetrolBoard$Reader" "token" "I") (me_s (me_l (me_l (List.mem_of_getElem? (i := 0) rfl))))) (fun _ h => h) rfl dX9_sum_38 ?_
              refine lv_istore_n (lv' := [(3, .int (I7 12 7)), (2, .int y6), (0, .ref (ad 12)), (1, .int 4)]) hx hb dX9_sum_41 rfl hl (by decide) rfl (fun ls hl => ?_)
              refine lv_aload_n hx hb dX9_sum_42 rfl (lv_at hl 2 rfl) ?_
              refine z_cv hW hS hA (va_runV (As := []) (rest := []) ⟨hx, hb, hml, hown, hts⟩ (sx_X9_step l G ad c I7 ⟨(by show 0 ≤ (I7 12 1).toInt ∧ (I7 12 1).toInt ≤ 500; exact lp5R.1), (by show 0 ≤ (I7 12 5).toInt ∧ (I7 12 5).toInt ≤ 501; exact lp5R.2.1), (by show (-1) ≤ (I7 12 6).toInt ∧ (I7 12 6).toInt ≤ 1000000; exact lp5R.2.2.1), (by show 0 ≤ (I7 12 9).toInt ∧ (I7 12 9).toInt ≤ 500; exact lp5R.2.2.2.1), (by show 0 ≤ (I7 12 13).toInt ∧ (I7 12 13).toInt ≤ 24; exact lp5R.2.2.2.2)⟩   (by show (I7 12 6).toInt ≤ 500; first | omega | decide) _) (cwV 0 hts gX9_sum_X9_step rfl rfl rfl hy_X9_step ⟨Nat.le_of_ble_eq_true rfl, Nat.le_of_ble_eq_true rfl⟩) (z_preV (i := 12) hK hW rfl rfl) rfl rfl hl.1 rfl (lv_room (Nat.le_of_ble_eq_true rfl)) dX9_sum_43 ⟨Nat.le_of_ble_eq_true rfl, Nat.le_of_ble_eq_true rfl⟩) (fun u1 H locs hp hW hS => ?_)
              obtain ⟨I38, e9, hI38R, hI38T, fI38⟩ := hp
              rw [e9] at hW
              have f39 := z_fr_sub (L := L_X9_sum_4) lp5fr fI38 (by decide)
              have k40 : (I38 12 6).toInt ≤ 501 ∧ ((I38 12 7).toInt = 401 ∨ (I38 12 6).toInt ≤ 500) := hI38T
              refine lv_aload_n hx hb dX9_sum_46 rfl (lv_at hl 2 rfl) ?_
              refine lv_iload_n hx hb dX9_sum_47 rfl (lv_at hl 3 rfl) ?_
              refine z_ci hW hS hA (va_runV (As := [.int 4]) (rest := []) ⟨hx, hb, hml, hown, hts⟩ (sx_X9_product_4 l G ad c I38 ⟨(by show 0 ≤ (I38 12 1).toInt ∧ (I38 12 1).toInt ≤ 500; exact hI38R.1), (by show 0 ≤ (I38 12 5).toInt ∧ (I38 12 5).toInt ≤ 501; exact hI38R.2.1), (by show (-1) ≤ (I38 12 6).toInt ∧ (I38 12 6).toInt ≤ 1000000; exact hI38R.2.2.1), (by show 0 ≤ (I38 12 9).toInt ∧ (I38 12 9).toInt ≤ 500; exact hI38R.2.2.2.1), (by show 0 ≤ (I38 12 13).toInt ∧ (I38 12 13).toInt ≤ 24; exact hI38R.2.2.2.2)⟩ (by show (I38 12 6).toInt ≤ 501 ∧ ((I38 12 7).toInt = 401 ∨ (I38 12 6).toInt ≤ 500); first | omega | decide) _) (cwV 1 hts gX9_sum_X9_product rfl rfl rfl hy_X9_product ⟨Nat.le_of_ble_eq_true rfl, Nat.le_of_ble_eq_true rfl⟩) (z_preV (i := 12) hK hW rfl rfl) rfl rfl hl.1 rfl (lv_room (Nat.le_of_ble_eq_true rfl)) dX9_sum_48 ⟨Nat.le_of_ble_eq_true rfl, Nat.le_of_ble_eq_true rfl⟩) (fun r u1 H locs hp hW hS => ?_)
              obtain ⟨I41, e9, hI41R, hI41T, fI41, hp⟩ := hp
              rw [e9] at hW
              have f42 := z_fr_sub (L := L_X9_sum_4) f39 fI41 (by decide)
              have k43 : (I41 12 6).toInt ≤ 501 ∧ ((I41 12 7).toInt = 401 ∨ (I41 12 6).toInt ≤ 500) := hI41T
              rcases hp with rfl | rfl
              · refine lv_if_ne (tgt := 56) hx hb dX9_sum_51 (by decide) (fun c44 => ?_) (fun c44 => absurd c44 (by decide))
                refine lv_aload_n hx hb dX9_sum_56 rfl (lv_at hl 2 rfl) ?_
                refine lv_iload_n hx hb dX9_sum_57 rfl (lv_at hl 0 rfl) ?_
                refine lv_bipush (v := 43) hx hb dX9_sum_58 (by decide) ?_
                refine lv_icmp_ne (tgt := 67) hx hb dX9_sum_60 (by decide) (fun c45 => ?_) (fun c45 => (by have g := z_f_eq rfl z_l43 c45; omega))
                have g46 := z_f_ne rfl z_l43 c45
                refine lv_bipush (v := (-2)) hx hb dX9_sum_67 (by decide) ?_
                refine z_cv hW hS hA (va_runV (As := [.int (-2)]) (rest := []) ⟨hx, hb, hml, hown, hts⟩ (sx_X9_emit l G ad c I41 ⟨(by show 0 ≤ (I41 12 1).toInt ∧ (I41 12 1).toInt ≤ 500; exact hI41R.1), (by show 0 ≤ (I41 12 5).toInt ∧ (I41 12 5).toInt ≤ 501; exact hI41R.2.1), (by show (-1) ≤ (I41 12 6).toInt ∧ (I41 12 6).toInt ≤ 1000000; exact hI41R.2.2.1), (by show 0 ≤ (I41 12 9).toInt ∧ (I41 12 9).toInt ≤ 500; exact hI41R.2.2.2.1), (by show 0 ≤ (I41 12 13).toInt ∧ (I41 12 13).toInt ≤ 24; exact hI41R.2.2.2.2)⟩ (-2) _) (cwV 1 hts gX9_sum_X9_emit rfl rfl rfl hy_X9_emit ⟨Nat.le_of_ble_eq_true rfl, Nat.le_of_ble_eq_true rfl⟩) (z_preV (i := 12) hK hW rfl rfl) rfl rfl hl.1 rfl (lv_room (Nat.le_of_ble_eq_true rfl)) dX9_sum_69 ⟨Nat.le_of_ble_eq_true rfl, Nat.le_of_ble_eq_true rfl⟩) (fun u1 H locs hp hW hS => ?_)
                obtain ⟨I47, e9, hI47R, fI47⟩ := hp
                rw [e9] at hW
                have f48 := z_fr_sub (L := L_X9_sum_4) f42 fI47 (by decide)
                have k49 : (I47 12 6).toInt ≤ 501 ∧ ((I47 12 7).toInt = 401 ∨ (I47 12 6).toInt ≤ 500) := (by have q0 : (I47 12 6) = (I41 12 6) := (by rw [fI47 12 6 (by decide)]); have q1 : (I47 12 7) = (I41 12 7) := (by rw [fI47 12 7 (by decide)]); show (I47 12 6).toInt ≤ 501 ∧ ((I47 12 7).toInt = 401 ∨ (I47 12 6).toInt ≤ 500); rw [q0, q1]; first | omega | decide)
                have k50 : (I47 12 6).toInt = (I41 12 6).toInt := by rw [fI47 12 6 (by decide)]
                have k51 : (I47 12 7).toInt = (I41 12 7).toInt := by rw [fI47 12 7 (by decide)]
                obtain ⟨x52, ex52⟩ : ∃ y : Int32, y = y6 + 1 := ⟨_, rfl⟩
                have tx52 : x52.toInt = y6.toInt + 1 := z_tadd ex52 rfl z_l1 (by omega) (by omega)
                refine lv_iinc (v := x52) (lv' := [(2, .int x52), (3, .int (I7 12 7)), (0, .ref (ad 12)), (1, .int 4)]) hx hb dX9_sum_72 hl (k := 1) rfl (by rw [ex52]; rfl) (by decide) rfl (fun ls hl => ?_)
                refine lv_goto (tgt := 12) hx hb dX9_sum_75 (by decide) ?_
                exact lp5ih x52 I47  _ _ _ (by omega) (by omega) ⟨(by show 0 ≤ (I47 12 1).toInt ∧ (I47 12 1).toInt ≤ 500; exact hI47R.1), (by show 0 ≤ (I47 12 5).toInt ∧ (I47 12 5).toInt ≤ 501; exact hI47R.2.1), (by show (-1) ≤ (I47 12 6).toInt ∧ (I47 12 6).toInt ≤ 1000000; exact hI47R.2.2.1), (by show 0 ≤ (I47 12 9).toInt ∧ (I47 12 9).toInt ≤ 500; exact hI47R.2.2.2.1), (by show 0 ≤ (I47 12 13).toInt ∧ (I47 12 13).toInt ≤ 24; exact hI47R.2.2.2.2)⟩ (by show (I47 12 6).toInt ≤ 501 ∧ ((I47 12 7).toInt = 401 ∨ (I47 12 6).toInt ≤ 500); first | omega | decide) f48 hW hS (lv_sub hl [0, 2, 3] rfl)
              · refine lv_if_ne (tgt := 56) hx hb dX9_sum_51 (by decide) (fun c53 => absurd (by decide) c53) (fun c53 => ?_)
                refine lv_iconst (v := 0) hx hb dX9_sum_54 (by decide) ?_
                exact z_zret hx hb hr (by decide) hK hS (Nat.le_of_ble_eq_true rfl) (Nat.le_of_ble_eq_true rfl) hlocks dX9_sum_55 (shC c, ad, I41, JX, PC c ad) hW ⟨I41, rfl, ⟨(by show 0 ≤ (I41 12 1).toInt ∧ (I41 12 1).toInt ≤ 500; exact hI41R.1), (by show 0 ≤ (I41 12 5).toInt ∧ (I41 12 5).toInt ≤ 501; exact hI41R.2.1), (by show (-1) ≤ (I41 12 6).toInt ∧ (I41 12 6).toInt ≤ 1000000; exact hI41R.2.2.1), (by show 0 ≤ (I41 12 9).toInt ∧ (I41 12 9).toInt ≤ 500; exact hI41R.2.2.2.1), (by show 0 ≤ (I41 12 13).toInt ∧ (I41 12 13).toInt ≤ 24; exact hI41R.2.2.2.2)⟩, (by show (I41 12 6).toInt ≤ 501 ∧ ((I41 12 7).toInt = 401 ∨ (I41 12 6).toInt ≤ 500); first | omega | decide), f42, Or.inr rfl⟩
    exact lp5 4294967296 (0) I1  _ _ _ (z_m0u _) (by rw [z_l0]; omega) ⟨(by show 0 ≤ (I1 12 1).toInt ∧ (I1 12 1).toInt ≤ 500; exact hI1R.1), (by show 0 ≤ (I1 12 5).toInt ∧ (I1 12 5).toInt ≤ 501; exact hI1R.2.1), (by show (-1) ≤ (I1 12 6).toInt ∧ (I1 12 6).toInt ≤ 1000000; exact hI1R.2.2.1), (by show 0 ≤ (I1 12 9).toInt ∧ (I1 12 9).toInt ≤ 500; exact hI1R.2.2.2.1), (by show 0 ≤ (I1 12 13).toInt ∧ (I1 12 13).toInt ≤ 24; exact hI1R.2.2.2.2)⟩ (by show (I1 12 6).toInt ≤ 501 ∧ ((I1 12 7).toInt = 401 ∨ (I1 12 6).toInt ≤ 500); first | omega | decide) f2 hW hS (lv_sub hl [0, 1, 2] rfl)
  · refine lv_if_ne (tgt := 10) hx hb dX9_sum_5 (by decide) (fun c54 => absurd (by decide) c54) (fun c54 => ?_)
    refine lv_iconst (v := 0) hx hb dX9_sum_8 (by decide) ?_
    exact z_zret hx hb hr (by decide) hK hS (Nat.le_of_ble_eq_true rfl) (Nat.le_of_ble_eq_true rfl) hlocks dX9_sum_9 (shC c, ad, I1, JX, PC c ad) hW ⟨I1, rfl, ⟨(by show 0 ≤ (I1 12 1).toInt ∧ (I1 12 1).toInt ≤ 500; exact hI1R.1), (by show 0 ≤ (I1 12 5).toInt ∧ (I1 12 5).toInt ≤ 501; exact hI1R.2.1), (by show (-1) ≤ (I1 12 6).toInt ∧ (I1 12 6).toInt ≤ 1000000; exact hI1R.2.2.1), (by show 0 ≤ (I1 12 9).toInt ∧ (I1 12 9).toInt ≤ 500; exact hI1R.2.2.2.1), (by show 0 ≤ (I1 12 13).toInt ∧ (I1 12 13).toInt ≤ 24; exact hI1R.2.2.2.2)⟩, (by show (I1 12 6).toInt ≤ 501 ∧ ((I1 12 7).toInt = 401 ∨ (I1 12 6).toInt ≤ 500); first | omega | decide), f2, Or.inr rfl⟩
noncomputable def L_X9_opened_4 : z_L := [(12, 6), (12, 7), (17, 999), (12, 9)]
set_option maxHeartbeats 8000000 in
set_option maxRecDepth 100000 in
theorem sx_X9_opened_4 (l : Launch) (G : z_G) (ad : Nat → Nat) (c : z_C) (I : z_I) (hR : z_iR I) (hT : z_iT I) (q1 : (I 12 6).toInt ≤ 500) : z_M l yX9_opened wsX9_opened { frames := 25, cells := 0, slots := 0, locals := 539 } [.ref (ad 12), .int 4] G (shC c, ad, I, JX, PC c ad) (fun r u1 => ∃ I1 : z_I, u1 = (shC c, ad, I1, JX, PC c ad) ∧ z_iR I1 ∧ z_iT I1 ∧ z_fr L_X9_opened_4 I1 I ∧ (r = 1 ∨ r = 0)) 0 0 := by
  intro sz
  refine z_headQ (cc := cX9_opened) (maxL := 3) (ret := (some .boolean)) (by decide) rfl (Nat.le_of_ble_eq_true rfl) ?_
  intro p e s m below meth c0 ls hIn hK hsz hW hl
  obtain ⟨hx, hb, hr, hml, hown, hts, hlocks, hname⟩ := hIn
  subst hsz
  have hown : s.vm.findClass RX9 = some m.cls := hown
  have hA : ∀ q : Nat, s.heap.size ≤ q → z_A (shC c, ad, I, JX, PC c ad) s.heap.size q := fun q h => Or.inr h
  generalize hAe : z_A (shC c, ad, I, JX, PC c ad) s.heap.size = A at *
  have hS : va_S A s.heap s.heap [] := va_S.rf
  have hl : lv_has ls 3 [(0, .ref (ad 12)), (1, .int 4)] := hl
  have kT : (I 12 6).toInt ≤ 501 ∧ ((I 12 7).toInt = 401 ∨ (I 12 6).toInt ≤ 500) := hT
  refine lv_iload_n hx hb dX9_opened_0 rfl (lv_at hl 1 rfl) ?_
  refine lv_bipush (v := 9) hx hb dX9_opened_1 (by decide) ?_
  refine lv_icmp_lt (tgt := 8) hx hb dX9_opened_3 (by decide) (fun c1 => ?_) (fun c1 => absurd (by decide) c1)
  refine lv_aload_n hx hb dX9_opened_8 rfl (lv_at hl 0 rfl) ?_
  refine z_get (T := TX9) (N := 14) (ci := 9) (i := 12) (v := .int (I 12 7)) hx hb hts zj_X9_opened_X9 hown hK hW rfl rfl 7 (by decide) (hts (.fieldLink RX9 62 "PetrolBoard$Reader" "token" "I") (me_s (me_l (me_l (List.mem_of_getElem? (i := 0) rfl))))) (fun _ h => h) rfl dX9_opened_9 ?_
  refine lv_sipush (v := 311) hx hb dX9_opened_12 (by decide) ?_
  refine lv_icmp_ne (tgt := 22) hx hb dX9_opened_15 (by decide) (fun c2 => ?_) (fun c2 => ?_)
  · have g3 := z_f_ne rfl z_l311 c2
    have b4 := Int32.toInt_lt (I 12 7)
    refine lv_iconst (v := 0) hx hb dX9_opened_22 (by decide) ?_
    refine lv_istore_n (lv' := [(2, .int 0), (0, .ref (ad 12)), (1, .int 4)]) hx hb dX9_opened_23 rfl hl (by decide) rfl (fun ls hl => ?_)
    refine lv_aload_n hx hb dX9_opened_24 rfl (lv_at hl 1 rfl) ?_
    refine z_cv hW hS hA (va_runV (As := []) (rest := []) ⟨hx, hb, hml, hown, hts⟩ (sx_X9_step l G ad c I ⟨(by show 0 ≤ (I 12 1).toInt ∧ (I 12 1).toInt ≤ 500; exact hR.1), (by show 0 ≤ (I 12 5).toInt ∧ (I 12 5).toInt ≤ 501; exact hR.2.1), (by show (-1) ≤ (I 12 6).toInt ∧ (I 12 6).toInt ≤ 1000000; exact hR.2.2.1), (by show 0 ≤ (I 12 9).toInt ∧ (I 12 9).toInt ≤ 500; exact hR.2.2.2.1), (by show 0 ≤ (I 12 13).toInt ∧ (I 12 13).toInt ≤ 24; exact hR.2.2.2.2)⟩   (by show (I 12 6).toInt ≤ 500; first | omega | decide) _) (cwV 0 hts gX9_opened_X9_step rfl rfl rfl hy_X9_step ⟨Nat.le_of_ble_eq_true rfl, Nat.le_of_ble_eq_true rfl⟩) (z_preV (i := 12) hK hW rfl rfl) rfl rfl hl.1 rfl (lv_room (Nat.le_of_ble_eq_true rfl)) dX9_opened_25 ⟨Nat.le_of_ble_eq_true rfl, Nat.le_of_ble_eq_true rfl⟩) (fun u1 H locs hp hW hS => ?_)
    obtain ⟨I5, e9, hI5R, hI5T, fI5⟩ := hp
    rw [e9] at hW
    have f6 := z_fr_sub (L := L_X9_opened_4) z_fr_0 fI5 (by decide)
    have k7 : (I5 12 6).toInt ≤ 501 ∧ ((I5 12 7).toInt = 401 ∨ (I5 12 6).toInt ≤ 500) := hI5T
    refine lv_iload_n hx hb dX9_opened_28 rfl (lv_at hl 0 rfl) ?_
    refine lv_if_ne (tgt := 57) hx hb dX9_opened_29 (by decide) (fun c8 => absurd (by decide) c8) (fun c8 => ?_)
    refine lv_aload_n hx hb dX9_opened_32 rfl (lv_at hl 1 rfl) ?_
    refine lv_iload_n hx hb dX9_opened_33 rfl (lv_at hl 2 rfl) ?_
    refine lv_iconst (v := 1) hx hb dX9_opened_34 (by decide) ?_
    refine lv_iadd hx hb dX9_opened_35 ?_
    refine z_topi (v := 5) (by decide) ?_
    refine z_ci hW hS hA (va_runV (As := [.int 5]) (rest := []) ⟨hx, hb, hml, hown, hts⟩ (sx_X9_either_5 l G ad c I5 ⟨(by show 0 ≤ (I5 12 1).toInt ∧ (I5 12 1).toInt ≤ 500; exact hI5R.1), (by show 0 ≤ (I5 12 5).toInt ∧ (I5 12 5).toInt ≤ 501; exact hI5R.2.1), (by show (-1) ≤ (I5 12 6).toInt ∧ (I5 12 6).toInt ≤ 1000000; exact hI5R.2.2.1), (by show 0 ≤ (I5 12 9).toInt ∧ (I5 12 9).toInt ≤ 500; exact hI5R.2.2.2.1), (by show 0 ≤ (I5 12 13).toInt ∧ (I5 12 13).toInt ≤ 24; exact hI5R.2.2.2.2)⟩ (by show (I5 12 6).toInt ≤ 501 ∧ ((I5 12 7).toInt = 401 ∨ (I5 12 6).toInt ≤ 500); first | omega | decide) _) (cwV 1 hts gX9_opened_X9_either rfl rfl rfl hy_X9_either ⟨Nat.le_of_ble_eq_true rfl, Nat.le_of_ble_eq_true rfl⟩) (z_preV (i := 12) hK hW rfl rfl) rfl rfl hl.1 rfl (lv_room (Nat.le_of_ble_eq_true rfl)) dX9_opened_36 ⟨Nat.le_of_ble_eq_true rfl, Nat.le_of_ble_eq_true rfl⟩) (fun r u1 H locs hp hW hS => ?_)
    obtain ⟨I9, e9, hI9R, hI9T, fI9, hp⟩ := hp
    rw [e9] at hW
    have f10 := z_fr_sub (L := L_X9_opened_4) f6 fI9 (by decide)
    have k11 : (I9 12 6).toInt ≤ 501 ∧ ((I9 12 7).toInt = 401 ∨ (I9 12 6).toInt ≤ 500) := hI9T
    rcases hp with rfl | rfl
    · refine lv_if_eq (tgt := 55) hx hb dX9_opened_39 (by decide) (fun c12 => absurd c12 (by decide)) (fun c12 => ?_)
      refine lv_aload_n hx hb dX9_opened_42 rfl (lv_at hl 1 rfl) ?_
      refine lv_bipush (v := 125) hx hb dX9_opened_43 (by decide) ?_
      refine z_ci hW hS hA (va_runV (As := [.int 125]) (rest := []) ⟨hx, hb, hml, hown, hts⟩ (sx_X9_taken l G ad c I9 ⟨(by show 0 ≤ (I9 12 1).toInt ∧ (I9 12 1).toInt ≤ 500; exact hI9R.1), (by show 0 ≤ (I9 12 5).toInt ∧ (I9 12 5).toInt ≤ 501; exact hI9R.2.1), (by show (-1) ≤ (I9 12 6).toInt ∧ (I9 12 6).toInt ≤ 1000000; exact hI9R.2.2.1), (by show 0 ≤ (I9 12 9).toInt ∧ (I9 12 9).toInt ≤ 500; exact hI9R.2.2.2.1), (by show 0 ≤ (I9 12 13).toInt ∧ (I9 12 13).toInt ≤ 24; exact hI9R.2.2.2.2)⟩ (by show (I9 12 6).toInt ≤ 501 ∧ ((I9 12 7).toInt = 401 ∨ (I9 12 6).toInt ≤ 500); first | omega | decide) 125 (by first | omega | decide) _) (cwV 1 hts gX9_opened_X9_taken rfl rfl rfl hy_X9_taken ⟨Nat.le_of_ble_eq_true rfl, Nat.le_of_ble_eq_true rfl⟩) (z_preV (i := 12) hK hW rfl rfl) rfl rfl hl.1 rfl (lv_room (Nat.le_of_ble_eq_true rfl)) dX9_opened_45 ⟨Nat.le_of_ble_eq_true rfl, Nat.le_of_ble_eq_true rfl⟩) (fun r u1 H locs hp hW hS => ?_)
      obtain ⟨I13, e9, hI13R, hI13T, fI13, hp⟩ := hp
      rw [e9] at hW
      have f14 := z_fr_sub (L := L_X9_opened_4) f10 fI13 (by decide)
      have k15 : (I13 12 6).toInt ≤ 501 ∧ ((I13 12 7).toInt = 401 ∨ (I13 12 6).toInt ≤ 500) := hI13T
      rcases hp with rfl | rfl
      · refine lv_if_eq (tgt := 55) hx hb dX9_opened_48 (by decide) (fun c16 => absurd c16 (by decide)) (fun c16 => ?_)
        refine lv_iconst (v := 1) hx hb dX9_opened_51 (by decide) ?_
        refine lv_goto (tgt := 56) hx hb dX9_opened_52 (by decide) ?_
        exact z_zret hx hb hr (by decide) hK hS (Nat.le_of_ble_eq_true rfl) (Nat.le_of_ble_eq_true rfl) hlocks dX9_opened_56 (shC c, ad, I13, JX, PC c ad) hW ⟨I13, rfl, ⟨(by show 0 ≤ (I13 12 1).toInt ∧ (I13 12 1).toInt ≤ 500; exact hI13R.1), (by show 0 ≤ (I13 12 5).toInt ∧ (I13 12 5).toInt ≤ 501; exact hI13R.2.1), (by show (-1) ≤ (I13 12 6).toInt ∧ (I13 12 6).toInt ≤ 1000000; exact hI13R.2.2.1), (by show 0 ≤ (I13 12 9).toInt ∧ (I13 12 9).toInt ≤ 500; exact hI13R.2.2.2.1), (by show 0 ≤ (I13 12 13).toInt ∧ (I13 12 13).toInt ≤ 24; exact hI13R.2.2.2.2)⟩, (by show (I13 12 6).toInt ≤ 501 ∧ ((I13 12 7).toInt = 401 ∨ (I13 12 6).toInt ≤ 500); first | omega | decide), f14, Or.inl rfl⟩
      · refine lv_if_eq (tgt := 55) hx hb dX9_opened_48 (by decide) (fun c17 => ?_) (fun c17 => absurd (by decide) c17)
        refine lv_iconst (v := 0) hx hb dX9_opened_55 (by decide) ?_
        exact z_zret hx hb hr (by decide) hK hS (Nat.le_of_ble_eq_true rfl) (Nat.le_of_ble_eq_true rfl) hlocks dX9_opened_56 (shC c, ad, I13, JX, PC c ad) hW ⟨I13, rfl, ⟨(by show 0 ≤ (I13 12 1).toInt ∧ (I13 12 1).toInt ≤ 500; exact hI13R.1), (by show 0 ≤ (I13 12 5).toInt ∧ (I13 12 5).toInt ≤ 501; exact hI13R.2.1), (by show (-1) ≤ (I13 12 6).toInt ∧ (I13 12 6).toInt ≤ 1000000; exact hI13R.2.2.1), (by show 0 ≤ (I13 12 9).toInt ∧ (I13 12 9).toInt ≤ 500; exact hI13R.2.2.2.1), (by show 0 ≤ (I13 12 13).toInt ∧ (I13 12 13).toInt ≤ 24; exact hI13R.2.2.2.2)⟩, (by show (I13 12 6).toInt ≤ 501 ∧ ((I13 12 7).toInt = 401 ∨ (I13 12 6).toInt ≤ 500); first | omega | decide), f14, Or.inr rfl⟩
    · refine lv_if_eq (tgt := 55) hx hb dX9_opened_39 (by decide) (fun c18 => ?_) (fun c18 => absurd (by decide) c18)
      refine lv_iconst (v := 0) hx hb dX9_opened_55 (by decide) ?_
      exact z_zret hx hb hr (by decide) hK hS (Nat.le_of_ble_eq_true rfl) (Nat.le_of_ble_eq_true rfl) hlocks dX9_opened_56 (shC c, ad, I9, JX, PC c ad) hW ⟨I9, rfl, ⟨(by show 0 ≤ (I9 12 1).toInt ∧ (I9 12 1).toInt ≤ 500; exact hI9R.1), (by show 0 ≤ (I9 12 5).toInt ∧ (I9 12 5).toInt ≤ 501; exact hI9R.2.1), (by show (-1) ≤ (I9 12 6).toInt ∧ (I9 12 6).toInt ≤ 1000000; exact hI9R.2.2.1), (by show 0 ≤ (I9 12 9).toInt ∧ (I9 12 9).toInt ≤ 500; exact hI9R.2.2.2.1), (by show 0 ≤ (I9 12 13).toInt ∧ (I9 12 13).toInt ≤ 24; exact hI9R.2.2.2.2)⟩, (by show (I9 12 6).toInt ≤ 501 ∧ ((I9 12 7).toInt = 401 ∨ (I9 12 6).toInt ≤ 500); first | omega | decide), f10, Or.inr rfl⟩
  · have g19 := z_f_eq rfl z_l311 c2
    have b20 := Int32.toInt_lt (I 12 7)
    refine lv_iconst (v := 1) hx hb dX9_opened_18 (by decide) ?_
    refine lv_goto (tgt := 23) hx hb dX9_opened_19 (by decide) ?_
    refine lv_istore_n (lv' := [(2, .int 1), (0, .ref (ad 12)), (1, .int 4)]) hx hb dX9_opened_23 rfl hl (by decide) rfl (fun ls hl => ?_)
    refine lv_aload_n hx hb dX9_opened_24 rfl (lv_at hl 1 rfl) ?_
    refine z_cv hW hS hA (va_runV (As := []) (rest := []) ⟨hx, hb, hml, hown, hts⟩ (sx_X9_step l G ad c I ⟨(by show 0 ≤ (I 12 1).toInt ∧ (I 12 1).toInt ≤ 500; exact hR.1), (by show 0 ≤ (I 12 5).toInt ∧ (I 12 5).toInt ≤ 501; exact hR.2.1), (by show (-1) ≤ (I 12 6).toInt ∧ (I 12 6).toInt ≤ 1000000; exact hR.2.2.1), (by show 0 ≤ (I 12 9).toInt ∧ (I 12 9).toInt ≤ 500; exact hR.2.2.2.1), (by show 0 ≤ (I 12 13).toInt ∧ (I 12 13).toInt ≤ 24; exact hR.2.2.2.2)⟩   (by show (I 12 6).toInt ≤ 500; first | omega | decide) _) (cwV 0 hts gX9_opened_X9_step rfl rfl rfl hy_X9_step ⟨Nat.le_of_ble_eq_true rfl, Nat.le_of_ble_eq_true rfl⟩) (z_preV (i := 12) hK hW rfl rfl) rfl rfl hl.1 rfl (lv_room (Nat.le_of_ble_eq_true rfl)) dX9_opened_25 ⟨Nat.le_of_ble_eq_true rfl, Nat.le_of_ble_eq_true rfl⟩) (fun u1 H locs hp hW hS => ?_)
    obtain ⟨I21, e9, hI21R, hI21T, fI21⟩ := hp
    rw [e9] at hW
    have f22 := z_fr_sub (L := L_X9_opened_4) z_fr_0 fI21 (by decide)
    have k23 : (I21 12 6).toInt ≤ 501 ∧ ((I21 12 7).toInt = 401 ∨ (I21 12 6).toInt ≤ 500) := hI21T
    refine lv_iload_n hx hb dX9_opened_28 rfl (lv_at hl 0 rfl) ?_
    refine lv_if_ne (tgt := 57) hx hb dX9_opened_29 (by decide) (fun c24 => ?_) (fun c24 => absurd c24 (by decide))
    refine lv_aload_n hx hb dX9_opened_57 rfl (lv_at hl 1 rfl) ?_
    refine lv_iload_n hx hb dX9_opened_58 rfl (lv_at hl 2 rfl) ?_
    refine lv_iconst (v := 1) hx hb dX9_opened_59 (by decide) ?_
    refine lv_iadd hx hb dX9_opened_60 ?_
    refine z_topi (v := 5) (by decide) ?_
    refine z_ci hW hS hA (va_runV (As := [.int 5]) (rest := []) ⟨hx, hb, hml, hown, hts⟩ (sx_X9_one_5 l G ad c I21 ⟨(by show 0 ≤ (I21 12 1).toInt ∧ (I21 12 1).toInt ≤ 500; exact hI21R.1), (by show 0 ≤ (I21 12 5).toInt ∧ (I21 12 5).toInt ≤ 501; exact hI21R.2.1), (by show (-1) ≤ (I21 12 6).toInt ∧ (I21 12 6).toInt ≤ 1000000; exact hI21R.2.2.1), (by show 0 ≤ (I21 12 9).toInt ∧ (I21 12 9).toInt ≤ 500; exact hI21R.2.2.2.1), (by show 0 ≤ (I21 12 13).toInt ∧ (I21 12 13).toInt ≤ 24; exact hI21R.2.2.2.2)⟩ (by show (I21 12 6).toInt ≤ 501 ∧ ((I21 12 7).toInt = 401 ∨ (I21 12 6).toInt ≤ 500); first | omega | decide) _) (cwV 1 hts gX9_opened_X9_one rfl rfl rfl hy_X9_one ⟨Nat.le_of_ble_eq_true rfl, Nat.le_of_ble_eq_true rfl⟩) (z_preV (i := 12) hK hW rfl rfl) rfl rfl hl.1 rfl (lv_room (Nat.le_of_ble_eq_true rfl)) dX9_opened_61 ⟨Nat.le_of_ble_eq_true rfl, Nat.le_of_ble_eq_true rfl⟩) (fun r u1 H locs hp hW hS => ?_)
    obtain ⟨I25, e9, hI25R, hI25T, fI25, hp⟩ := hp
    rw [e9] at hW
    have f26 := z_fr_sub (L := L_X9_opened_4) f22 fI25 (by decide)
    have k27 : (I25 12 6).toInt ≤ 501 ∧ ((I25 12 7).toInt = 401 ∨ (I25 12 6).toInt ≤ 500) := hI25T
    rcases hp with rfl | rfl
    · refine lv_if_ne (tgt := 69) hx hb dX9_opened_64 (by decide) (fun c28 => ?_) (fun c28 => absurd c28 (by decide))
      refine lv_aload_n hx hb dX9_opened_69 rfl (lv_at hl 1 rfl) ?_
      refine lv_bipush (v := (-12)) hx hb dX9_opened_70 (by decide) ?_
      refine z_cv hW hS hA (va_runV (As := [.int (-12)]) (rest := []) ⟨hx, hb, hml, hown, hts⟩ (sx_X9_emit l G ad c I25 ⟨(by show 0 ≤ (I25 12 1).toInt ∧ (I25 12 1).toInt ≤ 500; exact hI25R.1), (by show 0 ≤ (I25 12 5).toInt ∧ (I25 12 5).toInt ≤ 501; exact hI25R.2.1), (by show (-1) ≤ (I25 12 6).toInt ∧ (I25 12 6).toInt ≤ 1000000; exact hI25R.2.2.1), (by show 0 ≤ (I25 12 9).toInt ∧ (I25 12 9).toInt ≤ 500; exact hI25R.2.2.2.1), (by show 0 ≤ (I25 12 13).toInt ∧ (I25 12 13).toInt ≤ 24; exact hI25R.2.2.2.2)⟩ (-12) _) (cwV 1 hts gX9_opened_X9_emit rfl rfl rfl hy_X9_emit ⟨Nat.le_of_ble_eq_true rfl, Nat.le_of_ble_eq_true rfl⟩) (z_preV (i := 12) hK hW rfl rfl) rfl rfl hl.1 rfl (lv_room (Nat.le_of_ble_eq_true rfl)) dX9_opened_72 ⟨Nat.le_of_ble_eq_true rfl, Nat.le_of_ble_eq_true rfl⟩) (fun u1 H locs hp hW hS => ?_)
      obtain ⟨I29, e9, hI29R, fI29⟩ := hp
      rw [e9] at hW
      have f30 := z_fr_sub (L := L_X9_opened_4) f26 fI29 (by decide)
      have k31 : (I29 12 6).toInt ≤ 501 ∧ ((I29 12 7).toInt = 401 ∨ (I29 12 6).toInt ≤ 500) := (by have q0 : (I29 12 6) = (I25 12 6) := (by rw [fI29 12 6 (by decide)]); have q1 : (I29 12 7) = (I25 12 7) := (by rw [fI29 12 7 (by decide)]); show (I29 12 6).toInt ≤ 501 ∧ ((I29 12 7).toInt = 401 ∨ (I29 12 6).toInt ≤ 500); rw [q0, q1]; first | omega | decide)
      have k32 : (I29 12 6).toInt = (I25 12 6).toInt := by rw [fI29 12 6 (by decide)]
      have k33 : (I29 12 7).toInt = (I25 12 7).toInt := by rw [fI29 12 7 (by decide)]
      refine lv_iconst (v := 1) hx hb dX9_opened_75 (by decide) ?_
      exact z_zret hx hb hr (by decide) hK hS (Nat.le_of_ble_eq_true rfl) (Nat.le_of_ble_eq_true rfl) hlocks dX9_opened_76 (shC c, ad, I29, JX, PC c ad) hW ⟨I29, rfl, ⟨(by show 0 ≤ (I29 12 1).toInt ∧ (I29 12 1).toInt ≤ 500; exact hI29R.1), (by show 0 ≤ (I29 12 5).toInt ∧ (I29 12 5).toInt ≤ 501; exact hI29R.2.1), (by show (-1) ≤ (I29 12 6).toInt ∧ (I29 12 6).toInt ≤ 1000000; exact hI29R.2.2.1), (by show 0 ≤ (I29 12 9).toInt ∧ (I29 12 9).toInt ≤ 500; exact hI29R.2.2.2.1), (by show 0 ≤ (I29 12 13).toInt ∧ (I29 12 13).toInt ≤ 24; exact hI29R.2.2.2.2)⟩, (by show (I29 12 6).toInt ≤ 501 ∧ ((I29 12 7).toInt = 401 ∨ (I29 12 6).toInt ≤ 500); first | omega | decide), f30, Or.inl rfl⟩
    · refine lv_if_ne (tgt := 69) hx hb dX9_opened_64 (by decide) (fun c34 => absurd (by decide) c34) (fun c34 => ?_)
      refine lv_iconst (v := 0) hx hb dX9_opened_67 (by decide) ?_
      exact z_zret hx hb hr (by decide) hK hS (Nat.le_of_ble_eq_true rfl) (Nat.le_of_ble_eq_true rfl) hlocks dX9_opened_68 (shC c, ad, I25, JX, PC c ad) hW ⟨I25, rfl, ⟨(by show 0 ≤ (I25 12 1).toInt ∧ (I25 12 1).toInt ≤ 500; exact hI25R.1), (by show 0 ≤ (I25 12 5).toInt ∧ (I25 12 5).toInt ≤ 501; exact hI25R.2.1), (by show (-1) ≤ (I25 12 6).toInt ∧ (I25 12 6).toInt ≤ 1000000; exact hI25R.2.2.1), (by show 0 ≤ (I25 12 9).toInt ∧ (I25 12 9).toInt ≤ 500; exact hI25R.2.2.2.1), (by show 0 ≤ (I25 12 13).toInt ∧ (I25 12 13).toInt ≤ 24; exact hI25R.2.2.2.2)⟩, (by show (I25 12 6).toInt ≤ 501 ∧ ((I25 12 7).toInt = 401 ∨ (I25 12 6).toInt ≤ 500); first | omega | decide), f26, Or.inr rfl⟩
noncomputable def L_X9_one_4 : z_L := [(12, 6), (12, 7), (17, 999), (12, 9)]
set_option maxHeartbeats 8000000 in
set_option maxRecDepth 100000 in
theorem sx_X9_one_4 (l : Launch) (G : z_G) (ad : Nat → Nat) (c : z_C) (I : z_I) (hR : z_iR I) (hT : z_iT I) : z_M l yX9_one wsX9_one { frames := 26, cells := 0, slots := 0, locals := 561 } [.ref (ad 12), .int 4] G (shC c, ad, I, JX, PC c ad) (fun r u1 => ∃ I1 : z_I, u1 = (shC c, ad, I1, JX, PC c ad) ∧ z_iR I1 ∧ z_iT I1 ∧ z_fr L_X9_one_4 I1 I ∧ (r = 1 ∨ r = 0)) 0 0 := by
  intro sz
  refine z_headQ (cc := cX9_one) (maxL := 3) (ret := (some .boolean)) (by decide) rfl (Nat.le_of_ble_eq_true rfl) ?_
  intro p e s m below meth c0 ls hIn hK hsz hW hl
  obtain ⟨hx, hb, hr, hml, hown, hts, hlocks, hname⟩ := hIn
  subst hsz
  have hown : s.vm.findClass RX9 = some m.cls := hown
  have hA : ∀ q : Nat, s.heap.size ≤ q → z_A (shC c, ad, I, JX, PC c ad) s.heap.size q := fun q h => Or.inr h
  generalize hAe : z_A (shC c, ad, I, JX, PC c ad) s.heap.size = A at *
  have hS : va_S A s.heap s.heap [] := va_S.rf
  have hl : lv_has ls 3 [(0, .ref (ad 12)), (1, .int 4)] := hl
  have kT : (I 12 6).toInt ≤ 501 ∧ ((I 12 7).toInt = 401 ∨ (I 12 6).toInt ≤ 500) := hT
  refine lv_aload_n hx hb dX9_one_0 rfl (lv_at hl 0 rfl) ?_
  refine z_get (T := TX9) (N := 14) (ci := 9) (i := 12) (v := .int (I 12 7)) hx hb hts zj_X9_one_X9 hown hK hW rfl rfl 7 (by decide) (hts (.fieldLink RX9 62 "PetrolBoard$Reader" "token" "I") (me_s (me_l (me_l (List.mem_of_getElem? (i := 0) rfl))))) (fun _ h => h) rfl dX9_one_1 ?_
  refine lv_sipush (v := 311) hx hb dX9_one_4 (by decide) ?_
  refine lv_icmp_eq (tgt := 19) hx hb dX9_one_7 (by decide) (fun c1 => ?_) (fun c1 => ?_)
  · have g2 := z_f_eq rfl z_l311 c1
    have b3 := Int32.toInt_lt (I 12 7)
    refine lv_aload_n hx hb dX9_one_19 rfl (lv_at hl 0 rfl) ?_
    refine lv_iload_n hx hb dX9_one_20 rfl (lv_at hl 1 rfl) ?_
    refine z_ci hW hS hA (va_runV (As := [.int 4]) (rest := []) ⟨hx, hb, hml, hown, hts⟩ (sx_X9_opened_4 l G ad c I ⟨(by show 0 ≤ (I 12 1).toInt ∧ (I 12 1).toInt ≤ 500; exact hR.1), (by show 0 ≤ (I 12 5).toInt ∧ (I 12 5).toInt ≤ 501; exact hR.2.1), (by show (-1) ≤ (I 12 6).toInt ∧ (I 12 6).toInt ≤ 1000000; exact hR.2.2.1), (by show 0 ≤ (I 12 9).toInt ∧ (I 12 9).toInt ≤ 500; exact hR.2.2.2.1), (by show 0 ≤ (I 12 13).toInt ∧ (I 12 13).toInt ≤ 24; exact hR.2.2.2.2)⟩ (by show (I 12 6).toInt ≤ 501 ∧ ((I 12 7).toInt = 401 ∨ (I 12 6).toInt ≤ 500); first | omega | decide) (by show (I 12 6).toInt ≤ 500; first | omega | decide) _) (cwV 1 hts gX9_one_X9_opened rfl rfl rfl hy_X9_opened ⟨Nat.le_of_ble_eq_true rfl, Nat.le_of_ble_eq_true rfl⟩) (z_preV (i := 12) hK hW rfl rfl) rfl rfl hl.1 rfl (lv_room (Nat.le_of_ble_eq_true rfl)) dX9_one_21 ⟨Nat.le_of_ble_eq_true rfl, Nat.le_of_ble_eq_true rfl⟩) (fun r u1 H locs hp hW hS => ?_)
    obtain ⟨I4, e9, hI4R, hI4T, fI4, hp⟩ := hp
    rw [e9] at hW
    have f5 := z_fr_sub (L := L_X9_one_4) z_fr_0 fI4 (by decide)
    have k6 : (I4 12 6).toInt ≤ 501 ∧ ((I4 12 7).toInt = 401 ∨ (I4 12 6).toInt ≤ 500) := hI4T
    rcases hp with rfl | rfl
    · exact z_zret hx hb hr (by decide) hK hS (Nat.le_of_ble_eq_true rfl) (Nat.le_of_ble_eq_true rfl) hlocks dX9_one_24 (shC c, ad, I4, JX, PC c ad) hW ⟨I4, rfl, ⟨(by show 0 ≤ (I4 12 1).toInt ∧ (I4 12 1).toInt ≤ 500; exact hI4R.1), (by show 0 ≤ (I4 12 5).toInt ∧ (I4 12 5).toInt ≤ 501; exact hI4R.2.1), (by show (-1) ≤ (I4 12 6).toInt ∧ (I4 12 6).toInt ≤ 1000000; exact hI4R.2.2.1), (by show 0 ≤ (I4 12 9).toInt ∧ (I4 12 9).toInt ≤ 500; exact hI4R.2.2.2.1), (by show 0 ≤ (I4 12 13).toInt ∧ (I4 12 13).toInt ≤ 24; exact hI4R.2.2.2.2)⟩, (by show (I4 12 6).toInt ≤ 501 ∧ ((I4 12 7).toInt = 401 ∨ (I4 12 6).toInt ≤ 500); first | omega | decide), f5, Or.inl rfl⟩
    · exact z_zret hx hb hr (by decide) hK hS (Nat.le_of_ble_eq_true rfl) (Nat.le_of_ble_eq_true rfl) hlocks dX9_one_24 (shC c, ad, I4, JX, PC c ad) hW ⟨I4, rfl, ⟨(by show 0 ≤ (I4 12 1).toInt ∧ (I4 12 1).toInt ≤ 500; exact hI4R.1), (by show 0 ≤ (I4 12 5).toInt ∧ (I4 12 5).toInt ≤ 501; exact hI4R.2.1), (by show (-1) ≤ (I4 12 6).toInt ∧ (I4 12 6).toInt ≤ 1000000; exact hI4R.2.2.1), (by show 0 ≤ (I4 12 9).toInt ∧ (I4 12 9).toInt ≤ 500; exact hI4R.2.2.2.1), (by show 0 ≤ (I4 12 13).toInt ∧ (I4 12 13).toInt ≤ 24; exact hI4R.2.2.2.2)⟩, (by show (I4 12 6).toInt ≤ 501 ∧ ((I4 12 7).toInt = 401 ∨ (I4 12 6).toInt ≤ 500); first | omega | decide), f5, Or.inr rfl⟩
  · have g7 := z_f_ne rfl z_l311 c1
    have b8 := Int32.toInt_lt (I 12 7)
    refine lv_aload_n hx hb dX9_one_10 rfl (lv_at hl 0 rfl) ?_
    refine z_get (T := TX9) (N := 14) (ci := 9) (i := 12) (v := .int (I 12 7)) hx hb hts zj_X9_one_X9 hown hK hW rfl rfl 7 (by decide) (hts (.fieldLink RX9 62 "PetrolBoard$Reader" "token" "I") (me_s (me_l (me_l (List.mem_of_getElem? (i := 0) rfl))))) (fun _ h => h) rfl dX9_one_11 ?_
    refine lv_bipush (v := 123) hx hb dX9_one_14 (by decide) ?_
    refine lv_icmp_ne (tgt := 25) hx hb dX9_one_16 (by decide) (fun c9 => ?_) (fun c9 => ?_)
    · have g10 := z_f_ne rfl z_l123 c9
      refine lv_aload_n hx hb dX9_one_25 rfl (lv_at hl 0 rfl) ?_
      refine lv_iload_n hx hb dX9_one_26 rfl (lv_at hl 1 rfl) ?_
      refine z_ci hW hS hA (va_runV (As := [.int 4]) (rest := []) ⟨hx, hb, hml, hown, hts⟩ (sx_X9_sum_4 l G ad c I ⟨(by show 0 ≤ (I 12 1).toInt ∧ (I 12 1).toInt ≤ 500; exact hR.1), (by show 0 ≤ (I 12 5).toInt ∧ (I 12 5).toInt ≤ 501; exact hR.2.1), (by show (-1) ≤ (I 12 6).toInt ∧ (I 12 6).toInt ≤ 1000000; exact hR.2.2.1), (by show 0 ≤ (I 12 9).toInt ∧ (I 12 9).toInt ≤ 500; exact hR.2.2.2.1), (by show 0 ≤ (I 12 13).toInt ∧ (I 12 13).toInt ≤ 24; exact hR.2.2.2.2)⟩ (by show (I 12 6).toInt ≤ 501 ∧ ((I 12 7).toInt = 401 ∨ (I 12 6).toInt ≤ 500); first | omega | decide) _) (cwV 1 hts gX9_one_X9_sum rfl rfl rfl hy_X9_sum ⟨Nat.le_of_ble_eq_true rfl, Nat.le_of_ble_eq_true rfl⟩) (z_preV (i := 12) hK hW rfl rfl) rfl rfl hl.1 rfl (lv_room (Nat.le_of_ble_eq_true rfl)) dX9_one_27 ⟨Nat.le_of_ble_eq_true rfl, Nat.le_of_ble_eq_true rfl⟩) (fun r u1 H locs hp hW hS => ?_)
      obtain ⟨I11, e9, hI11R, hI11T, fI11, hp⟩ := hp
      rw [e9] at hW
      have f12 := z_fr_sub (L := L_X9_one_4) z_fr_0 fI11 (by decide)
      have k13 : (I11 12 6).toInt ≤ 501 ∧ ((I11 12 7).toInt = 401 ∨ (I11 12 6).toInt ≤ 500) := hI11T
      rcases hp with rfl | rfl
      · refine lv_if_ne (tgt := 35) hx hb dX9_one_30 (by decide) (fun c14 => ?_) (fun c14 => absurd c14 (by decide))
        refine lv_aload_n hx hb dX9_one_35 rfl (lv_at hl 0 rfl) ?_
        refine z_get (T := TX9) (N := 14) (ci := 9) (i := 12) (v := .int (I11 12 7)) hx hb hts zj_X9_one_X9 hown hK hW rfl rfl 7 (by decide) (hts (.fieldLink RX9 62 "PetrolBoard$Reader" "token" "I") (me_s (me_l (me_l (List.mem_of_getElem? (i := 0) rfl))))) (fun _ h => h) rfl dX9_one_36 ?_
        refine lv_istore_n (lv' := [(2, .int (I11 12 7)), (0, .ref (ad 12)), (1, .int 4)]) hx hb dX9_one_39 rfl hl (by decide) rfl (fun ls hl => ?_)
        refine lv_iload_n hx hb dX9_one_40 rfl (lv_at hl 0 rfl) ?_
        refine lv_bipush (v := 60) hx hb dX9_one_41 (by decide) ?_
        refine lv_icmp_eq (tgt := 60) hx hb dX9_one_43 (by decide) (fun c15 => ?_) (fun c15 => ?_)
        · have g16 := z_f_eq rfl z_l60 c15
          have b17 := Int32.toInt_lt (I11 12 7)
          refine lv_aload_n hx hb dX9_one_60 rfl (lv_at hl 1 rfl) ?_
          refine z_cv hW hS hA (va_runV (As := []) (rest := []) ⟨hx, hb, hml, hown, hts⟩ (sx_X9_step l G ad c I11 ⟨(by show 0 ≤ (I11 12 1).toInt ∧ (I11 12 1).toInt ≤ 500; exact hI11R.1), (by show 0 ≤ (I11 12 5).toInt ∧ (I11 12 5).toInt ≤ 501; exact hI11R.2.1), (by show (-1) ≤ (I11 12 6).toInt ∧ (I11 12 6).toInt ≤ 1000000; exact hI11R.2.2.1), (by show 0 ≤ (I11 12 9).toInt ∧ (I11 12 9).toInt ≤ 500; exact hI11R.2.2.2.1), (by show 0 ≤ (I11 12 13).toInt ∧ (I11 12 13).toInt ≤ 24; exact hI11R.2.2.2.2)⟩   (by show (I11 12 6).toInt ≤ 500; first | omega | decide) _) (cwV 0 hts gX9_one_X9_step rfl rfl rfl hy_X9_step ⟨Nat.le_of_ble_eq_true rfl, Nat.le_of_ble_eq_true rfl⟩) (z_preV (i := 12) hK hW rfl rfl) rfl rfl hl.1 rfl (lv_room (Nat.le_of_ble_eq_true rfl)) dX9_one_61 ⟨Nat.le_of_ble_eq_true rfl, Nat.le_of_ble_eq_true rfl⟩) (fun u1 H locs hp hW hS => ?_)
          obtain ⟨I18, e9, hI18R, hI18T, fI18⟩ := hp
          rw [e9] at hW
          have f19 := z_fr_sub (L := L_X9_one_4) f12 fI18 (by decide)
          have k20 : (I18 12 6).toInt ≤ 501 ∧ ((I18 12 7).toInt = 401 ∨ (I18 12 6).toInt ≤ 500) := hI18T
          refine lv_aload_n hx hb dX9_one_64 rfl (lv_at hl 1 rfl) ?_
          refine lv_iload_n hx hb dX9_one_65 rfl (lv_at hl 2 rfl) ?_
          refine z_ci hW hS hA (va_runV (As := [.int 4]) (rest := []) ⟨hx, hb, hml, hown, hts⟩ (sx_X9_sum_4 l G ad c I18 ⟨(by show 0 ≤ (I18 12 1).toInt ∧ (I18 12 1).toInt ≤ 500; exact hI18R.1), (by show 0 ≤ (I18 12 5).toInt ∧ (I18 12 5).toInt ≤ 501; exact hI18R.2.1), (by show (-1) ≤ (I18 12 6).toInt ∧ (I18 12 6).toInt ≤ 1000000; exact hI18R.2.2.1), (by show 0 ≤ (I18 12 9).toInt ∧ (I18 12 9).toInt ≤ 500; exact hI18R.2.2.2.1), (by show 0 ≤ (I18 12 13).toInt ∧ (I18 12 13).toInt ≤ 24; exact hI18R.2.2.2.2)⟩ (by show (I18 12 6).toInt ≤ 501 ∧ ((I18 12 7).toInt = 401 ∨ (I18 12 6).toInt ≤ 500); first | omega | decide) _) (cwV 1 hts gX9_one_X9_sum rfl rfl rfl hy_X9_sum ⟨Nat.le_of_ble_eq_true rfl, Nat.le_of_ble_eq_true rfl⟩) (z_preV (i := 12) hK hW rfl rfl) rfl rfl hl.1 rfl (lv_room (Nat.le_of_ble_eq_true rfl)) dX9_one_66 ⟨Nat.le_of_ble_eq_true rfl, Nat.le_of_ble_eq_true rfl⟩) (fun r u1 H locs hp hW hS => ?_)
          obtain ⟨I21, e9, hI21R, hI21T, fI21, hp⟩ := hp
          rw [e9] at hW
          have f22 := z_fr_sub (L := L_X9_one_4) f19 fI21 (by decide)
          have k23 : (I21 12 6).toInt ≤ 501 ∧ ((I21 12 7).toInt = 401 ∨ (I21 12 6).toInt ≤ 500) := hI21T
          rcases hp with rfl | rfl
          · refine lv_if_ne (tgt := 74) hx hb dX9_one_69 (by decide) (fun c24 => ?_) (fun c24 => absurd c24 (by decide))
            refine lv_aload_n hx hb dX9_one_74 rfl (lv_at hl 1 rfl) ?_
            refine lv_iload_n hx hb dX9_one_75 rfl (lv_at hl 0 rfl) ?_
            refine lv_bipush (v := 60) hx hb dX9_one_76 (by decide) ?_
            refine lv_icmp_ne (tgt := 86) hx hb dX9_one_78 (by decide) (fun c25 => (by have g := z_f_ne rfl z_l60 c25; omega)) (fun c25 => ?_)
            have g26 := z_f_eq rfl z_l60 c25
            refine lv_bipush (v := (-7)) hx hb dX9_one_81 (by decide) ?_
            refine lv_goto (tgt := 99) hx hb dX9_one_83 (by decide) ?_
            refine z_cv hW hS hA (va_runV (As := [.int (-7)]) (rest := []) ⟨hx, hb, hml, hown, hts⟩ (sx_X9_emit l G ad c I21 ⟨(by show 0 ≤ (I21 12 1).toInt ∧ (I21 12 1).toInt ≤ 500; exact hI21R.1), (by show 0 ≤ (I21 12 5).toInt ∧ (I21 12 5).toInt ≤ 501; exact hI21R.2.1), (by show (-1) ≤ (I21 12 6).toInt ∧ (I21 12 6).toInt ≤ 1000000; exact hI21R.2.2.1), (by show 0 ≤ (I21 12 9).toInt ∧ (I21 12 9).toInt ≤ 500; exact hI21R.2.2.2.1), (by show 0 ≤ (I21 12 13).toInt ∧ (I21 12 13).toInt ≤ 24; exact hI21R.2.2.2.2)⟩ (-7) _) (cwV 1 hts gX9_one_X9_emit rfl rfl rfl hy_X9_emit ⟨Nat.le_of_ble_eq_true rfl, Nat.le_of_ble_eq_true rfl⟩) (z_preV (i := 12) hK hW rfl rfl) rfl rfl hl.1 rfl (lv_room (Nat.le_of_ble_eq_true rfl)) dX9_one_99 ⟨Nat.le_of_ble_eq_true rfl, Nat.le_of_ble_eq_true rfl⟩) (fun u1 H locs hp hW hS => ?_)
            obtain ⟨I27, e9, hI27R, fI27⟩ := hp
            rw [e9] at hW
            have f28 := z_fr_sub (L := L_X9_one_4) f22 fI27 (by decide)
            have k29 : (I27 12 6).toInt ≤ 501 ∧ ((I27 12 7).toInt = 401 ∨ (I27 12 6).toInt ≤ 500) := (by have q0 : (I27 12 6) = (I21 12 6) := (by rw [fI27 12 6 (by decide)]); have q1 : (I27 12 7) = (I21 12 7) := (by rw [fI27 12 7 (by decide)]); show (I27 12 6).toInt ≤ 501 ∧ ((I27 12 7).toInt = 401 ∨ (I27 12 6).toInt ≤ 500); rw [q0, q1]; first | omega | decide)
            have k30 : (I27 12 6).toInt = (I21 12 6).toInt := by rw [fI27 12 6 (by decide)]
            have k31 : (I27 12 7).toInt = (I21 12 7).toInt := by rw [fI27 12 7 (by decide)]
            refine lv_iconst (v := 1) hx hb dX9_one_102 (by decide) ?_
            exact z_zret hx hb hr (by decide) hK hS (Nat.le_of_ble_eq_true rfl) (Nat.le_of_ble_eq_true rfl) hlocks dX9_one_103 (shC c, ad, I27, JX, PC c ad) hW ⟨I27, rfl, ⟨(by show 0 ≤ (I27 12 1).toInt ∧ (I27 12 1).toInt ≤ 500; exact hI27R.1), (by show 0 ≤ (I27 12 5).toInt ∧ (I27 12 5).toInt ≤ 501; exact hI27R.2.1), (by show (-1) ≤ (I27 12 6).toInt ∧ (I27 12 6).toInt ≤ 1000000; exact hI27R.2.2.1), (by show 0 ≤ (I27 12 9).toInt ∧ (I27 12 9).toInt ≤ 500; exact hI27R.2.2.2.1), (by show 0 ≤ (I27 12 13).toInt ∧ (I27 12 13).toInt ≤ 24; exact hI27R.2.2.2.2)⟩, (by show (I27 12 6).toInt ≤ 501 ∧ ((I27 12 7).toInt = 401 ∨ (I27 12 6).toInt ≤ 500); first | omega | decide), f28, Or.inl rfl⟩
          · refine lv_if_ne (tgt := 74) hx hb dX9_one_69 (by decide) (fun c32 => absurd (by decide) c32) (fun c32 => ?_)
            refine lv_iconst (v := 0) hx hb dX9_one_72 (by decide) ?_
            exact z_zret hx hb hr (by decide) hK hS (Nat.le_of_ble_eq_true rfl) (Nat.le_of_ble_eq_true rfl) hlocks dX9_one_73 (shC c, ad, I21, JX, PC c ad) hW ⟨I21, rfl, ⟨(by show 0 ≤ (I21 12 1).toInt ∧ (I21 12 1).toInt ≤ 500; exact hI21R.1), (by show 0 ≤ (I21 12 5).toInt ∧ (I21 12 5).toInt ≤ 501; exact hI21R.2.1), (by show (-1) ≤ (I21 12 6).toInt ∧ (I21 12 6).toInt ≤ 1000000; exact hI21R.2.2.1), (by show 0 ≤ (I21 12 9).toInt ∧ (I21 12 9).toInt ≤ 500; exact hI21R.2.2.2.1), (by show 0 ≤ (I21 12 13).toInt ∧ (I21 12 13).toInt ≤ 24; exact hI21R.2.2.2.2)⟩, (by show (I21 12 6).toInt ≤ 501 ∧ ((I21 12 7).toInt = 401 ∨ (I21 12 6).toInt ≤ 500); first | omega | decide), f22, Or.inr rfl⟩
        · have g33 := z_f_ne rfl z_l60 c15
          have b34 := Int32.toInt_lt (I11 12 7)
          refine lv_iload_n hx hb dX9_one_46 rfl (lv_at hl 0 rfl) ?_
          refine lv_bipush (v := 62) hx hb dX9_one_47 (by decide) ?_
          refine lv_icmp_eq (tgt := 60) hx hb dX9_one_49 (by decide) (fun c35 => ?_) (fun c35 => ?_)
          · have g36 := z_f_eq rfl z_l62 c35
            refine lv_aload_n hx hb dX9_one_60 rfl (lv_at hl 1 rfl) ?_
            refine z_cv hW hS hA (va_runV (As := []) (rest := []) ⟨hx, hb, hml, hown, hts⟩ (sx_X9_step l G ad c I11 ⟨(by show 0 ≤ (I11 12 1).toInt ∧ (I11 12 1).toInt ≤ 500; exact hI11R.1), (by show 0 ≤ (I11 12 5).toInt ∧ (I11 12 5).toInt ≤ 501; exact hI11R.2.1), (by show (-1) ≤ (I11 12 6).toInt ∧ (I11 12 6).toInt ≤ 1000000; exact hI11R.2.2.1), (by show 0 ≤ (I11 12 9).toInt ∧ (I11 12 9).toInt ≤ 500; exact hI11R.2.2.2.1), (by show 0 ≤ (I11 12 13).toInt ∧ (I11 12 13).toInt ≤ 24; exact hI11R.2.2.2.2)⟩   (by show (I11 12 6).toInt ≤ 500; first | omega | decide) _) (cwV 0 hts gX9_one_X9_step rfl rfl rfl hy_X9_step ⟨Nat.le_of_ble_eq_true rfl, Nat.le_of_ble_eq_true rfl⟩) (z_preV (i := 12) hK hW rfl rfl) rfl rfl hl.1 rfl (lv_room (Nat.le_of_ble_eq_true rfl)) dX9_one_61 ⟨Nat.le_of_ble_eq_true rfl, Nat.le_of_ble_eq_true rfl⟩) (fun u1 H locs hp hW hS => ?_)
            obtain ⟨I37, e9, hI37R, hI37T, fI37⟩ := hp
            rw [e9] at hW
            have f38 := z_fr_sub (L := L_X9_one_4) f12 fI37 (by decide)
            have k39 : (I37 12 6).toInt ≤ 501 ∧ ((I37 12 7).toInt = 401 ∨ (I37 12 6).toInt ≤ 500) := hI37T
            refine lv_aload_n hx hb dX9_one_64 rfl (lv_at hl 1 rfl) ?_
            refine lv_iload_n hx hb dX9_one_65 rfl (lv_at hl 2 rfl) ?_
            refine z_ci hW hS hA (va_runV (As := [.int 4]) (rest := []) ⟨hx, hb, hml, hown, hts⟩ (sx_X9_sum_4 l G ad c I37 ⟨(by show 0 ≤ (I37 12 1).toInt ∧ (I37 12 1).toInt ≤ 500; exact hI37R.1), (by show 0 ≤ (I37 12 5).toInt ∧ (I37 12 5).toInt ≤ 501; exact hI37R.2.1), (by show (-1) ≤ (I37 12 6).toInt ∧ (I37 12 6).toInt ≤ 1000000; exact hI37R.2.2.1), (by show 0 ≤ (I37 12 9).toInt ∧ (I37 12 9).toInt ≤ 500; exact hI37R.2.2.2.1), (by show 0 ≤ (I37 12 13).toInt ∧ (I37 12 13).toInt ≤ 24; exact hI37R.2.2.2.2)⟩ (by show (I37 12 6).toInt ≤ 501 ∧ ((I37 12 7).toInt = 401 ∨ (I37 12 6).toInt ≤ 500); first | omega | decide) _) (cwV 1 hts gX9_one_X9_sum rfl rfl rfl hy_X9_sum ⟨Nat.le_of_ble_eq_true rfl, Nat.le_of_ble_eq_true rfl⟩) (z_preV (i := 12) hK hW rfl rfl) rfl rfl hl.1 rfl (lv_room (Nat.le_of_ble_eq_true rfl)) dX9_one_66 ⟨Nat.le_of_ble_eq_true rfl, Nat.le_of_ble_eq_true rfl⟩) (fun r u1 H locs hp hW hS => ?_)
            obtain ⟨I40, e9, hI40R, hI40T, fI40, hp⟩ := hp
            rw [e9] at hW
            have f41 := z_fr_sub (L := L_X9_one_4) f38 fI40 (by decide)
            have k42 : (I40 12 6).toInt ≤ 501 ∧ ((I40 12 7).toInt = 401 ∨ (I40 12 6).toInt ≤ 500) := hI40T
            rcases hp with rfl | rfl
            · refine lv_if_ne (tgt := 74) hx hb dX9_one_69 (by decide) (fun c43 => ?_) (fun c43 => absurd c43 (by decide))
              refine lv_aload_n hx hb dX9_one_74 rfl (lv_at hl 1 rfl) ?_
              refine lv_iload_n hx hb dX9_one_75 rfl (lv_at hl 0 rfl) ?_
              refine lv_bipush (v := 60) hx hb dX9_one_76 (by decide) ?_
              refine lv_icmp_ne (tgt := 86) hx hb dX9_one_78 (by decide) (fun c44 => ?_) (fun c44 => (by have g := z_f_eq rfl z_l60 c44; omega))
              have g45 := z_f_ne rfl z_l60 c44
              refine lv_iload_n hx hb dX9_one_86 rfl (lv_at hl 0 rfl) ?_
              refine lv_bipush (v := 62) hx hb dX9_one_87 (by decide) ?_
              refine lv_icmp_ne (tgt := 97) hx hb dX9_one_89 (by decide) (fun c46 => (by have g := z_f_ne rfl z_l62 c46; omega)) (fun c46 => ?_)
              have g47 := z_f_eq rfl z_l62 c46
              refine lv_bipush (v := (-8)) hx hb dX9_one_92 (by decide) ?_
              refine lv_goto (tgt := 99) hx hb dX9_one_94 (by decide) ?_
              refine z_cv hW hS hA (va_runV (As := [.int (-8)]) (rest := []) ⟨hx, hb, hml, hown, hts⟩ (sx_X9_emit l G ad c I40 ⟨(by show 0 ≤ (I40 12 1).toInt ∧ (I40 12 1).toInt ≤ 500; exact hI40R.1), (by show 0 ≤ (I40 12 5).toInt ∧ (I40 12 5).toInt ≤ 501; exact hI40R.2.1), (by show (-1) ≤ (I40 12 6).toInt ∧ (I40 12 6).toInt ≤ 1000000; exact hI40R.2.2.1), (by show 0 ≤ (I40 12 9).toInt ∧ (I40 12 9).toInt ≤ 500; exact hI40R.2.2.2.1), (by show 0 ≤ (I40 12 13).toInt ∧ (I40 12 13).toInt ≤ 24; exact hI40R.2.2.2.2)⟩ (-8) _) (cwV 1 hts gX9_one_X9_emit rfl rfl rfl hy_X9_emit ⟨Nat.le_of_ble_eq_true rfl, Nat.le_of_ble_eq_true rfl⟩) (z_preV (i := 12) hK hW rfl rfl) rfl rfl hl.1 rfl (lv_room (Nat.le_of_ble_eq_true rfl)) dX9_one_99 ⟨Nat.le_of_ble_eq_true rfl, Nat.le_of_ble_eq_true rfl⟩) (fun u1 H locs hp hW hS => ?_)
              obtain ⟨I48, e9, hI48R, fI48⟩ := hp
              rw [e9] at hW
              have f49 := z_fr_sub (L := L_X9_one_4) f41 fI48 (by decide)
              have k50 : (I48 12 6).toInt ≤ 501 ∧ ((I48 12 7).toInt = 401 ∨ (I48 12 6).toInt ≤ 500) := (by have q0 : (I48 12 6) = (I40 12 6) := (by rw [fI48 12 6 (by decide)]); have q1 : (I48 12 7) = (I40 12 7) := (by rw [fI48 12 7 (by decide)]); show (I48 12 6).toInt ≤ 501 ∧ ((I48 12 7).toInt = 401 ∨ (I48 12 6).toInt ≤ 500); rw [q0, q1]; first | omega | decide)
              have k51 : (I48 12 6).toInt = (I40 12 6).toInt := by rw [fI48 12 6 (by decide)]
              have k52 : (I48 12 7).toInt = (I40 12 7).toInt := by rw [fI48 12 7 (by decide)]
              refine lv_iconst (v := 1) hx hb dX9_one_102 (by decide) ?_
              exact z_zret hx hb hr (by decide) hK hS (Nat.le_of_ble_eq_true rfl) (Nat.le_of_ble_eq_true rfl) hlocks dX9_one_103 (shC c, ad, I48, JX, PC c ad) hW ⟨I48, rfl, ⟨(by show 0 ≤ (I48 12 1).toInt ∧ (I48 12 1).toInt ≤ 500; exact hI48R.1), (by show 0 ≤ (I48 12 5).toInt ∧ (I48 12 5).toInt ≤ 501; exact hI48R.2.1), (by show (-1) ≤ (I48 12 6).toInt ∧ (I48 12 6).toInt ≤ 1000000; exact hI48R.2.2.1), (by show 0 ≤ (I48 12 9).toInt ∧ (I48 12 9).toInt ≤ 500; exact hI48R.2.2.2.1), (by show 0 ≤ (I48 12 13).toInt ∧ (I48 12 13).toInt ≤ 24; exact hI48R.2.2.2.2)⟩, (by show (I48 12 6).toInt ≤ 501 ∧ ((I48 12 7).toInt = 401 ∨ (I48 12 6).toInt ≤ 500); first | omega | decide), f49, Or.inl rfl⟩
            · refine lv_if_ne (tgt := 74) hx hb dX9_one_69 (by decide) (fun c53 => absurd (by decide) c53) (fun c53 => ?_)
              refine lv_iconst (v := 0) hx hb dX9_one_72 (by decide) ?_
              exact z_zret hx hb hr (by decide) hK hS (Nat.le_of_ble_eq_true rfl) (Nat.le_of_ble_eq_true rfl) hlocks dX9_one_73 (shC c, ad, I40, JX, PC c ad) hW ⟨I40, rfl, ⟨(by show 0 ≤ (I40 12 1).toInt ∧ (I40 12 1).toInt ≤ 500; exact hI40R.1), (by show 0 ≤ (I40 12 5).toInt ∧ (I40 12 5).toInt ≤ 501; exact hI40R.2.1), (by show (-1) ≤ (I40 12 6).toInt ∧ (I40 12 6).toInt ≤ 1000000; exact hI40R.2.2.1), (by show 0 ≤ (I40 12 9).toInt ∧ (I40 12 9).toInt ≤ 500; exact hI40R.2.2.2.1), (by show 0 ≤ (I40 12 13).toInt ∧ (I40 12 13).toInt ≤ 24; exact hI40R.2.2.2.2)⟩, (by show (I40 12 6).toInt ≤ 501 ∧ ((I40 12 7).toInt = 401 ∨ (I40 12 6).toInt ≤ 500); first | omega | decide), f41, Or.inr rfl⟩
          · have g54 := z_f_ne rfl z_l62 c35
            refine lv_iload_n hx hb dX9_one_52 rfl (lv_at hl 0 rfl) ?_
            refine lv_bipush (v := 61) hx hb dX9_one_53 (by decide) ?_
            refine lv_icmp_eq (tgt := 60) hx hb dX9_one_55 (by decide) (fun c55 => ?_) (fun c55 => ?_)
            · have g56 := z_f_eq rfl z_l61 c55
              refine lv_aload_n hx hb dX9_one_60 rfl (lv_at hl 1 rfl) ?_
              refine z_cv hW hS hA (va_runV (As := []) (rest := []) ⟨hx, hb, hml, hown, hts⟩ (sx_X9_step l G ad c I11 ⟨(by show 0 ≤ (I11 12 1).toInt ∧ (I11 12 1).toInt ≤ 500; exact hI11R.1), (by show 0 ≤ (I11 12 5).toInt ∧ (I11 12 5).toInt ≤ 501; exact hI11R.2.1), (by show (-1) ≤ (I11 12 6).toInt ∧ (I11 12 6).toInt ≤ 1000000; exact hI11R.2.2.1), (by show 0 ≤ (I11 12 9).toInt ∧ (I11 12 9).toInt ≤ 500; exact hI11R.2.2.2.1), (by show 0 ≤ (I11 12 13).toInt ∧ (I11 12 13).toInt ≤ 24; exact hI11R.2.2.2.2)⟩   (by show (I11 12 6).toInt ≤ 500; first | omega | decide) _) (cwV 0 hts gX9_one_X9_step rfl rfl rfl hy_X9_step ⟨Nat.le_of_ble_eq_true rfl, Nat.le_of_ble_eq_true rfl⟩) (z_preV (i := 12) hK hW rfl rfl) rfl rfl hl.1 rfl (lv_room (Nat.le_of_ble_eq_true rfl)) dX9_one_61 ⟨Nat.le_of_ble_eq_true rfl, Nat.le_of_ble_eq_true rfl⟩) (fun u1 H locs hp hW hS => ?_)
              obtain ⟨I57, e9, hI57R, hI57T, fI57⟩ := hp
              rw [e9] at hW
              have f58 := z_fr_sub (L := L_X9_one_4) f12 fI57 (by decide)
              have k59 : (I57 12 6).toInt ≤ 501 ∧ ((I57 12 7).toInt = 401 ∨ (I57 12 6).toInt ≤ 500) := hI57T
              refine lv_aload_n hx hb dX9_one_64 rfl (lv_at hl 1 rfl) ?_
              refine lv_iload_n hx hb dX9_one_65 rfl (lv_at hl 2 rfl) ?_
              refine z_ci hW hS hA (va_runV (As := [.int 4]) (rest := []) ⟨hx, hb, hml, hown, hts⟩ (sx_X9_sum_4 l G ad c I57 ⟨(by show 0 ≤ (I57 12 1).toInt ∧ (I57 12 1).toInt ≤ 500; exact hI57R.1), (by show 0 ≤ (I57 12 5).toInt ∧ (I57 12 5).toInt ≤ 501; exact hI57R.2.1), (by show (-1) ≤ (I57 12 6).toInt ∧ (I57 12 6).toInt ≤ 1000000; exact hI57R.2.2.1), (by show 0 ≤ (I57 12 9).toInt ∧ (I57 12 9).toInt ≤ 500; exact hI57R.2.2.2.1), (by show 0 ≤ (I57 12 13).toInt ∧ (I57 12 13).toInt ≤ 24; exact hI57R.2.2.2.2)⟩ (by show (I57 12 6).toInt ≤ 501 ∧ ((I57 12 7).toInt = 401 ∨ (I57 12 6).toInt ≤ 500); first | omega | decide) _) (cwV 1 hts gX9_one_X9_sum rfl rfl rfl hy_X9_sum ⟨Nat.le_of_ble_eq_true rfl, Nat.le_of_ble_eq_true rfl⟩) (z_preV (i := 12) hK hW rfl rfl) rfl rfl hl.1 rfl (lv_room (Nat.le_of_ble_eq_true rfl)) dX9_one_66 ⟨Nat.le_of_ble_eq_true rfl, Nat.le_of_ble_eq_true rfl⟩) (fun r u1 H locs hp hW hS => ?_)
              obtain ⟨I60, e9, hI60R, hI60T, fI60, hp⟩ := hp
              rw [e9] at hW
              have f61 := z_fr_sub (L := L_X9_one_4) f58 fI60 (by decide)
              have k62 : (I60 12 6).toInt ≤ 501 ∧ ((I60 12 7).toInt = 401 ∨ (I60 12 6).toInt ≤ 500) := hI60T
              rcases hp with rfl | rfl
              · refine lv_if_ne (tgt := 74) hx hb dX9_one_69 (by decide) (fun c63 => ?_) (fun c63 => absurd c63 (by decide))
                refine lv_aload_n hx hb dX9_one_74 rfl (lv_at hl 1 rfl) ?_
                refine lv_iload_n hx hb dX9_one_75 rfl (lv_at hl 0 rfl) ?_
                refine lv_bipush (v := 60) hx hb dX9_one_76 (by decide) ?_
                refine lv_icmp_ne (tgt := 86) hx hb dX9_one_78 (by decide) (fun c64 => ?_) (fun c64 => (by have g := z_f_eq rfl z_l60 c64; omega))
                have g65 := z_f_ne rfl z_l60 c64
                refine lv_iload_n hx hb dX9_one_86 rfl (lv_at hl 0 rfl) ?_
                refine lv_bipush (v := 62) hx hb dX9_one_87 (by decide) ?_
                refine lv_icmp_ne (tgt := 97) hx hb dX9_one_89 (by decide) (fun c66 => ?_) (fun c66 => (by have g := z_f_eq rfl z_l62 c66; omega))
                have g67 := z_f_ne rfl z_l62 c66
                refine lv_bipush (v := (-9)) hx hb dX9_one_97 (by decide) ?_
                refine z_cv hW hS hA (va_runV (As := [.int (-9)]) (rest := []) ⟨hx, hb, hml, hown, hts⟩ (sx_X9_emit l G ad c I60 ⟨(by show 0 ≤ (I60 12 1).toInt ∧ (I60 12 1).toInt ≤ 500; exact hI60R.1), (by show 0 ≤ (I60 12 5).toInt ∧ (I60 12 5).toInt ≤ 501; exact hI60R.2.1), (by show (-1) ≤ (I60 12 6).toInt ∧ (I60 12 6).toInt ≤ 1000000; exact hI60R.2.2.1), (by show 0 ≤ (I60 12 9).toInt ∧ (I60 12 9).toInt ≤ 500; exact hI60R.2.2.2.1), (by show 0 ≤ (I60 12 13).toInt ∧ (I60 12 13).toInt ≤ 24; exact hI60R.2.2.2.2)⟩ (-9) _) (cwV 1 hts gX9_one_X9_emit rfl rfl rfl hy_X9_emit ⟨Nat.le_of_ble_eq_true rfl, Nat.le_of_ble_eq_true rfl⟩) (z_preV (i := 12) hK hW rfl rfl) rfl rfl hl.1 rfl (lv_room (Nat.le_of_ble_eq_true rfl)) dX9_one_99 ⟨Nat.le_of_ble_eq_true rfl, Nat.le_of_ble_eq_true rfl⟩) (fun u1 H locs hp hW hS => ?_)
                obtain ⟨I68, e9, hI68R, fI68⟩ := hp
                rw [e9] at hW
                have f69 := z_fr_sub (L := L_X9_one_4) f61 fI68 (by decide)
                have k70 : (I68 12 6).toInt ≤ 501 ∧ ((I68 12 7).toInt = 401 ∨ (I68 12 6).toInt ≤ 500) := (by have q0 : (I68 12 6) = (I60 12 6) := (by rw [fI68 12 6 (by decide)]); have q1 : (I68 12 7) = (I60 12 7) := (by rw [fI68 12 7 (by decide)]); show (I68 12 6).toInt ≤ 501 ∧ ((I68 12 7).toInt = 401 ∨ (I68 12 6).toInt ≤ 500); rw [q0, q1]; first | omega | decide)
                have k71 : (I68 12 6).toInt = (I60 12 6).toInt := by rw [fI68 12 6 (by decide)]
                have k72 : (I68 12 7).toInt = (I60 12 7).toInt := by rw [fI68 12 7 (by decide)]
                refine lv_iconst (v := 1) hx hb dX9_one_102 (by decide) ?_
                exact z_zret hx hb hr (by decide) hK hS (Nat.le_of_ble_eq_true rfl) (Nat.le_of_ble_eq_true rfl) hlocks dX9_one_103 (shC c, ad, I68, JX, PC c ad) hW ⟨I68, rfl, ⟨(by show 0 ≤ (I68 12 1).toInt ∧ (I68 12 1).toInt ≤ 500; exact hI68R.1), (by show 0 ≤ (I68 12 5).toInt ∧ (I68 12 5).toInt ≤ 501; exact hI68R.2.1), (by show (-1) ≤ (I68 12 6).toInt ∧ (I68 12 6).toInt ≤ 1000000; exact hI68R.2.2.1), (by show 0 ≤ (I68 12 9).toInt ∧ (I68 12 9).toInt ≤ 500; exact hI68R.2.2.2.1), (by show 0 ≤ (I68 12 13).toInt ∧ (I68 12 13).toInt ≤ 24; exact hI68R.2.2.2.2)⟩, (by show (I68 12 6).toInt ≤ 501 ∧ ((I68 12 7).toInt = 401 ∨ (I68 12 6).toInt ≤ 500); first | omega | decide), f69, Or.inl rfl⟩
              · refine lv_if_ne (tgt := 74) hx hb dX9_one_69 (by decide) (fun c73 => absurd (by decide) c73) (fun c73 => ?_)
                refine lv_iconst (v := 0) hx hb dX9_one_72 (by decide) ?_
                exact z_zret hx hb hr (by decide) hK hS (Nat.le_of_ble_eq_true rfl) (Nat.le_of_ble_eq_true rfl) hlocks dX9_one_73 (shC c, ad, I60, JX, PC c ad) hW ⟨I60, rfl, ⟨(by show 0 ≤ (I60 12 1).toInt ∧ (I60 12 1).toInt ≤ 500; exact hI60R.1), (by show 0 ≤ (I60 12 5).toInt ∧ (I60 12 5).toInt ≤ 501; exact hI60R.2.1), (by show (-1) ≤ (I60 12 6).toInt ∧ (I60 12 6).toInt ≤ 1000000; exact hI60R.2.2.1), (by show 0 ≤ (I60 12 9).toInt ∧ (I60 12 9).toInt ≤ 500; exact hI60R.2.2.2.1), (by show 0 ≤ (I60 12 13).toInt ∧ (I60 12 13).toInt ≤ 24; exact hI60R.2.2.2.2)⟩, (by show (I60 12 6).toInt ≤ 501 ∧ ((I60 12 7).toInt = 401 ∨ (I60 12 6).toInt ≤ 500); first | omega | decide), f61, Or.inr rfl⟩
            · have g74 := z_f_ne rfl z_l61 c55
              refine lv_iconst (v := 0) hx hb dX9_one_58 (by decide) ?_
              exact z_zret hx hb hr (by decide) hK hS (Nat.le_of_ble_eq_true rfl) (Nat.le_of_ble_eq_true rfl) hlocks dX9_one_59 (shC c, ad, I11, JX, PC c ad) hW ⟨I11, rfl, ⟨(by show 0 ≤ (I11 12 1).toInt ∧ (I11 12 1).toInt ≤ 500; exact hI11R.1), (by show 0 ≤ (I11 12 5).toInt ∧ (I11 12 5).toInt ≤ 501; exact hI11R.2.1), (by show (-1) ≤ (I11 12 6).toInt ∧ (I11 12 6).toInt ≤ 1000000; exact hI11R.2.2.1), (by show 0 ≤ (I11 12 9).toInt ∧ (I11 12 9).toInt ≤ 500; exact hI11R.2.2.2.1), (by show 0 ≤ (I11 12 13).toInt ∧ (I11 12 13).toInt ≤ 24; exact hI11R.2.2.2.2)⟩, (by show (I11 12 6).toInt ≤ 501 ∧ ((I11 12 7).toInt = 401 ∨ (I11 12 6).toInt ≤ 500); first | omega | decide), f12, Or.inr rfl⟩
      · refine lv_if_ne (tgt := 35) hx hb dX9_one_30 (by decide) (fun c75 => absurd (by decide) c75) (fun c75 => ?_)
        refine lv_iconst (v := 0) hx hb dX9_one_33 (by decide) ?_
        exact z_zret hx hb hr (by decide) hK hS (Nat.le_of_ble_eq_true rfl) (Nat.le_of_ble_eq_true rfl) hlocks dX9_one_34 (shC c, ad, I11, JX, PC c ad) hW ⟨I11, rfl, ⟨(by show 0 ≤ (I11 12 1).toInt ∧ (I11 12 1).toInt ≤ 500; exact hI11R.1), (by show 0 ≤ (I11 12 5).toInt ∧ (I11 12 5).toInt ≤ 501; exact hI11R.2.1), (by show (-1) ≤ (I11 12 6).toInt ∧ (I11 12 6).toInt ≤ 1000000; exact hI11R.2.2.1), (by show 0 ≤ (I11 12 9).toInt ∧ (I11 12 9).toInt ≤ 500; exact hI11R.2.2.2.1), (by show 0 ≤ (I11 12 13).toInt ∧ (I11 12 13).toInt ≤ 24; exact hI11R.2.2.2.2)⟩, (by show (I11 12 6).toInt ≤ 501 ∧ ((I11 12 7).toInt = 401 ∨ (I11 12 6).toInt ≤ 500); first | omega | decide), f12, Or.inr rfl⟩
    · have g76 := z_f_eq rfl z_l123 c9
      refine lv_aload_n hx hb dX9_one_19 rfl (lv_at hl 0 rfl) ?_
      refine lv_iload_n hx hb dX9_one_20 rfl (lv_at hl 1 rfl) ?_
      refine z_ci hW hS hA (va_runV (As := [.int 4]) (rest := []) ⟨hx, hb, hml, hown, hts⟩ (sx_X9_opened_4 l G ad c I ⟨(by show 0 ≤ (I 12 1).toInt ∧ (I 12 1).toInt ≤ 500; exact hR.1), (by show 0 ≤ (I 12 5).toInt ∧ (I 12 5).toInt ≤ 501; exact hR.2.1), (by show (-1) ≤ (I 12 6).toInt ∧ (I 12 6).toInt ≤ 1000000; exact hR.2.2.1), (by show 0 ≤ (I 12 9).toInt ∧ (I 12 9).toInt ≤ 500; exact hR.2.2.2.1), (by show 0 ≤ (I 12 13).toInt ∧ (I 12 13).toInt ≤ 24; exact hR.2.2.2.2)⟩ (by show (I 12 6).toInt ≤ 501 ∧ ((I 12 7).toInt = 401 ∨ (I 12 6).toInt ≤ 500); first | omega | decide) (by show (I 12 6).toInt ≤ 500; first | omega | decide) _) (cwV 1 hts gX9_one_X9_opened rfl rfl rfl hy_X9_opened ⟨Nat.le_of_ble_eq_true rfl, Nat.le_of_ble_eq_true rfl⟩) (z_preV (i := 12) hK hW rfl rfl) rfl rfl hl.1 rfl (lv_room (Nat.le_of_ble_eq_true rfl)) dX9_one_21 ⟨Nat.le_of_ble_eq_true rfl, Nat.le_of_ble_eq_true rfl⟩) (fun r u1 H locs hp hW hS => ?_)
      obtain ⟨I77, e9, hI77R, hI77T, fI77, hp⟩ := hp
      rw [e9] at hW
      have f78 := z_fr_sub (L := L_X9_one_4) z_fr_0 fI77 (by decide)
      have k79 : (I77 12 6).toInt ≤ 501 ∧ ((I77 12 7).toInt = 401 ∨ (I77 12 6).toInt ≤ 500) := hI77T
      rcases hp with rfl | rfl
      · exact z_zret hx hb hr (by decide) hK hS (Nat.le_of_ble_eq_true rfl) (Nat.le_of_ble_eq_true rfl) hlocks dX9_one_24 (shC c, ad, I77, JX, PC c ad) hW ⟨I77, rfl, ⟨(by show 0 ≤ (I77 12 1).toInt ∧ (I77 12 1).toInt ≤ 500; exact hI77R.1), (by show 0 ≤ (I77 12 5).toInt ∧ (I77 12 5).toInt ≤ 501; exact hI77R.2.1), (by show (-1) ≤ (I77 12 6).toInt ∧ (I77 12 6).toInt ≤ 1000000; exact hI77R.2.2.1), (by show 0 ≤ (I77 12 9).toInt ∧ (I77 12 9).toInt ≤ 500; exact hI77R.2.2.2.1), (by show 0 ≤ (I77 12 13).toInt ∧ (I77 12 13).toInt ≤ 24; exact hI77R.2.2.2.2)⟩, (by show (I77 12 6).toInt ≤ 501 ∧ ((I77 12 7).toInt = 401 ∨ (I77 12 6).toInt ≤ 500); first | omega | decide), f78, Or.inl rfl⟩
      · exact z_zret hx hb hr (by decide) hK hS (Nat.le_of_ble_eq_true rfl) (Nat.le_of_ble_eq_true rfl) hlocks dX9_one_24 (shC c, ad, I77, JX, PC c ad) hW ⟨I77, rfl, ⟨(by show 0 ≤ (I77 12 1).toInt ∧ (I77 12 1).toInt ≤ 500; exact hI77R.1), (by show 0 ≤ (I77 12 5).toInt ∧ (I77 12 5).toInt ≤ 501; exact hI77R.2.1), (by show (-1) ≤ (I77 12 6).toInt ∧ (I77 12 6).toInt ≤ 1000000; exact hI77R.2.2.1), (by show 0 ≤ (I77 12 9).toInt ∧ (I77 12 9).toInt ≤ 500; exact hI77R.2.2.2.1), (by show 0 ≤ (I77 12 13).toInt ∧ (I77 12 13).toInt ≤ 24; exact hI77R.2.2.2.2)⟩, (by show (I77 12 6).toInt ≤ 501 ∧ ((I77 12 7).toInt = 401 ∨ (I77 12 6).toInt ≤ 500); first | omega | decide), f78, Or.inr rfl⟩
noncomputable def L_X9_all_4 : z_L := [(12, 6), (12, 7), (17, 999), (12, 9)]
set_option maxHeartbeats 8000000 in
set_option maxRecDepth 100000 in
theorem sx_X9_all_4 (l : Launch) (G : z_G) (ad : Nat → Nat) (c : z_C) (I : z_I) (hR : z_iR I) (hT : z_iT I) : z_M l yX9_all wsX9_all { frames := 27, cells := 0, slots := 0, locals := 583 } [.ref (ad 12), .int 4] G (shC c, ad, I, JX, PC c ad) (fun r u1 => ∃ I1 : z_I, u1 = (shC c, ad, I1, JX, PC c ad) ∧ z_iR I1 ∧ z_iT I1 ∧ z_fr L_X9_all_4 I1 I ∧ (r = 1 ∨ r = 0)) 0 0 := by
  intro sz
  refine z_headQ (cc := cX9_all) (maxL := 3) (ret := (some .boolean)) (by decide) rfl (Nat.le_of_ble_eq_true rfl) ?_
  intro p e s m below meth c0 ls hIn hK hsz hW hl
  obtain ⟨hx, hb, hr, hml, hown, hts, hlocks, hname⟩ := hIn
  subst hsz
  have hown : s.vm.findClass RX9 = some m.cls := hown
  have hA : ∀ q : Nat, s.heap.size ≤ q → z_A (shC c, ad, I, JX, PC c ad) s.heap.size q := fun q h => Or.inr h
  generalize hAe : z_A (shC c, ad, I, JX, PC c ad) s.heap.size = A at *
  have hS : va_S A s.heap s.heap [] := va_S.rf
  have hl : lv_has ls 3 [(0, .ref (ad 12)), (1, .int 4)] := hl
  have kT : (I 12 6).toInt ≤ 501 ∧ ((I 12 7).toInt = 401 ∨ (I 12 6).toInt ≤ 500) := hT
  refine lv_aload_n hx hb dX9_all_0 rfl (lv_at hl 0 rfl) ?_
  refine lv_iload_n hx hb dX9_all_1 rfl (lv_at hl 1 rfl) ?_
  refine z_ci hW hS hA (va_runV (As := [.int 4]) (rest := []) ⟨hx, hb, hml, hown, hts⟩ (sx_X9_one_4 l G ad c I ⟨(by show 0 ≤ (I 12 1).toInt ∧ (I 12 1).toInt ≤ 500; exact hR.1), (by show 0 ≤ (I 12 5).toInt ∧ (I 12 5).toInt ≤ 501; exact hR.2.1), (by show (-1) ≤ (I 12 6).toInt ∧ (I 12 6).toInt ≤ 1000000; exact hR.2.2.1), (by show 0 ≤ (I 12 9).toInt ∧ (I 12 9).toInt ≤ 500; exact hR.2.2.2.1), (by show 0 ≤ (I 12 13).toInt ∧ (I 12 13).toInt ≤ 24; exact hR.2.2.2.2)⟩ (by show (I 12 6).toInt ≤ 501 ∧ ((I 12 7).toInt = 401 ∨ (I 12 6).toInt ≤ 500); first | omega | decide) _) (cwV 1 hts gX9_all_X9_one rfl rfl rfl hy_X9_one ⟨Nat.le_of_ble_eq_true rfl, Nat.le_of_ble_eq_true rfl⟩) (z_preV (i := 12) hK hW rfl rfl) rfl rfl hl.1 rfl (lv_room (Nat.le_of_ble_eq_true rfl)) dX9_all_2 ⟨Nat.le_of_ble_eq_true rfl, Nat.le_of_ble_eq_true rfl⟩) (fun r u1 H locs hp hW hS => ?_)
  obtain ⟨I1, e9, hI1R, hI1T, fI1, hp⟩ := hp
  rw [e9] at hW
  have f2 := z_fr_sub (L := L_X9_all_4) z_fr_0 fI1 (by decide)
  have k3 : (I1 12 6).toInt ≤ 501 ∧ ((I1 12 7).toInt = 401 ∨ (I1 12 6).toInt ≤ 500) := hI1T
  rcases hp with rfl | rfl
  · refine lv_if_ne (tgt := 10) hx hb dX9_all_5 (by decide) (fun c4 => ?_) (fun c4 => absurd c4 (by decide))
    refine lv_iconst (v := 0) hx hb dX9_all_10 (by decide) ?_
    refine lv_istore_n (lv' := [(2, .int 0), (0, .ref (ad 12)), (1, .int 4)]) hx hb dX9_all_11 rfl hl (by decide) rfl (fun ls hl => ?_)
    have lp5 : ∀ (f : Nat) (y6 : Int32) (I7 : z_I) (H : Heap) (locs : List Loc) (ls : Array Slot), (2147483647 < y6.toInt + (f : Int)) → (0 ≤ y6.toInt) → (z_iR I7) → (z_iT I7) → (z_fr L_X9_all_4 I7 I) → z_W G A (shC c, ad, I7, JX, PC c ad) H → va_S A s.heap H locs → lv_has ls 3 [(2, .int y6), (0, .ref (ad 12)), (1, .int 4)] → W p l e (headSpec wsX9_all { frames := 27, cells := 0, slots := 0, locals := 583 }).room s m ([.ref (ad 12), .int 4] : List Value).toArray below meth c0 H locs 0 0 (MQ below (va_Qi (fun (r : Int32) (u1 : z_U) => ∃ I1 : z_I, u1 = (shC c, ad, I1, JX, PC c ad) ∧ z_iR I1 ∧ z_iT I1 ∧ z_fr L_X9_all_4 I1 I ∧ (r = 1 ∨ r = 0)) (z_B G A) A) ([.ref (ad 12), .int 4] : List Value).toArray s 0 0 A) (F0 m 12 ls []) := by
      intro f
      induction f with
      | zero => intro y6 I7  H locs ls lp5m lp5l2 lp5R lp5T lp5fr hW hS hl; exact absurd lp5m (by have := Int32.toInt_lt y6; have := Int32.le_toInt y6; omega)
      | succ f lp5ih =>
        intro y6 I7  H locs ls lp5m lp5l2 lp5R lp5T lp5fr hW hS hl
        have k8 : (I7 12 6).toInt ≤ 501 ∧ ((I7 12 7).toInt = 401 ∨ (I7 12 6).toInt ≤ 500) := lp5T
        refine lv_iload_n hx hb dX9_all_12 rfl (lv_at hl 0 rfl) ?_
        refine lv_sipush (v := 500) hx hb dX9_all_13 (by decide) ?_
        refine lv_icmp_ge (tgt := 55) hx hb dX9_all_16 (by decide) (fun c9 => ?_) (fun c9 => ?_)
        · have g10 := z_f_ge rfl z_l500 c9
          have b11 := Int32.toInt_lt y6
          refine lv_iconst (v := 1) hx hb dX9_all_55 (by decide) ?_
          exact z_zret hx hb hr (by decide) hK hS (Nat.le_of_ble_eq_true rfl) (Nat.le_of_ble_eq_true rfl) hlocks dX9_all_56 (shC c, ad, I7, JX, PC c ad) hW ⟨I7, rfl, ⟨(by show 0 ≤ (I7 12 1).toInt ∧ (I7 12 1).toInt ≤ 500; exact lp5R.1), (by show 0 ≤ (I7 12 5).toInt ∧ (I7 12 5).toInt ≤ 501; exact lp5R.2.1), (by show (-1) ≤ (I7 12 6).toInt ∧ (I7 12 6).toInt ≤ 1000000; exact lp5R.2.2.1), (by show 0 ≤ (I7 12 9).toInt ∧ (I7 12 9).toInt ≤ 500; exact lp5R.2.2.2.1), (by show 0 ≤ (I7 12 13).toInt ∧ (I7 12 13).toInt ≤ 24; exact lp5R.2.2.2.2)⟩, (by show (I7 12 6).toInt ≤ 501 ∧ ((I7 12 7).toInt = 401 ∨ (I7 12 6).toInt ≤ 500); first | omega | decide), lp5fr, Or.inl rfl⟩
        · have g12 := z_f_nge rfl z_l500 c9
          have b13 := Int32.toInt_lt y6
          refine lv_aload_n hx hb dX9_all_19 rfl (lv_at hl 1 rfl) ?_
          refine z_get (T := TX9) (N := 14) (ci := 9) (i := 12) (v := .int (I7 12 7)) hx hb hts zj_X9_all_X9 hown hK hW rfl rfl 7 (by decide) (hts (.fieldLink RX9 62 "PetrolBoard$Reader" "token" "I") (me_s (me_l (me_l (List.mem_of_getElem? (i := 0) rfl))))) (fun _ h => h) rfl dX9_all_20 ?_
          refine lv_sipush (v := 310) hx hb dX9_all_23 (by decide) ?_
          refine lv_icmp_ne (tgt := 55) hx hb dX9_all_26 (by decide) (fun c14 => ?_) (fun c14 => ?_)
          · have g15 := z_f_ne rfl z_l310 c14
            have b16 := Int32.toInt_lt (I7 12 7)
            refine lv_iconst (v := 1) hx hb dX9_all_55 (by decide) ?_
            exact z_zret hx hb hr (by decide) hK hS (Nat.le_of_ble_eq_true rfl) (Nat.le_of_ble_eq_true rfl) hlocks dX9_all_56 (shC c, ad, I7, JX, PC c ad) hW ⟨I7, rfl, ⟨(by show 0 ≤ (I7 12 1).toInt ∧ (I7 12 1).toInt ≤ 500; exact lp5R.1), (by show 0 ≤ (I7 12 5).toInt ∧ (I7 12 5).toInt ≤ 501; exact lp5R.2.1), (by show (-1) ≤ (I7 12 6).toInt ∧ (I7 12 6).toInt ≤ 1000000; exact lp5R.2.2.1), (by show 0 ≤ (I7 12 9).toInt ∧ (I7 12 9).toInt ≤ 500; exact lp5R.2.2.2.1), (by show 0 ≤ (I7 12 13).toInt ∧ (I7 12 13).toInt ≤ 24; exact lp5R.2.2.2.2)⟩, (by show (I7 12 6).toInt ≤ 501 ∧ ((I7 12 7).toInt = 401 ∨ (I7 12 6).toInt ≤ 500); first | omega | decide), lp5fr, Or.inl rfl⟩
          · have g17 := z_f_eq rfl z_l310 c14
            have b18 := Int32.toInt_lt (I7 12 7)
            refine lv_aload_n hx hb dX9_all_29 rfl (lv_at hl 1 rfl) ?_
            refine z_cv hW hS hA (va_runV (As := []) (rest := []) ⟨hx, hb, hml, hown, hts⟩ (sx_X9_step l G ad c I7 ⟨(by show 0 ≤ (I7 12 1).toInt ∧ (I7 12 1).toInt ≤ 500; exact lp5R.1), (by show 0 ≤ (I7 12 5).toInt ∧ (I7 12 5).toInt ≤ 501; exact lp5R.2.1), (by show (-1) ≤ (I7 12 6).toInt ∧ (I7 12 6).toInt ≤ 1000000; exact lp5R.2.2.1), (by show 0 ≤ (I7 12 9).toInt ∧ (I7 12 9).toInt ≤ 500; exact lp5R.2.2.2.1), (by show 0 ≤ (I7 12 13).toInt ∧ (I7 12 13).toInt ≤ 24; exact lp5R.2.2.2.2)⟩   (by show (I7 12 6).toInt ≤ 500; first | omega | decide) _) (cwV 0 hts gX9_all_X9_step rfl rfl rfl hy_X9_step ⟨Nat.le_of_ble_eq_true rfl, Nat.le_of_ble_eq_true rfl⟩) (z_preV (i := 12) hK hW rfl rfl) rfl rfl hl.1 rfl (lv_room (Nat.le_of_ble_eq_true rfl)) dX9_all_30 ⟨Nat.le_of_ble_eq_true rfl, Nat.le_of_ble_eq_true rfl⟩) (fun u1 H locs hp hW hS => ?_)
            obtain ⟨I19, e9, hI19R, hI19T, fI19⟩ := hp
            rw [e9] at hW
            have f20 := z_fr_sub (L := L_X9_all_4) lp5fr fI19 (by decide)
            have k21 : (I19 12 6).toInt ≤ 501 ∧ ((I19 12 7).toInt = 401 ∨ (I19 12 6).toInt ≤ 500) := hI19T
            refine lv_aload_n hx hb dX9_all_33 rfl (lv_at hl 1 rfl) ?_
            refine lv_iload_n hx hb dX9_all_34 rfl (lv_at hl 2 rfl) ?_
            refine z_ci hW hS hA (va_runV (As := [.int 4]) (rest := []) ⟨hx, hb, hml, hown, hts⟩ (sx_X9_one_4 l G ad c I19 ⟨(by show 0 ≤ (I19 12 1).toInt ∧ (I19 12 1).toInt ≤ 500; exact hI19R.1), (by show 0 ≤ (I19 12 5).toInt ∧ (I19 12 5).toInt ≤ 501; exact hI19R.2.1), (by show (-1) ≤ (I19 12 6).toInt ∧ (I19 12 6).toInt ≤ 1000000; exact hI19R.2.2.1), (by show 0 ≤ (I19 12 9).toInt ∧ (I19 12 9).toInt ≤ 500; exact hI19R.2.2.2.1), (by show 0 ≤ (I19 12 13).toInt ∧ (I19 12 13).toInt ≤ 24; exact hI19R.2.2.2.2)⟩ (by show (I19 12 6).toInt ≤ 501 ∧ ((I19 12 7).toInt = 401 ∨ (I19 12 6).toInt ≤ 500); first | omega | decide) _) (cwV 1 hts gX9_all_X9_one rfl rfl rfl hy_X9_one ⟨Nat.le_of_ble_eq_true rfl, Nat.le_of_ble_eq_true rfl⟩) (z_preV (i := 12) hK hW rfl rfl) rfl rfl hl.1 rfl (lv_room (Nat.le_of_ble_eq_true rfl)) dX9_all_35 ⟨Nat.le_of_ble_eq_true rfl, Nat.le_of_ble_eq_true rfl⟩) (fun r u1 H locs hp hW hS => ?_)
            obtain ⟨I22, e9, hI22R, hI22T, fI22, hp⟩ := hp
            rw [e9] at hW
            have f23 := z_fr_sub (L := L_X9_all_4) f20 fI22 (by decide)
            have k24 : (I22 12 6).toInt ≤ 501 ∧ ((I22 12 7).toInt = 401 ∨ (I22 12 6).toInt ≤ 500) := hI22T
            rcases hp with rfl | rfl
            · refine lv_if_ne (tgt := 43) hx hb dX9_all_38 (by decide) (fun c25 => ?_) (fun c25 => absurd c25 (by decide))
              refine lv_aload_n hx hb dX9_all_43 rfl (lv_at hl 1 rfl) ?_
              refine lv_bipush (v := (-10)) hx hb dX9_all_44 (by decide) ?_
              refine z_cv hW hS hA (va_runV (As := [.int (-10)]) (rest := []) ⟨hx, hb, hml, hown, hts⟩ (sx_X9_emit l G ad c I22 ⟨(by show 0 ≤ (I22 12 1).toInt ∧ (I22 12 1).toInt ≤ 500; exact hI22R.1), (by show 0 ≤ (I22 12 5).toInt ∧ (I22 12 5).toInt ≤ 501; exact hI22R.2.1), (by show (-1) ≤ (I22 12 6).toInt ∧ (I22 12 6).toInt ≤ 1000000; exact hI22R.2.2.1), (by show 0 ≤ (I22 12 9).toInt ∧ (I22 12 9).toInt ≤ 500; exact hI22R.2.2.2.1), (by show 0 ≤ (I22 12 13).toInt ∧ (I22 12 13).toInt ≤ 24; exact hI22R.2.2.2.2)⟩ (-10) _) (cwV 1 hts gX9_all_X9_emit rfl rfl rfl hy_X9_emit ⟨Nat.le_of_ble_eq_true rfl, Nat.le_of_ble_eq_true rfl⟩) (z_preV (i := 12) hK hW rfl rfl) rfl rfl hl.1 rfl (lv_room (Nat.le_of_ble_eq_true rfl)) dX9_all_46 ⟨Nat.le_of_ble_eq_true rfl, Nat.le_of_ble_eq_true rfl⟩) (fun u1 H locs hp hW hS => ?_)
              obtain ⟨I26, e9, hI26R, fI26⟩ := hp
              rw [e9] at hW
              have f27 := z_fr_sub (L := L_X9_all_4) f23 fI26 (by decide)
              have k28 : (I26 12 6).toInt ≤ 501 ∧ ((I26 12 7).toInt = 401 ∨ (I26 12 6).toInt ≤ 500) := (by have q0 : (I26 12 6) = (I22 12 6) := (by rw [fI26 12 6 (by decide)]); have q1 : (I26 12 7) = (I22 12 7) := (by rw [fI26 12 7 (by decide)]); show (I26 12 6).toInt ≤ 501 ∧ ((I26 12 7).toInt = 401 ∨ (I26 12 6).toInt ≤ 500); rw [q0, q1]; first | omega | decide)
              have k29 : (I26 12 6).toInt = (I22 12 6).toInt := by rw [fI26 12 6 (by decide)]
              have k30 : (I26 12 7).toInt = (I22 12 7).toInt := by rw [fI26 12 7 (by decide)]
              obtain ⟨x31, ex31⟩ : ∃ y : Int32, y = y6 + 1 := ⟨_, rfl⟩
              have tx31 : x31.toInt = y6.toInt + 1 := z_tadd ex31 rfl z_l1 (by omega) (by omega)
              refine lv_iinc (v := x31) (lv' := [(2, .int x31), (0, .ref (ad 12)), (1, .int 4)]) hx hb dX9_all_49 hl (k := 0) rfl (by rw [ex31]; rfl) (by decide) rfl (fun ls hl => ?_)
              refine lv_goto (tgt := 12) hx hb dX9_all_52 (by decide) ?_
              exact lp5ih x31 I26  _ _ _ (by omega) (by omega) ⟨(by show 0 ≤ (I26 12 1).toInt ∧ (I26 12 1).toInt ≤ 500; exact hI26R.1), (by show 0 ≤ (I26 12 5).toInt ∧ (I26 12 5).toInt ≤ 501; exact hI26R.2.1), (by show (-1) ≤ (I26 12 6).toInt ∧ (I26 12 6).toInt ≤ 1000000; exact hI26R.2.2.1), (by show 0 ≤ (I26 12 9).toInt ∧ (I26 12 9).toInt ≤ 500; exact hI26R.2.2.2.1), (by show 0 ≤ (I26 12 13).toInt ∧ (I26 12 13).toInt ≤ 24; exact hI26R.2.2.2.2)⟩ (by show (I26 12 6).toInt ≤ 501 ∧ ((I26 12 7).toInt = 401 ∨ (I26 12 6).toInt ≤ 500); first | omega | decide) f27 hW hS (lv_sub hl [0, 1, 2] rfl)
            · refine lv_if_ne (tgt := 43) hx hb dX9_all_38 (by decide) (fun c32 => absurd (by decide) c32) (fun c32 => ?_)
              refine lv_iconst (v := 0) hx hb dX9_all_41 (by decide) ?_
              exact z_zret hx hb hr (by decide) hK hS (Nat.le_of_ble_eq_true rfl) (Nat.le_of_ble_eq_true rfl) hlocks dX9_all_42 (shC c, ad, I22, JX, PC c ad) hW ⟨I22, rfl, ⟨(by show 0 ≤ (I22 12 1).toInt ∧ (I22 12 1).toInt ≤ 500; exact hI22R.1), (by show 0 ≤ (I22 12 5).toInt ∧ (I22 12 5).toInt ≤ 501; exact hI22R.2.1), (by show (-1) ≤ (I22 12 6).toInt ∧ (I22 12 6).toInt ≤ 1000000; exact hI22R.2.2.1), (by show 0 ≤ (I22 12 9).toInt ∧ (I22 12 9).toInt ≤ 500; exact hI22R.2.2.2.1), (by show 0 ≤ (I22 12 13).toInt ∧ (I22 12 13).toInt ≤ 24; exact hI22R.2.2.2.2)⟩, (by show (I22 12 6).toInt ≤ 501 ∧ ((I22 12 7).toInt = 401 ∨ (I22 12 6).toInt ≤ 500); first | omega | decide), f23, Or.inr rfl⟩
    exact lp5 4294967296 (0) I1  _ _ _ (z_m0u _) (by rw [z_l0]; omega) ⟨(by show 0 ≤ (I1 12 1).toInt ∧ (I1 12 1).toInt ≤ 500; exact hI1R.1), (by show 0 ≤ (I1 12 5).toInt ∧ (I1 12 5).toInt ≤ 501; exact hI1R.2.1), (by show (-1) ≤ (I1 12 6).toInt ∧ (I1 12 6).toInt ≤ 1000000; exact hI1R.2.2.1), (by show 0 ≤ (I1 12 9).toInt ∧ (I1 12 9).toInt ≤ 500; exact hI1R.2.2.2.1), (by show 0 ≤ (I1 12 13).toInt ∧ (I1 12 13).toInt ≤ 24; exact hI1R.2.2.2.2)⟩ (by show (I1 12 6).toInt ≤ 501 ∧ ((I1 12 7).toInt = 401 ∨ (I1 12 6).toInt ≤ 500); first | omega | decide) f2 hW hS (lv_sub hl [0, 1, 2] rfl)
  · refine lv_if_ne (tgt := 10) hx hb dX9_all_5 (by decide) (fun c33 => absurd (by decide) c33) (fun c33 => ?_)
    refine lv_iconst (v := 0) hx hb dX9_all_8 (by decide) ?_
    exact z_zret hx hb hr (by decide) hK hS (Nat.le_of_ble_eq_true rfl) (Nat.le_of_ble_eq_true rfl) hlocks dX9_all_9 (shC c, ad, I1, JX, PC c ad) hW ⟨I1, rfl, ⟨(by show 0 ≤ (I1 12 1).toInt ∧ (I1 12 1).toInt ≤ 500; exact hI1R.1), (by show 0 ≤ (I1 12 5).toInt ∧ (I1 12 5).toInt ≤ 501; exact hI1R.2.1), (by show (-1) ≤ (I1 12 6).toInt ∧ (I1 12 6).toInt ≤ 1000000; exact hI1R.2.2.1), (by show 0 ≤ (I1 12 9).toInt ∧ (I1 12 9).toInt ≤ 500; exact hI1R.2.2.2.1), (by show 0 ≤ (I1 12 13).toInt ∧ (I1 12 13).toInt ≤ 24; exact hI1R.2.2.2.2)⟩, (by show (I1 12 6).toInt ≤ 501 ∧ ((I1 12 7).toInt = 401 ∨ (I1 12 6).toInt ≤ 500); first | omega | decide), f2, Or.inr rfl⟩
noncomputable def L_X9_either_4 : z_L := [(12, 6), (12, 7), (17, 999), (12, 9)]
set_option maxHeartbeats 8000000 in
set_option maxRecDepth 100000 in
theorem sx_X9_either_4 (l : Launch) (G : z_G) (ad : Nat → Nat) (c : z_C) (I : z_I) (hR : z_iR I) (hT : z_iT I) : z_M l yX9_either wsX9_either { frames := 28, cells := 0, slots := 0, locals := 605 } [.ref (ad 12), .int 4] G (shC c, ad, I, JX, PC c ad) (fun r u1 => ∃ I1 : z_I, u1 = (shC c, ad, I1, JX, PC c ad) ∧ z_iR I1 ∧ z_iT I1 ∧ z_fr L_X9_either_4 I1 I ∧ (r = 1 ∨ r = 0)) 0 0 := by
  intro sz
  refine z_headQ (cc := cX9_either) (maxL := 3) (ret := (some .boolean)) (by decide) rfl (Nat.le_of_ble_eq_true rfl) ?_
  intro p e s m below meth c0 ls hIn hK hsz hW hl
  obtain ⟨hx, hb, hr, hml, hown, hts, hlocks, hname⟩ := hIn
  subst hsz
  have hown : s.vm.findClass RX9 = some m.cls := hown
  have hA : ∀ q : Nat, s.heap.size ≤ q → z_A (shC c, ad, I, JX, PC c ad) s.heap.size q := fun q h => Or.inr h
  generalize hAe : z_A (shC c, ad, I, JX, PC c ad) s.heap.size = A at *
  have hS : va_S A s.heap s.heap [] := va_S.rf
  have hl : lv_has ls 3 [(0, .ref (ad 12)), (1, .int 4)] := hl
  have kT : (I 12 6).toInt ≤ 501 ∧ ((I 12 7).toInt = 401 ∨ (I 12 6).toInt ≤ 500) := hT
  refine lv_aload_n hx hb dX9_either_0 rfl (lv_at hl 0 rfl) ?_
  refine lv_iload_n hx hb dX9_either_1 rfl (lv_at hl 1 rfl) ?_
  refine z_ci hW hS hA (va_runV (As := [.int 4]) (rest := []) ⟨hx, hb, hml, hown, hts⟩ (sx_X9_all_4 l G ad c I ⟨(by show 0 ≤ (I 12 1).toInt ∧ (I 12 1).toInt ≤ 500; exact hR.1), (by show 0 ≤ (I 12 5).toInt ∧ (I 12 5).toInt ≤ 501; exact hR.2.1), (by show (-1) ≤ (I 12 6).toInt ∧ (I 12 6).toInt ≤ 1000000; exact hR.2.2.1), (by show 0 ≤ (I 12 9).toInt ∧ (I 12 9).toInt ≤ 500; exact hR.2.2.2.1), (by show 0 ≤ (I 12 13).toInt ∧ (I 12 13).toInt ≤ 24; exact hR.2.2.2.2)⟩ (by show (I 12 6).toInt ≤ 501 ∧ ((I 12 7).toInt = 401 ∨ (I 12 6).toInt ≤ 500); first | omega | decide) _) (cwV 1 hts gX9_either_X9_all rfl rfl rfl hy_X9_all ⟨Nat.le_of_ble_eq_true rfl, Nat.le_of_ble_eq_true rfl⟩) (z_preV (i := 12) hK hW rfl rfl) rfl rfl hl.1 rfl (lv_room (Nat.le_of_ble_eq_true rfl)) dX9_either_2 ⟨Nat.le_of_ble_eq_true rfl, Nat.le_of_ble_eq_true rfl⟩) (fun r u1 H locs hp hW hS => ?_)
  obtain ⟨I1, e9, hI1R, hI1T, fI1, hp⟩ := hp
  rw [e9] at hW
  have f2 := z_fr_sub (L := L_X9_either_4) z_fr_0 fI1 (by decide)
  have k3 : (I1 12 6).toInt ≤ 501 ∧ ((I1 12 7).toInt = 401 ∨ (I1 12 6).toInt ≤ 500) := hI1T
  rcases hp with rfl | rfl
  · refine lv_if_ne (tgt := 10) hx hb dX9_either_5 (by decide) (fun c4 => ?_) (fun c4 => absurd c4 (by decide))
    refine lv_iconst (v := 0) hx hb dX9_either_10 (by decide) ?_
    refine lv_istore_n (lv' := [(2, .int 0), (0, .ref (ad 12)), (1, .int 4)]) hx hb dX9_either_11 rfl hl (by decide) rfl (fun ls hl => ?_)
    have lp5 : ∀ (f : Nat) (y6 : Int32) (I7 : z_I) (H : Heap) (locs : List Loc) (ls : Array Slot), (2147483647 < y6.toInt + (f : Int)) → (0 ≤ y6.toInt) → (z_iR I7) → (z_iT I7) → (z_fr L_X9_either_4 I7 I) → z_W G A (shC c, ad, I7, JX, PC c ad) H → va_S A s.heap H locs → lv_has ls 3 [(2, .int y6), (0, .ref (ad 12)), (1, .int 4)] → W p l e (headSpec wsX9_either { frames := 28, cells := 0, slots := 0, locals := 605 }).room s m ([.ref (ad 12), .int 4] : List Value).toArray below meth c0 H locs 0 0 (MQ below (va_Qi (fun (r : Int32) (u1 : z_U) => ∃ I1 : z_I, u1 = (shC c, ad, I1, JX, PC c ad) ∧ z_iR I1 ∧ z_iT I1 ∧ z_fr L_X9_either_4 I1 I ∧ (r = 1 ∨ r = 0)) (z_B G A) A) ([.ref (ad 12), .int 4] : List Value).toArray s 0 0 A) (F0 m 12 ls []) := by
      intro f
      induction f with
      | zero => intro y6 I7  H locs ls lp5m lp5l2 lp5R lp5T lp5fr hW hS hl; exact absurd lp5m (by have := Int32.toInt_lt y6; have := Int32.le_toInt y6; omega)
      | succ f lp5ih =>
        intro y6 I7  H locs ls lp5m lp5l2 lp5R lp5T lp5fr hW hS hl
        have k8 : (I7 12 6).toInt ≤ 501 ∧ ((I7 12 7).toInt = 401 ∨ (I7 12 6).toInt ≤ 500) := lp5T
        refine lv_iload_n hx hb dX9_either_12 rfl (lv_at hl 0 rfl) ?_
        refine lv_sipush (v := 500) hx hb dX9_either_13 (by decide) ?_
        refine lv_icmp_ge (tgt := 55) hx hb dX9_either_16 (by decide) (fun c9 => ?_) (fun c9 => ?_)
        · have g10 := z_f_ge rfl z_l500 c9
          have b11 := Int32.toInt_lt y6
          refine lv_iconst (v := 1) hx hb dX9_either_55 (by decide) ?_
          exact z_zret hx hb hr (by decide) hK hS (Nat.le_of_ble_eq_true rfl) (Nat.le_of_ble_eq_true rfl) hlocks dX9_either_56 (shC c, ad, I7, JX, PC c ad) hW ⟨I7, rfl, ⟨(by show 0 ≤ (I7 12 1).toInt ∧ (I7 12 1).toInt ≤ 500; exact lp5R.1), (by show 0 ≤ (I7 12 5).toInt ∧ (I7 12 5).toInt ≤ 501; exact lp5R.2.1), (by show (-1) ≤ (I7 12 6).toInt ∧ (I7 12 6).toInt ≤ 1000000; exact lp5R.2.2.1), (by show 0 ≤ (I7 12 9).toInt ∧ (I7 12 9).toInt ≤ 500; exact lp5R.2.2.2.1), (by show 0 ≤ (I7 12 13).toInt ∧ (I7 12 13).toInt ≤ 24; exact lp5R.2.2.2.2)⟩, (by show (I7 12 6).toInt ≤ 501 ∧ ((I7 12 7).toInt = 401 ∨ (I7 12 6).toInt ≤ 500); first | omega | decide), lp5fr, Or.inl rfl⟩
        · have g12 := z_f_nge rfl z_l500 c9
          have b13 := Int32.toInt_lt y6
          refine lv_aload_n hx hb dX9_either_19 rfl (lv_at hl 1 rfl) ?_
          refine z_get (T := TX9) (N := 14) (ci := 9) (i := 12) (v := .int (I7 12 7)) hx hb hts zj_X9_either_X9 hown hK hW rfl rfl 7 (by decide) (hts (.fieldLink RX9 62 "PetrolBoard$Reader" "token" "I") (me_s (me_l (me_l (List.mem_of_getElem? (i := 0) rfl))))) (fun _ h => h) rfl dX9_either_20 ?_
          refine lv_sipush (v := 309) hx hb dX9_either_23 (by decide) ?_
          refine lv_icmp_ne (tgt := 55) hx hb dX9_either_26 (by decide) (fun c14 => ?_) (fun c14 => ?_)
          · have g15 := z_f_ne rfl z_l309 c14
            have b16 := Int32.toInt_lt (I7 12 7)
            refine lv_iconst (v := 1) hx hb dX9_either_55 (by decide) ?_
            exact z_zret hx hb hr (by decide) hK hS (Nat.le_of_ble_eq_true rfl) (Nat.le_of_ble_eq_true rfl) hlocks dX9_either_56 (shC c, ad, I7, JX, PC c ad) hW ⟨I7, rfl, ⟨(by show 0 ≤ (I7 12 1).toInt ∧ (I7 12 1).toInt ≤ 500; exact lp5R.1), (by show 0 ≤ (I7 12 5).toInt ∧ (I7 12 5).toInt ≤ 501; exact lp5R.2.1), (by show (-1) ≤ (I7 12 6).toInt ∧ (I7 12 6).toInt ≤ 1000000; exact lp5R.2.2.1), (by show 0 ≤ (I7 12 9).toInt ∧ (I7 12 9).toInt ≤ 500; exact lp5R.2.2.2.1), (by show 0 ≤ (I7 12 13).toInt ∧ (I7 12 13).toInt ≤ 24; exact lp5R.2.2.2.2)⟩, (by show (I7 12 6).toInt ≤ 501 ∧ ((I7 12 7).toInt = 401 ∨ (I7 12 6).toInt ≤ 500); first | omega | decide), lp5fr, Or.inl rfl⟩
          · have g17 := z_f_eq rfl z_l309 c14
            have b18 := Int32.toInt_lt (I7 12 7)
            refine lv_aload_n hx hb dX9_either_29 rfl (lv_at hl 1 rfl) ?_
            refine z_cv hW hS hA (va_runV (As := []) (rest := []) ⟨hx, hb, hml, hown, hts⟩ (sx_X9_step l G ad c I7 ⟨(by show 0 ≤ (I7 12 1).toInt ∧ (I7 12 1).toInt ≤ 500; exact lp5R.1), (by show 0 ≤ (I7 12 5).toInt ∧ (I7 12 5).toInt ≤ 501; exact lp5R.2.1), (by show (-1) ≤ (I7 12 6).toInt ∧ (I7 12 6).toInt ≤ 1000000; exact lp5R.2.2.1), (by show 0 ≤ (I7 12 9).toInt ∧ (I7 12 9).toInt ≤ 500; exact lp5R.2.2.2.1), (by show 0 ≤ (I7 12 13).toInt ∧ (I7 12 13).toInt ≤ 24; exact lp5R.2.2.2.2)⟩   (by show (I7 12 6).toInt ≤ 500; first | omega | decide) _) (cwV 0 hts gX9_either_X9_step rfl rfl rfl hy_X9_step ⟨Nat.le_of_ble_eq_true rfl, Nat.le_of_ble_eq_true rfl⟩) (z_preV (i := 12) hK hW rfl rfl) rfl rfl hl.1 rfl (lv_room (Nat.le_of_ble_eq_true rfl)) dX9_either_30 ⟨Nat.le_of_ble_eq_true rfl, Nat.le_of_ble_eq_true rfl⟩) (fun u1 H locs hp hW hS => ?_)
            obtain ⟨I19, e9, hI19R, hI19T, fI19⟩ := hp
            rw [e9] at hW
            have f20 := z_fr_sub (L := L_X9_either_4) lp5fr fI19 (by decide)
            have k21 : (I19 12 6).toInt ≤ 501 ∧ ((I19 12 7).toInt = 401 ∨ (I19 12 6).toInt ≤ 500) := hI19T
            refine lv_aload_n hx hb dX9_either_33 rfl (lv_at hl 1 rfl) ?_
            refine lv_iload_n hx hb dX9_either_34 rfl (lv_at hl 2 rfl) ?_
            refine z_ci hW hS hA (va_runV (As := [.int 4]) (rest := []) ⟨hx, hb, hml, hown, hts⟩ (sx_X9_all_4 l G ad c I19 ⟨(by show 0 ≤ (I19 12 1).toInt ∧ (I19 12 1).toInt ≤ 500; exact hI19R.1), (by show 0 ≤ (I19 12 5).toInt ∧ (I19 12 5).toInt ≤ 501; exact hI19R.2.1), (by show (-1) ≤ (I19 12 6).toInt ∧ (I19 12 6).toInt ≤ 1000000; exact hI19R.2.2.1), (by show 0 ≤ (I19 12 9).toInt ∧ (I19 12 9).toInt ≤ 500; exact hI19R.2.2.2.1), (by show 0 ≤ (I19 12 13).toInt ∧ (I19 12 13).toInt ≤ 24; exact hI19R.2.2.2.2)⟩ (by show (I19 12 6).toInt ≤ 501 ∧ ((I19 12 7).toInt = 401 ∨ (I19 12 6).toInt ≤ 500); first | omega | decide) _) (cwV 1 hts gX9_either_X9_all rfl rfl rfl hy_X9_all ⟨Nat.le_of_ble_eq_true rfl, Nat.le_of_ble_eq_true rfl⟩) (z_preV (i := 12) hK hW rfl rfl) rfl rfl hl.1 rfl (lv_room (Nat.le_of_ble_eq_true rfl)) dX9_either_35 ⟨Nat.le_of_ble_eq_true rfl, Nat.le_of_ble_eq_true rfl⟩) (fun r u1 H locs hp hW hS => ?_)
            obtain ⟨I22, e9, hI22R, hI22T, fI22, hp⟩ := hp
            rw [e9] at hW
            have f23 := z_fr_sub (L := L_X9_either_4) f20 fI22 (by decide)
            have k24 : (I22 12 6).toInt ≤ 501 ∧ ((I22 12 7).toInt = 401 ∨ (I22 12 6).toInt ≤ 500) := hI22T
            rcases hp with rfl | rfl
            · refine lv_if_ne (tgt := 43) hx hb dX9_either_38 (by decide) (fun c25 => ?_) (fun c25 => absurd c25 (by decide))
              refine lv_aload_n hx hb dX9_either_43 rfl (lv_at hl 1 rfl) ?_
              refine lv_bipush (v := (-11)) hx hb dX9_either_44 (by decide) ?_
              refine z_cv hW hS hA (va_runV (As := [.int (-11)]) (rest := []) ⟨hx, hb, hml, hown, hts⟩ (sx_X9_emit l G ad c I22 ⟨(by show 0 ≤ (I22 12 1).toInt ∧ (I22 12 1).toInt ≤ 500; exact hI22R.1), (by show 0 ≤ (I22 12 5).toInt ∧ (I22 12 5).toInt ≤ 501; exact hI22R.2.1), (by show (-1) ≤ (I22 12 6).toInt ∧ (I22 12 6).toInt ≤ 1000000; exact hI22R.2.2.1), (by show 0 ≤ (I22 12 9).toInt ∧ (I22 12 9).toInt ≤ 500; exact hI22R.2.2.2.1), (by show 0 ≤ (I22 12 13).toInt ∧ (I22 12 13).toInt ≤ 24; exact hI22R.2.2.2.2)⟩ (-11) _) (cwV 1 hts gX9_either_X9_emit rfl rfl rfl hy_X9_emit ⟨Nat.le_of_ble_eq_true rfl, Nat.le_of_ble_eq_true rfl⟩) (z_preV (i := 12) hK hW rfl rfl) rfl rfl hl.1 rfl (lv_room (Nat.le_of_ble_eq_true rfl)) dX9_either_46 ⟨Nat.le_of_ble_eq_true rfl, Nat.le_of_ble_eq_true rfl⟩) (fun u1 H locs hp hW hS => ?_)
              obtain ⟨I26, e9, hI26R, fI26⟩ := hp
              rw [e9] at hW
              have f27 := z_fr_sub (L := L_X9_either_4) f23 fI26 (by decide)
              have k28 : (I26 12 6).toInt ≤ 501 ∧ ((I26 12 7).toInt = 401 ∨ (I26 12 6).toInt ≤ 500) := (by have q0 : (I26 12 6) = (I22 12 6) := (by rw [fI26 12 6 (by decide)]); have q1 : (I26 12 7) = (I22 12 7) := (by rw [fI26 12 7 (by decide)]); show (I26 12 6).toInt ≤ 501 ∧ ((I26 12 7).toInt = 401 ∨ (I26 12 6).toInt ≤ 500); rw [q0, q1]; first | omega | decide)
              have k29 : (I26 12 6).toInt = (I22 12 6).toInt := by rw [fI26 12 6 (by decide)]
              have k30 : (I26 12 7).toInt = (I22 12 7).toInt := by rw [fI26 12 7 (by decide)]
              obtain ⟨x31, ex31⟩ : ∃ y : Int32, y = y6 + 1 := ⟨_, rfl⟩
              have tx31 : x31.toInt = y6.toInt + 1 := z_tadd ex31 rfl z_l1 (by omega) (by omega)
              refine lv_iinc (v := x31) (lv' := [(2, .int x31), (0, .ref (ad 12)), (1, .int 4)]) hx hb dX9_either_49 hl (k := 0) rfl (by rw [ex31]; rfl) (by decide) rfl (fun ls hl => ?_)
              refine lv_goto (tgt := 12) hx hb dX9_either_52 (by decide) ?_
              exact lp5ih x31 I26  _ _ _ (by omega) (by omega) ⟨(by show 0 ≤ (I26 12 1).toInt ∧ (I26 12 1).toInt ≤ 500; exact hI26R.1), (by show 0 ≤ (I26 12 5).toInt ∧ (I26 12 5).toInt ≤ 501; exact hI26R.2.1), (by show (-1) ≤ (I26 12 6).toInt ∧ (I26 12 6).toInt ≤ 1000000; exact hI26R.2.2.1), (by show 0 ≤ (I26 12 9).toInt ∧ (I26 12 9).toInt ≤ 500; exact hI26R.2.2.2.1), (by show 0 ≤ (I26 12 13).toInt ∧ (I26 12 13).toInt ≤ 24; exact hI26R.2.2.2.2)⟩ (by show (I26 12 6).toInt ≤ 501 ∧ ((I26 12 7).toInt = 401 ∨ (I26 12 6).toInt ≤ 500); first | omega | decide) f27 hW hS (lv_sub hl [0, 1, 2] rfl)
            · refine lv_if_ne (tgt := 43) hx hb dX9_either_38 (by decide) (fun c32 => absurd (by decide) c32) (fun c32 => ?_)
              refine lv_iconst (v := 0) hx hb dX9_either_41 (by decide) ?_
              exact z_zret hx hb hr (by decide) hK hS (Nat.le_of_ble_eq_true rfl) (Nat.le_of_ble_eq_true rfl) hlocks dX9_either_42 (shC c, ad, I22, JX, PC c ad) hW ⟨I22, rfl, ⟨(by show 0 ≤ (I22 12 1).toInt ∧ (I22 12 1).toInt ≤ 500; exact hI22R.1), (by show 0 ≤ (I22 12 5).toInt ∧ (I22 12 5).toInt ≤ 501; exact hI22R.2.1), (by show (-1) ≤ (I22 12 6).toInt ∧ (I22 12 6).toInt ≤ 1000000; exact hI22R.2.2.1), (by show 0 ≤ (I22 12 9).toInt ∧ (I22 12 9).toInt ≤ 500; exact hI22R.2.2.2.1), (by show 0 ≤ (I22 12 13).toInt ∧ (I22 12 13).toInt ≤ 24; exact hI22R.2.2.2.2)⟩, (by show (I22 12 6).toInt ≤ 501 ∧ ((I22 12 7).toInt = 401 ∨ (I22 12 6).toInt ≤ 500); first | omega | decide), f23, Or.inr rfl⟩
    exact lp5 4294967296 (0) I1  _ _ _ (z_m0u _) (by rw [z_l0]; omega) ⟨(by show 0 ≤ (I1 12 1).toInt ∧ (I1 12 1).toInt ≤ 500; exact hI1R.1), (by show 0 ≤ (I1 12 5).toInt ∧ (I1 12 5).toInt ≤ 501; exact hI1R.2.1), (by show (-1) ≤ (I1 12 6).toInt ∧ (I1 12 6).toInt ≤ 1000000; exact hI1R.2.2.1), (by show 0 ≤ (I1 12 9).toInt ∧ (I1 12 9).toInt ≤ 500; exact hI1R.2.2.2.1), (by show 0 ≤ (I1 12 13).toInt ∧ (I1 12 13).toInt ≤ 24; exact hI1R.2.2.2.2)⟩ (by show (I1 12 6).toInt ≤ 501 ∧ ((I1 12 7).toInt = 401 ∨ (I1 12 6).toInt ≤ 500); first | omega | decide) f2 hW hS (lv_sub hl [0, 1, 2] rfl)
  · refine lv_if_ne (tgt := 10) hx hb dX9_either_5 (by decide) (fun c33 => absurd (by decide) c33) (fun c33 => ?_)
    refine lv_iconst (v := 0) hx hb dX9_either_8 (by decide) ?_
    exact z_zret hx hb hr (by decide) hK hS (Nat.le_of_ble_eq_true rfl) (Nat.le_of_ble_eq_true rfl) hlocks dX9_either_9 (shC c, ad, I1, JX, PC c ad) hW ⟨I1, rfl, ⟨(by show 0 ≤ (I1 12 1).toInt ∧ (I1 12 1).toInt ≤ 500; exact hI1R.1), (by show 0 ≤ (I1 12 5).toInt ∧ (I1 12 5).toInt ≤ 501; exact hI1R.2.1), (by show (-1) ≤ (I1 12 6).toInt ∧ (I1 12 6).toInt ≤ 1000000; exact hI1R.2.2.1), (by show 0 ≤ (I1 12 9).toInt ∧ (I1 12 9).toInt ≤ 500; exact hI1R.2.2.2.1), (by show 0 ≤ (I1 12 13).toInt ∧ (I1 12 13).toInt ≤ 24; exact hI1R.2.2.2.2)⟩, (by show (I1 12 6).toInt ≤ 501 ∧ ((I1 12 7).toInt = 401 ∨ (I1 12 6).toInt ≤ 500); first | omega | decide), f2, Or.inr rfl⟩
