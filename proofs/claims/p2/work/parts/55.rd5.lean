

def L_X9_atom_1 : z_L := [(12, 6), (12, 7), (17, 999), (12, 9)]
set_option maxHeartbeats 8000000 in
set_option maxRecDepth 100000 in
theorem sx_X9_atom_1 (l : Launch) (G : z_G) (ad : Nat → Nat) (c : z_C) (I : z_I) (hR : z_iR I) (hT : z_iT I) : z_M l yX9_atom wsX9_atom { frames := 27, cells := 0, slots := 0, locals := 597 } [.ref (ad 12), .int 1] G (shC c, ad, I, JX, PC c ad) (fun r u1 => ∃ I1 : z_I, u1 = (shC c, ad, I1, JX, PC c ad) ∧ z_iR I1 ∧ z_iT I1 ∧ z_fr L_X9_atom_1 I1 I ∧ (r = 1 ∨ r = 0)) 0 0 := by
  intro sz
  refine z_headQ (cc := cX9_atom) (maxL := 3) (ret := (some .boolean)) (by decide) rfl (Nat.le_of_ble_eq_true rfl) ?_
  intro p e s m below meth c0 ls hIn hK hsz hW hl
  obtain ⟨hx, hb, hr, hml, hown, hts, hlocks, hname⟩ := hIn
  subst hsz
  have hown : s.vm.findClass RX9 = some m.cls := hown
  have hA : ∀ q : Nat, s.heap.size ≤ q → z_A (shC c, ad, I, JX, PC c ad) s.heap.size q := fun q h => Or.inr h
  generalize hAe : z_A (shC c, ad, I, JX, PC c ad) s.heap.size = A at *
  have hS : va_S A s.heap s.heap [] := va_S.rf
  have hl : lv_has ls 3 [(0, .ref (ad 12)), (1, .int 1)] := hl
  have kT : (I 12 6).toInt ≤ 501 ∧ ((I 12 7).toInt = 401 ∨ (I 12 6).toInt ≤ 500) := hT
  refine lv_aload_n hx hb dX9_atom_0 rfl (lv_at hl 0 rfl) ?_
  refine z_get (T := TX9) (N := 14) (ci := 9) (i := 12) (v := .int (I 12 7)) hx hb hts zj_X9_atom_X9 hown hK hW rfl rfl 7 (by decide) (hts (.fieldLink RX9 62 "PetrolBoard$Reader" "token" "I") (List.mem_of_getElem? (i := 1) rfl)) (fun _ h => h) rfl dX9_atom_1 ?_
  refine lv_sipush (v := 400) hx hb dX9_atom_4 (by decide) ?_
  refine lv_icmp_eq (tgt := 30) hx hb dX9_atom_7 (by decide) (fun c1 => ?_) (fun c1 => ?_)
  · have g2 := z_f_eq rfl z_l400 c1
    have b3 := Int32.toInt_lt (I 12 7)
    refine lv_aload_n hx hb dX9_atom_30 rfl (lv_at hl 0 rfl) ?_
    refine lv_aload_n hx hb dX9_atom_31 rfl (lv_at hl 0 rfl) ?_
    refine z_get (T := TX9) (N := 14) (ci := 9) (i := 12) (v := .int (I 12 7)) hx hb hts zj_X9_atom_X9 hown hK hW rfl rfl 7 (by decide) (hts (.fieldLink RX9 62 "PetrolBoard$Reader" "token" "I") (List.mem_of_getElem? (i := 1) rfl)) (fun _ h => h) rfl dX9_atom_32 ?_
    refine lv_sipush (v := 400) hx hb dX9_atom_35 (by decide) ?_
    refine lv_icmp_ne (tgt := 48) hx hb dX9_atom_38 (by decide) (fun c4 => (by have g := z_f_ne rfl z_l400 c4; omega)) (fun c4 => ?_)
    have g5 := z_f_eq rfl z_l400 c4
    refine lv_aload_n hx hb dX9_atom_41 rfl (lv_at hl 0 rfl) ?_
    refine z_ci hW hS hA (va_runV (As := []) (rest := [.ref (ad 12)]) ⟨hx, hb, hml, hown, hts⟩ (sx_X9_numberHere l G ad c I ⟨(by show 0 ≤ (I 12 1).toInt ∧ (I 12 1).toInt ≤ 500; exact hR.1), (by show 0 ≤ (I 12 5).toInt ∧ (I 12 5).toInt ≤ 501; exact hR.2.1), (by show (-1) ≤ (I 12 6).toInt ∧ (I 12 6).toInt ≤ 1000000; exact hR.2.2.1), (by show 0 ≤ (I 12 9).toInt ∧ (I 12 9).toInt ≤ 500; exact hR.2.2.2.1), (by show 0 ≤ (I 12 13).toInt ∧ (I 12 13).toInt ≤ 24; exact hR.2.2.2.2)⟩  _) (cwV 0 hts gX9_atom_X9_numberHere rfl rfl rfl (by decide +kernel) ⟨Nat.le_of_ble_eq_true rfl, Nat.le_of_ble_eq_true rfl⟩) (z_preV (i := 12) hK hW rfl rfl) rfl rfl hl.1 rfl (lv_room (Nat.le_of_ble_eq_true rfl)) dX9_atom_42 ⟨Nat.le_of_ble_eq_true rfl, Nat.le_of_ble_eq_true rfl⟩) (fun r u1 H locs hp hW hS => ?_)
    rw [hp] at hW
    refine lv_topi (fun x6 ex6 => ?_)
    refine lv_goto (tgt := 59) hx hb dX9_atom_45 (by decide) ?_
    refine z_cv hW hS hA (va_runV (As := [.int x6]) (rest := []) ⟨hx, hb, hml, hown, hts⟩ (sx_X9_emit l G ad c I ⟨(by show 0 ≤ (I 12 1).toInt ∧ (I 12 1).toInt ≤ 500; exact hR.1), (by show 0 ≤ (I 12 5).toInt ∧ (I 12 5).toInt ≤ 501; exact hR.2.1), (by show (-1) ≤ (I 12 6).toInt ∧ (I 12 6).toInt ≤ 1000000; exact hR.2.2.1), (by show 0 ≤ (I 12 9).toInt ∧ (I 12 9).toInt ≤ 500; exact hR.2.2.2.1), (by show 0 ≤ (I 12 13).toInt ∧ (I 12 13).toInt ≤ 24; exact hR.2.2.2.2)⟩ x6 _) (cwV 1 hts gX9_atom_X9_emit rfl rfl rfl (by decide +kernel) ⟨Nat.le_of_ble_eq_true rfl, Nat.le_of_ble_eq_true rfl⟩) (z_preV (i := 12) hK hW rfl rfl) rfl rfl hl.1 rfl (lv_room (Nat.le_of_ble_eq_true rfl)) dX9_atom_59 ⟨Nat.le_of_ble_eq_true rfl, Nat.le_of_ble_eq_true rfl⟩) (fun u1 H locs hp hW hS => ?_)
    obtain ⟨I7, e9, hI7R, fI7⟩ := hp
    rw [e9] at hW
    have f8 := z_fr_sub (L := L_X9_atom_1) z_fr_0 fI7 (by decide)
    have k9 : (I7 12 6).toInt ≤ 501 ∧ ((I7 12 7).toInt = 401 ∨ (I7 12 6).toInt ≤ 500) := (by have q0 : (I7 12 6) = (I 12 6) := (by rw [fI7 12 6 (by decide)]); have q1 : (I7 12 7) = (I 12 7) := (by rw [fI7 12 7 (by decide)]); show (I7 12 6).toInt ≤ 501 ∧ ((I7 12 7).toInt = 401 ∨ (I7 12 6).toInt ≤ 500); rw [q0, q1]; first | omega | decide)
    refine lv_aload_n hx hb dX9_atom_62 rfl (lv_at hl 0 rfl) ?_
    refine z_cv hW hS hA (va_runV (As := []) (rest := []) ⟨hx, hb, hml, hown, hts⟩ (sx_X9_step l G ad c I7 ⟨(by show 0 ≤ (I7 12 1).toInt ∧ (I7 12 1).toInt ≤ 500; exact hI7R.1), (by show 0 ≤ (I7 12 5).toInt ∧ (I7 12 5).toInt ≤ 501; exact hI7R.2.1), (by show (-1) ≤ (I7 12 6).toInt ∧ (I7 12 6).toInt ≤ 1000000; exact hI7R.2.2.1), (by show 0 ≤ (I7 12 9).toInt ∧ (I7 12 9).toInt ≤ 500; exact hI7R.2.2.2.1), (by show 0 ≤ (I7 12 13).toInt ∧ (I7 12 13).toInt ≤ 24; exact hI7R.2.2.2.2)⟩   (by show (I7 12 6).toInt ≤ 500; first | omega | decide) _) (cwV 0 hts gX9_atom_X9_step rfl rfl rfl (by decide +kernel) ⟨Nat.le_of_ble_eq_true rfl, Nat.le_of_ble_eq_true rfl⟩) (z_preV (i := 12) hK hW rfl rfl) rfl rfl hl.1 rfl (lv_room (Nat.le_of_ble_eq_true rfl)) dX9_atom_63 ⟨Nat.le_of_ble_eq_true rfl, Nat.le_of_ble_eq_true rfl⟩) (fun u1 H locs hp hW hS => ?_)
    obtain ⟨I10, e9, hI10R, hI10T, fI10⟩ := hp
    rw [e9] at hW
    have f11 := z_fr_sub (L := L_X9_atom_1) f8 fI10 (by decide)
    have k12 : (I10 12 6).toInt ≤ 501 ∧ ((I10 12 7).toInt = 401 ∨ (I10 12 6).toInt ≤ 500) := hI10T
    refine lv_iconst (v := 1) hx hb dX9_atom_66 (by decide) ?_
    exact z_zret hx hb hr (by decide) hK hS (Nat.le_of_ble_eq_true rfl) (Nat.le_of_ble_eq_true rfl) hlocks dX9_atom_67 (shC c, ad, I10, JX, PC c ad) hW ⟨I10, rfl, ⟨(by show 0 ≤ (I10 12 1).toInt ∧ (I10 12 1).toInt ≤ 500; exact hI10R.1), (by show 0 ≤ (I10 12 5).toInt ∧ (I10 12 5).toInt ≤ 501; exact hI10R.2.1), (by show (-1) ≤ (I10 12 6).toInt ∧ (I10 12 6).toInt ≤ 1000000; exact hI10R.2.2.1), (by show 0 ≤ (I10 12 9).toInt ∧ (I10 12 9).toInt ≤ 500; exact hI10R.2.2.2.1), (by show 0 ≤ (I10 12 13).toInt ∧ (I10 12 13).toInt ≤ 24; exact hI10R.2.2.2.2)⟩, (by show (I10 12 6).toInt ≤ 501 ∧ ((I10 12 7).toInt = 401 ∨ (I10 12 6).toInt ≤ 500); first | omega | decide), f11, Or.inl rfl⟩
  · have g13 := z_f_ne rfl z_l400 c1
    have b14 := Int32.toInt_lt (I 12 7)
    refine lv_aload_n hx hb dX9_atom_10 rfl (lv_at hl 0 rfl) ?_
    refine z_get (T := TX9) (N := 14) (ci := 9) (i := 12) (v := .int (I 12 7)) hx hb hts zj_X9_atom_X9 hown hK hW rfl rfl 7 (by decide) (hts (.fieldLink RX9 62 "PetrolBoard$Reader" "token" "I") (List.mem_of_getElem? (i := 1) rfl)) (fun _ h => h) rfl dX9_atom_11 ?_
    refine lv_sipush (v := 314) hx hb dX9_atom_14 (by decide) ?_
    refine lv_icmp_lt (tgt := 68) hx hb dX9_atom_17 (by decide) (fun c15 => ?_) (fun c15 => ?_)
    · have g16 := z_f_lt rfl z_l314 c15
      refine lv_aload_n hx hb dX9_atom_68 rfl (lv_at hl 0 rfl) ?_
      refine z_get (T := TX9) (N := 14) (ci := 9) (i := 12) (v := .int (I 12 7)) hx hb hts zj_X9_atom_X9 hown hK hW rfl rfl 7 (by decide) (hts (.fieldLink RX9 62 "PetrolBoard$Reader" "token" "I") (List.mem_of_getElem? (i := 1) rfl)) (fun _ h => h) rfl dX9_atom_69 ?_
      refine lv_istore_n (lv' := [(2, .int (I 12 7)), (0, .ref (ad 12)), (1, .int 1)]) hx hb dX9_atom_72 rfl hl (by decide) rfl (fun ls hl => ?_)
      refine lv_iload_n hx hb dX9_atom_73 rfl (lv_at hl 0 rfl) ?_
      refine lv_bipush (v := 40) hx hb dX9_atom_74 (by decide) ?_
      refine lv_icmp_eq (tgt := 93) hx hb dX9_atom_76 (by decide) (fun c17 => ?_) (fun c17 => ?_)
      · have g18 := z_f_eq rfl z_l40 c17
        refine lv_iload_n hx hb dX9_atom_93 rfl (lv_at hl 2 rfl) ?_
        refine lv_bipush (v := 9) hx hb dX9_atom_94 (by decide) ?_
        refine lv_icmp_lt (tgt := 101) hx hb dX9_atom_96 (by decide) (fun c19 => ?_) (fun c19 => absurd (by decide) c19)
        refine lv_aload_n hx hb dX9_atom_101 rfl (lv_at hl 1 rfl) ?_
        refine z_cv hW hS hA (va_runV (As := []) (rest := []) ⟨hx, hb, hml, hown, hts⟩ (sx_X9_step l G ad c I ⟨(by show 0 ≤ (I 12 1).toInt ∧ (I 12 1).toInt ≤ 500; exact hR.1), (by show 0 ≤ (I 12 5).toInt ∧ (I 12 5).toInt ≤ 501; exact hR.2.1), (by show (-1) ≤ (I 12 6).toInt ∧ (I 12 6).toInt ≤ 1000000; exact hR.2.2.1), (by show 0 ≤ (I 12 9).toInt ∧ (I 12 9).toInt ≤ 500; exact hR.2.2.2.1), (by show 0 ≤ (I 12 13).toInt ∧ (I 12 13).toInt ≤ 24; exact hR.2.2.2.2)⟩   (by show (I 12 6).toInt ≤ 500; first | omega | decide) _) (cwV 0 hts gX9_atom_X9_step rfl rfl rfl (by decide +kernel) ⟨Nat.le_of_ble_eq_true rfl, Nat.le_of_ble_eq_true rfl⟩) (z_preV (i := 12) hK hW rfl rfl) rfl rfl hl.1 rfl (lv_room (Nat.le_of_ble_eq_true rfl)) dX9_atom_102 ⟨Nat.le_of_ble_eq_true rfl, Nat.le_of_ble_eq_true rfl⟩) (fun u1 H locs hp hW hS => ?_)
        obtain ⟨I20, e9, hI20R, hI20T, fI20⟩ := hp
        rw [e9] at hW
        have f21 := z_fr_sub (L := L_X9_atom_1) z_fr_0 fI20 (by decide)
        have k22 : (I20 12 6).toInt ≤ 501 ∧ ((I20 12 7).toInt = 401 ∨ (I20 12 6).toInt ≤ 500) := hI20T
        refine lv_iload_n hx hb dX9_atom_105 rfl (lv_at hl 0 rfl) ?_
        refine lv_bipush (v := 40) hx hb dX9_atom_106 (by decide) ?_
        refine lv_icmp_ne (tgt := 136) hx hb dX9_atom_108 (by decide) (fun c23 => (by have g := z_f_ne rfl z_l40 c23; omega)) (fun c23 => ?_)
        have g24 := z_f_eq rfl z_l40 c23
        refine lv_aload_n hx hb dX9_atom_111 rfl (lv_at hl 1 rfl) ?_
        refine lv_iload_n hx hb dX9_atom_112 rfl (lv_at hl 2 rfl) ?_
        refine lv_iconst (v := 1) hx hb dX9_atom_113 (by decide) ?_
        refine lv_iadd hx hb dX9_atom_114 ?_
        refine z_topi (v := 2) (by decide) ?_
        refine z_ci hW hS hA (va_runV (As := [.int 2]) (rest := []) ⟨hx, hb, hml, hown, hts⟩ (sx_X9_sum_2 l G ad c I20 ⟨(by show 0 ≤ (I20 12 1).toInt ∧ (I20 12 1).toInt ≤ 500; exact hI20R.1), (by show 0 ≤ (I20 12 5).toInt ∧ (I20 12 5).toInt ≤ 501; exact hI20R.2.1), (by show (-1) ≤ (I20 12 6).toInt ∧ (I20 12 6).toInt ≤ 1000000; exact hI20R.2.2.1), (by show 0 ≤ (I20 12 9).toInt ∧ (I20 12 9).toInt ≤ 500; exact hI20R.2.2.2.1), (by show 0 ≤ (I20 12 13).toInt ∧ (I20 12 13).toInt ≤ 24; exact hI20R.2.2.2.2)⟩ (by show (I20 12 6).toInt ≤ 501 ∧ ((I20 12 7).toInt = 401 ∨ (I20 12 6).toInt ≤ 500); first | omega | decide) _) (cwV 1 hts gX9_atom_X9_sum rfl rfl rfl (by decide +kernel) ⟨Nat.le_of_ble_eq_true rfl, Nat.le_of_ble_eq_true rfl⟩) (z_preV (i := 12) hK hW rfl rfl) rfl rfl hl.1 rfl (lv_room (Nat.le_of_ble_eq_true rfl)) dX9_atom_115 ⟨Nat.le_of_ble_eq_true rfl, Nat.le_of_ble_eq_true rfl⟩) (fun r u1 H locs hp hW hS => ?_)
        obtain ⟨I25, e9, hI25R, hI25T, fI25, hp⟩ := hp
        rw [e9] at hW
        have f26 := z_fr_sub (L := L_X9_atom_1) f21 fI25 (by decide)
        have k27 : (I25 12 6).toInt ≤ 501 ∧ ((I25 12 7).toInt = 401 ∨ (I25 12 6).toInt ≤ 500) := hI25T
        rcases hp with rfl | rfl
        · refine lv_if_eq (tgt := 134) hx hb dX9_atom_118 (by decide) (fun c28 => absurd c28 (by decide)) (fun c28 => ?_)
          refine lv_aload_n hx hb dX9_atom_121 rfl (lv_at hl 1 rfl) ?_
          refine lv_bipush (v := 41) hx hb dX9_atom_122 (by decide) ?_
          refine z_ci hW hS hA (va_runV (As := [.int 41]) (rest := []) ⟨hx, hb, hml, hown, hts⟩ (sx_X9_taken l G ad c I25 ⟨(by show 0 ≤ (I25 12 1).toInt ∧ (I25 12 1).toInt ≤ 500; exact hI25R.1), (by show 0 ≤ (I25 12 5).toInt ∧ (I25 12 5).toInt ≤ 501; exact hI25R.2.1), (by show (-1) ≤ (I25 12 6).toInt ∧ (I25 12 6).toInt ≤ 1000000; exact hI25R.2.2.1), (by show 0 ≤ (I25 12 9).toInt ∧ (I25 12 9).toInt ≤ 500; exact hI25R.2.2.2.1), (by show 0 ≤ (I25 12 13).toInt ∧ (I25 12 13).toInt ≤ 24; exact hI25R.2.2.2.2)⟩ (by show (I25 12 6).toInt ≤ 501 ∧ ((I25 12 7).toInt = 401 ∨ (I25 12 6).toInt ≤ 500); first | omega | decide) 41 (by first | omega | decide) _) (cwV 1 hts gX9_atom_X9_taken rfl rfl rfl (by decide +kernel) ⟨Nat.le_of_ble_eq_true rfl, Nat.le_of_ble_eq_true rfl⟩) (z_preV (i := 12) hK hW rfl rfl) rfl rfl hl.1 rfl (lv_room (Nat.le_of_ble_eq_true rfl)) dX9_atom_124 ⟨Nat.le_of_ble_eq_true rfl, Nat.le_of_ble_eq_true rfl⟩) (fun r u1 H locs hp hW hS => ?_)
          obtain ⟨I29, e9, hI29R, hI29T, fI29, hp⟩ := hp
          rw [e9] at hW
          have f30 := z_fr_sub (L := L_X9_atom_1) f26 fI29 (by decide)
          have k31 : (I29 12 6).toInt ≤ 501 ∧ ((I29 12 7).toInt = 401 ∨ (I29 12 6).toInt ≤ 500) := hI29T
          rcases hp with rfl | rfl
          · refine lv_if_eq (tgt := 134) hx hb dX9_atom_127 (by decide) (fun c32 => absurd c32 (by decide)) (fun c32 => ?_)
            refine lv_iconst (v := 1) hx hb dX9_atom_130 (by decide) ?_
            refine lv_goto (tgt := 135) hx hb dX9_atom_131 (by decide) ?_
            exact z_zret hx hb hr (by decide) hK hS (Nat.le_of_ble_eq_true rfl) (Nat.le_of_ble_eq_true rfl) hlocks dX9_atom_135 (shC c, ad, I29, JX, PC c ad) hW ⟨I29, rfl, ⟨(by show 0 ≤ (I29 12 1).toInt ∧ (I29 12 1).toInt ≤ 500; exact hI29R.1), (by show 0 ≤ (I29 12 5).toInt ∧ (I29 12 5).toInt ≤ 501; exact hI29R.2.1), (by show (-1) ≤ (I29 12 6).toInt ∧ (I29 12 6).toInt ≤ 1000000; exact hI29R.2.2.1), (by show 0 ≤ (I29 12 9).toInt ∧ (I29 12 9).toInt ≤ 500; exact hI29R.2.2.2.1), (by show 0 ≤ (I29 12 13).toInt ∧ (I29 12 13).toInt ≤ 24; exact hI29R.2.2.2.2)⟩, (by show (I29 12 6).toInt ≤ 501 ∧ ((I29 12 7).toInt = 401 ∨ (I29 12 6).toInt ≤ 500); first | omega | decide), f30, Or.inl rfl⟩
          · refine lv_if_eq (tgt := 134) hx hb dX9_atom_127 (by decide) (fun c33 => ?_) (fun c33 => absurd (by decide) c33)
            refine lv_iconst (v := 0) hx hb dX9_atom_134 (by decide) ?_
            exact z_zret hx hb hr (by decide) hK hS (Nat.le_of_ble_eq_true rfl) (Nat.le_of_ble_eq_true rfl) hlocks dX9_atom_135 (shC c, ad, I29, JX, PC c ad) hW ⟨I29, rfl, ⟨(by show 0 ≤ (I29 12 1).toInt ∧ (I29 12 1).toInt ≤ 500; exact hI29R.1), (by show 0 ≤ (I29 12 5).toInt ∧ (I29 12 5).toInt ≤ 501; exact hI29R.2.1), (by show (-1) ≤ (I29 12 6).toInt ∧ (I29 12 6).toInt ≤ 1000000; exact hI29R.2.2.1), (by show 0 ≤ (I29 12 9).toInt ∧ (I29 12 9).toInt ≤ 500; exact hI29R.2.2.2.1), (by show 0 ≤ (I29 12 13).toInt ∧ (I29 12 13).toInt ≤ 24; exact hI29R.2.2.2.2)⟩, (by show (I29 12 6).toInt ≤ 501 ∧ ((I29 12 7).toInt = 401 ∨ (I29 12 6).toInt ≤ 500); first | omega | decide), f30, Or.inr rfl⟩
        · refine lv_if_eq (tgt := 134) hx hb dX9_atom_118 (by decide) (fun c34 => ?_) (fun c34 => absurd (by decide) c34)
          refine lv_iconst (v := 0) hx hb dX9_atom_134 (by decide) ?_
          exact z_zret hx hb hr (by decide) hK hS (Nat.le_of_ble_eq_true rfl) (Nat.le_of_ble_eq_true rfl) hlocks dX9_atom_135 (shC c, ad, I25, JX, PC c ad) hW ⟨I25, rfl, ⟨(by show 0 ≤ (I25 12 1).toInt ∧ (I25 12 1).toInt ≤ 500; exact hI25R.1), (by show 0 ≤ (I25 12 5).toInt ∧ (I25 12 5).toInt ≤ 501; exact hI25R.2.1), (by show (-1) ≤ (I25 12 6).toInt ∧ (I25 12 6).toInt ≤ 1000000; exact hI25R.2.2.1), (by show 0 ≤ (I25 12 9).toInt ∧ (I25 12 9).toInt ≤ 500; exact hI25R.2.2.2.1), (by show 0 ≤ (I25 12 13).toInt ∧ (I25 12 13).toInt ≤ 24; exact hI25R.2.2.2.2)⟩, (by show (I25 12 6).toInt ≤ 501 ∧ ((I25 12 7).toInt = 401 ∨ (I25 12 6).toInt ≤ 500); first | omega | decide), f26, Or.inr rfl⟩
      · have g35 := z_f_ne rfl z_l40 c17
        refine lv_iload_n hx hb dX9_atom_79 rfl (lv_at hl 0 rfl) ?_
        refine lv_sipush (v := 312) hx hb dX9_atom_80 (by decide) ?_
        refine lv_icmp_eq (tgt := 93) hx hb dX9_atom_83 (by decide) (fun c36 => ?_) (fun c36 => ?_)
        · have g37 := z_f_eq rfl z_l312 c36
          refine lv_iload_n hx hb dX9_atom_93 rfl (lv_at hl 2 rfl) ?_
          refine lv_bipush (v := 9) hx hb dX9_atom_94 (by decide) ?_
          refine lv_icmp_lt (tgt := 101) hx hb dX9_atom_96 (by decide) (fun c38 => ?_) (fun c38 => absurd (by decide) c38)
          refine lv_aload_n hx hb dX9_atom_101 rfl (lv_at hl 1 rfl) ?_
          refine z_cv hW hS hA (va_runV (As := []) (rest := []) ⟨hx, hb, hml, hown, hts⟩ (sx_X9_step l G ad c I ⟨(by show 0 ≤ (I 12 1).toInt ∧ (I 12 1).toInt ≤ 500; exact hR.1), (by show 0 ≤ (I 12 5).toInt ∧ (I 12 5).toInt ≤ 501; exact hR.2.1), (by show (-1) ≤ (I 12 6).toInt ∧ (I 12 6).toInt ≤ 1000000; exact hR.2.2.1), (by show 0 ≤ (I 12 9).toInt ∧ (I 12 9).toInt ≤ 500; exact hR.2.2.2.1), (by show 0 ≤ (I 12 13).toInt ∧ (I 12 13).toInt ≤ 24; exact hR.2.2.2.2)⟩   (by show (I 12 6).toInt ≤ 500; first | omega | decide) _) (cwV 0 hts gX9_atom_X9_step rfl rfl rfl (by decide +kernel) ⟨Nat.le_of_ble_eq_true rfl, Nat.le_of_ble_eq_true rfl⟩) (z_preV (i := 12) hK hW rfl rfl) rfl rfl hl.1 rfl (lv_room (Nat.le_of_ble_eq_true rfl)) dX9_atom_102 ⟨Nat.le_of_ble_eq_true rfl, Nat.le_of_ble_eq_true rfl⟩) (fun u1 H locs hp hW hS => ?_)
          obtain ⟨I39, e9, hI39R, hI39T, fI39⟩ := hp
          rw [e9] at hW
          have f40 := z_fr_sub (L := L_X9_atom_1) z_fr_0 fI39 (by decide)
          have k41 : (I39 12 6).toInt ≤ 501 ∧ ((I39 12 7).toInt = 401 ∨ (I39 12 6).toInt ≤ 500) := hI39T
          refine lv_iload_n hx hb dX9_atom_105 rfl (lv_at hl 0 rfl) ?_
          refine lv_bipush (v := 40) hx hb dX9_atom_106 (by decide) ?_
          refine lv_icmp_ne (tgt := 136) hx hb dX9_atom_108 (by decide) (fun c42 => ?_) (fun c42 => (by have g := z_f_eq rfl z_l40 c42; omega))
          have g43 := z_f_ne rfl z_l40 c42
          refine lv_aload_n hx hb dX9_atom_136 rfl (lv_at hl 1 rfl) ?_
          refine lv_bipush (v := 40) hx hb dX9_atom_137 (by decide) ?_
          refine z_ci hW hS hA (va_runV (As := [.int 40]) (rest := []) ⟨hx, hb, hml, hown, hts⟩ (sx_X9_taken l G ad c I39 ⟨(by show 0 ≤ (I39 12 1).toInt ∧ (I39 12 1).toInt ≤ 500; exact hI39R.1), (by show 0 ≤ (I39 12 5).toInt ∧ (I39 12 5).toInt ≤ 501; exact hI39R.2.1), (by show (-1) ≤ (I39 12 6).toInt ∧ (I39 12 6).toInt ≤ 1000000; exact hI39R.2.2.1), (by show 0 ≤ (I39 12 9).toInt ∧ (I39 12 9).toInt ≤ 500; exact hI39R.2.2.2.1), (by show 0 ≤ (I39 12 13).toInt ∧ (I39 12 13).toInt ≤ 24; exact hI39R.2.2.2.2)⟩ (by show (I39 12 6).toInt ≤ 501 ∧ ((I39 12 7).toInt = 401 ∨ (I39 12 6).toInt ≤ 500); first | omega | decide) 40 (by first | omega | decide) _) (cwV 1 hts gX9_atom_X9_taken rfl rfl rfl (by decide +kernel) ⟨Nat.le_of_ble_eq_true rfl, Nat.le_of_ble_eq_true rfl⟩) (z_preV (i := 12) hK hW rfl rfl) rfl rfl hl.1 rfl (lv_room (Nat.le_of_ble_eq_true rfl)) dX9_atom_139 ⟨Nat.le_of_ble_eq_true rfl, Nat.le_of_ble_eq_true rfl⟩) (fun r u1 H locs hp hW hS => ?_)
          obtain ⟨I44, e9, hI44R, hI44T, fI44, hp⟩ := hp
          rw [e9] at hW
          have f45 := z_fr_sub (L := L_X9_atom_1) f40 fI44 (by decide)
          have k46 : (I44 12 6).toInt ≤ 501 ∧ ((I44 12 7).toInt = 401 ∨ (I44 12 6).toInt ≤ 500) := hI44T
          rcases hp with rfl | rfl
          · refine lv_if_eq (tgt := 183) hx hb dX9_atom_142 (by decide) (fun c47 => absurd c47 (by decide)) (fun c47 => ?_)
            refine lv_aload_n hx hb dX9_atom_145 rfl (lv_at hl 1 rfl) ?_
            refine lv_iload_n hx hb dX9_atom_146 rfl (lv_at hl 2 rfl) ?_
            refine lv_iconst (v := 1) hx hb dX9_atom_147 (by decide) ?_
            refine lv_iadd hx hb dX9_atom_148 ?_
            refine z_topi (v := 2) (by decide) ?_
            refine z_ci hW hS hA (va_runV (As := [.int 2]) (rest := []) ⟨hx, hb, hml, hown, hts⟩ (sx_X9_sum_2 l G ad c I44 ⟨(by show 0 ≤ (I44 12 1).toInt ∧ (I44 12 1).toInt ≤ 500; exact hI44R.1), (by show 0 ≤ (I44 12 5).toInt ∧ (I44 12 5).toInt ≤ 501; exact hI44R.2.1), (by show (-1) ≤ (I44 12 6).toInt ∧ (I44 12 6).toInt ≤ 1000000; exact hI44R.2.2.1), (by show 0 ≤ (I44 12 9).toInt ∧ (I44 12 9).toInt ≤ 500; exact hI44R.2.2.2.1), (by show 0 ≤ (I44 12 13).toInt ∧ (I44 12 13).toInt ≤ 24; exact hI44R.2.2.2.2)⟩ (by show (I44 12 6).toInt ≤ 501 ∧ ((I44 12 7).toInt = 401 ∨ (I44 12 6).toInt ≤ 500); first | omega | decide) _) (cwV 1 hts gX9_atom_X9_sum rfl rfl rfl (by decide +kernel) ⟨Nat.le_of_ble_eq_true rfl, Nat.le_of_ble_eq_true rfl⟩) (z_preV (i := 12) hK hW rfl rfl) rfl rfl hl.1 rfl (lv_room (Nat.le_of_ble_eq_true rfl)) dX9_atom_149 ⟨Nat.le_of_ble_eq_true rfl, Nat.le_of_ble_eq_true rfl⟩) (fun r u1 H locs hp hW hS => ?_)
            obtain ⟨I48, e9, hI48R, hI48T, fI48, hp⟩ := hp
            rw [e9] at hW
            have f49 := z_fr_sub (L := L_X9_atom_1) f45 fI48 (by decide)
            have k50 : (I48 12 6).toInt ≤ 501 ∧ ((I48 12 7).toInt = 401 ∨ (I48 12 6).toInt ≤ 500) := hI48T
            rcases hp with rfl | rfl
            · refine lv_if_eq (tgt := 183) hx hb dX9_atom_152 (by decide) (fun c51 => absurd c51 (by decide)) (fun c51 => ?_)
              refine lv_aload_n hx hb dX9_atom_155 rfl (lv_at hl 1 rfl) ?_
              refine lv_bipush (v := 44) hx hb dX9_atom_156 (by decide) ?_
              refine z_ci hW hS hA (va_runV (As := [.int 44]) (rest := []) ⟨hx, hb, hml, hown, hts⟩ (sx_X9_taken l G ad c I48 ⟨(by show 0 ≤ (I48 12 1).toInt ∧ (I48 12 1).toInt ≤ 500; exact hI48R.1), (by show 0 ≤ (I48 12 5).toInt ∧ (I48 12 5).toInt ≤ 501; exact hI48R.2.1), (by show (-1) ≤ (I48 12 6).toInt ∧ (I48 12 6).toInt ≤ 1000000; exact hI48R.2.2.1), (by show 0 ≤ (I48 12 9).toInt ∧ (I48 12 9).toInt ≤ 500; exact hI48R.2.2.2.1), (by show 0 ≤ (I48 12 13).toInt ∧ (I48 12 13).toInt ≤ 24; exact hI48R.2.2.2.2)⟩ (by show (I48 12 6).toInt ≤ 501 ∧ ((I48 12 7).toInt = 401 ∨ (I48 12 6).toInt ≤ 500); first | omega | decide) 44 (by first | omega | decide) _) (cwV 1 hts gX9_atom_X9_taken rfl rfl rfl (by decide +kernel) ⟨Nat.le_of_ble_eq_true rfl, Nat.le_of_ble_eq_true rfl⟩) (z_preV (i := 12) hK hW rfl rfl) rfl rfl hl.1 rfl (lv_room (Nat.le_of_ble_eq_true rfl)) dX9_atom_158 ⟨Nat.le_of_ble_eq_true rfl, Nat.le_of_ble_eq_true rfl⟩) (fun r u1 H locs hp hW hS => ?_)
              obtain ⟨I52, e9, hI52R, hI52T, fI52, hp⟩ := hp
              rw [e9] at hW
              have f53 := z_fr_sub (L := L_X9_atom_1) f49 fI52 (by decide)
              have k54 : (I52 12 6).toInt ≤ 501 ∧ ((I52 12 7).toInt = 401 ∨ (I52 12 6).toInt ≤ 500) := hI52T
              rcases hp with rfl | rfl
              · refine lv_if_eq (tgt := 183) hx hb dX9_atom_161 (by decide) (fun c55 => absurd c55 (by decide)) (fun c55 => ?_)
                refine lv_aload_n hx hb dX9_atom_164 rfl (lv_at hl 1 rfl) ?_
                refine lv_iload_n hx hb dX9_atom_165 rfl (lv_at hl 2 rfl) ?_
                refine lv_iconst (v := 1) hx hb dX9_atom_166 (by decide) ?_
                refine lv_iadd hx hb dX9_atom_167 ?_
                refine z_topi (v := 2) (by decide) ?_
                refine z_ci hW hS hA (va_runV (As := [.int 2]) (rest := []) ⟨hx, hb, hml, hown, hts⟩ (sx_X9_sum_2 l G ad c I52 ⟨(by show 0 ≤ (I52 12 1).toInt ∧ (I52 12 1).toInt ≤ 500; exact hI52R.1), (by show 0 ≤ (I52 12 5).toInt ∧ (I52 12 5).toInt ≤ 501; exact hI52R.2.1), (by show (-1) ≤ (I52 12 6).toInt ∧ (I52 12 6).toInt ≤ 1000000; exact hI52R.2.2.1), (by show 0 ≤ (I52 12 9).toInt ∧ (I52 12 9).toInt ≤ 500; exact hI52R.2.2.2.1), (by show 0 ≤ (I52 12 13).toInt ∧ (I52 12 13).toInt ≤ 24; exact hI52R.2.2.2.2)⟩ (by show (I52 12 6).toInt ≤ 501 ∧ ((I52 12 7).toInt = 401 ∨ (I52 12 6).toInt ≤ 500); first | omega | decide) _) (cwV 1 hts gX9_atom_X9_sum rfl rfl rfl (by decide +kernel) ⟨Nat.le_of_ble_eq_true rfl, Nat.le_of_ble_eq_true rfl⟩) (z_preV (i := 12) hK hW rfl rfl) rfl rfl hl.1 rfl (lv_room (Nat.le_of_ble_eq_true rfl)) dX9_atom_168 ⟨Nat.le_of_ble_eq_true rfl, Nat.le_of_ble_eq_true rfl⟩) (fun r u1 H locs hp hW hS => ?_)
                obtain ⟨I56, e9, hI56R, hI56T, fI56, hp⟩ := hp
                rw [e9] at hW
                have f57 := z_fr_sub (L := L_X9_atom_1) f53 fI56 (by decide)
                have k58 : (I56 12 6).toInt ≤ 501 ∧ ((I56 12 7).toInt = 401 ∨ (I56 12 6).toInt ≤ 500) := hI56T
                rcases hp with rfl | rfl
                · refine lv_if_eq (tgt := 183) hx hb dX9_atom_171 (by decide) (fun c59 => absurd c59 (by decide)) (fun c59 => ?_)
                  refine lv_aload_n hx hb dX9_atom_174 rfl (lv_at hl 1 rfl) ?_
                  refine lv_bipush (v := 41) hx hb dX9_atom_175 (by decide) ?_
                  refine z_ci hW hS hA (va_runV (As := [.int 41]) (rest := []) ⟨hx, hb, hml, hown, hts⟩ (sx_X9_taken l G ad c I56 ⟨(by show 0 ≤ (I56 12 1).toInt ∧ (I56 12 1).toInt ≤ 500; exact hI56R.1), (by show 0 ≤ (I56 12 5).toInt ∧ (I56 12 5).toInt ≤ 501; exact hI56R.2.1), (by show (-1) ≤ (I56 12 6).toInt ∧ (I56 12 6).toInt ≤ 1000000; exact hI56R.2.2.1), (by show 0 ≤ (I56 12 9).toInt ∧ (I56 12 9).toInt ≤ 500; exact hI56R.2.2.2.1), (by show 0 ≤ (I56 12 13).toInt ∧ (I56 12 13).toInt ≤ 24; exact hI56R.2.2.2.2)⟩ (by show (I56 12 6).toInt ≤ 501 ∧ ((I56 12 7).toInt = 401 ∨ (I56 12 6).toInt ≤ 500); first | omega | decide) 41 (by first | omega | decide) _) (cwV 1 hts gX9_atom_X9_taken rfl rfl rfl (by decide +kernel) ⟨Nat.le_of_ble_eq_true rfl, Nat.le_of_ble_eq_true rfl⟩) (z_preV (i := 12) hK hW rfl rfl) rfl rfl hl.1 rfl (lv_room (Nat.le_of_ble_eq_true rfl)) dX9_atom_177 ⟨Nat.le_of_ble_eq_true rfl, Nat.le_of_ble_eq_true rfl⟩) (fun r u1 H locs hp hW hS => ?_)
                  obtain ⟨I60, e9, hI60R, hI60T, fI60, hp⟩ := hp
                  rw [e9] at hW
                  have f61 := z_fr_sub (L := L_X9_atom_1) f57 fI60 (by decide)
                  have k62 : (I60 12 6).toInt ≤ 501 ∧ ((I60 12 7).toInt = 401 ∨ (I60 12 6).toInt ≤ 500) := hI60T
                  rcases hp with rfl | rfl
                  · refine lv_if_ne (tgt := 185) hx hb dX9_atom_180 (by decide) (fun c63 => ?_) (fun c63 => absurd c63 (by decide))
                    refine lv_aload_n hx hb dX9_atom_185 rfl (lv_at hl 1 rfl) ?_
                    refine lv_iload_n hx hb dX9_atom_186 rfl (lv_at hl 0 rfl) ?_
                    refine lv_sipush (v := 312) hx hb dX9_atom_187 (by decide) ?_
                    refine lv_icmp_ne (tgt := 198) hx hb dX9_atom_190 (by decide) (fun c64 => (by have g := z_f_ne rfl z_l312 c64; omega)) (fun c64 => ?_)
                    have g65 := z_f_eq rfl z_l312 c64
                    refine lv_bipush (v := (-5)) hx hb dX9_atom_193 (by decide) ?_
                    refine lv_goto (tgt := 200) hx hb dX9_atom_195 (by decide) ?_
                    refine z_cv hW hS hA (va_runV (As := [.int (-5)]) (rest := []) ⟨hx, hb, hml, hown, hts⟩ (sx_X9_emit l G ad c I60 ⟨(by show 0 ≤ (I60 12 1).toInt ∧ (I60 12 1).toInt ≤ 500; exact hI60R.1), (by show 0 ≤ (I60 12 5).toInt ∧ (I60 12 5).toInt ≤ 501; exact hI60R.2.1), (by show (-1) ≤ (I60 12 6).toInt ∧ (I60 12 6).toInt ≤ 1000000; exact hI60R.2.2.1), (by show 0 ≤ (I60 12 9).toInt ∧ (I60 12 9).toInt ≤ 500; exact hI60R.2.2.2.1), (by show 0 ≤ (I60 12 13).toInt ∧ (I60 12 13).toInt ≤ 24; exact hI60R.2.2.2.2)⟩ (-5) _) (cwV 1 hts gX9_atom_X9_emit rfl rfl rfl (by decide +kernel) ⟨Nat.le_of_ble_eq_true rfl, Nat.le_of_ble_eq_true rfl⟩) (z_preV (i := 12) hK hW rfl rfl) rfl rfl hl.1 rfl (lv_room (Nat.le_of_ble_eq_true rfl)) dX9_atom_200 ⟨Nat.le_of_ble_eq_true rfl, Nat.le_of_ble_eq_true rfl⟩) (fun u1 H locs hp hW hS => ?_)
                    obtain ⟨I66, e9, hI66R, fI66⟩ := hp
                    rw [e9] at hW
                    have f67 := z_fr_sub (L := L_X9_atom_1) f61 fI66 (by decide)
                    have k68 : (I66 12 6).toInt ≤ 501 ∧ ((I66 12 7).toInt = 401 ∨ (I66 12 6).toInt ≤ 500) := (by have q0 : (I66 12 6) = (I60 12 6) := (by rw [fI66 12 6 (by decide)]); have q1 : (I66 12 7) = (I60 12 7) := (by rw [fI66 12 7 (by decide)]); show (I66 12 6).toInt ≤ 501 ∧ ((I66 12 7).toInt = 401 ∨ (I66 12 6).toInt ≤ 500); rw [q0, q1]; first | omega | decide)
                    refine lv_iconst (v := 1) hx hb dX9_atom_203 (by decide) ?_
                    exact z_zret hx hb hr (by decide) hK hS (Nat.le_of_ble_eq_true rfl) (Nat.le_of_ble_eq_true rfl) hlocks dX9_atom_204 (shC c, ad, I66, JX, PC c ad) hW ⟨I66, rfl, ⟨(by show 0 ≤ (I66 12 1).toInt ∧ (I66 12 1).toInt ≤ 500; exact hI66R.1), (by show 0 ≤ (I66 12 5).toInt ∧ (I66 12 5).toInt ≤ 501; exact hI66R.2.1), (by show (-1) ≤ (I66 12 6).toInt ∧ (I66 12 6).toInt ≤ 1000000; exact hI66R.2.2.1), (by show 0 ≤ (I66 12 9).toInt ∧ (I66 12 9).toInt ≤ 500; exact hI66R.2.2.2.1), (by show 0 ≤ (I66 12 13).toInt ∧ (I66 12 13).toInt ≤ 24; exact hI66R.2.2.2.2)⟩, (by show (I66 12 6).toInt ≤ 501 ∧ ((I66 12 7).toInt = 401 ∨ (I66 12 6).toInt ≤ 500); first | omega | decide), f67, Or.inl rfl⟩
                  · refine lv_if_ne (tgt := 185) hx hb dX9_atom_180 (by decide) (fun c69 => absurd (by decide) c69) (fun c69 => ?_)
                    refine lv_iconst (v := 0) hx hb dX9_atom_183 (by decide) ?_
                    exact z_zret hx hb hr (by decide) hK hS (Nat.le_of_ble_eq_true rfl) (Nat.le_of_ble_eq_true rfl) hlocks dX9_atom_184 (shC c, ad, I60, JX, PC c ad) hW ⟨I60, rfl, ⟨(by show 0 ≤ (I60 12 1).toInt ∧ (I60 12 1).toInt ≤ 500; exact hI60R.1), (by show 0 ≤ (I60 12 5).toInt ∧ (I60 12 5).toInt ≤ 501; exact hI60R.2.1), (by show (-1) ≤ (I60 12 6).toInt ∧ (I60 12 6).toInt ≤ 1000000; exact hI60R.2.2.1), (by show 0 ≤ (I60 12 9).toInt ∧ (I60 12 9).toInt ≤ 500; exact hI60R.2.2.2.1), (by show 0 ≤ (I60 12 13).toInt ∧ (I60 12 13).toInt ≤ 24; exact hI60R.2.2.2.2)⟩, (by show (I60 12 6).toInt ≤ 501 ∧ ((I60 12 7).toInt = 401 ∨ (I60 12 6).toInt ≤ 500); first | omega | decide), f61, Or.inr rfl⟩
                · refine lv_if_eq (tgt := 183) hx hb dX9_atom_171 (by decide) (fun c70 => ?_) (fun c70 => absurd (by decide) c70)
                  refine lv_iconst (v := 0) hx hb dX9_atom_183 (by decide) ?_
                  exact z_zret hx hb hr (by decide) hK hS (Nat.le_of_ble_eq_true rfl) (Nat.le_of_ble_eq_true rfl) hlocks dX9_atom_184 (shC c, ad, I56, JX, PC c ad) hW ⟨I56, rfl, ⟨(by show 0 ≤ (I56 12 1).toInt ∧ (I56 12 1).toInt ≤ 500; exact hI56R.1), (by show 0 ≤ (I56 12 5).toInt ∧ (I56 12 5).toInt ≤ 501; exact hI56R.2.1), (by show (-1) ≤ (I56 12 6).toInt ∧ (I56 12 6).toInt ≤ 1000000; exact hI56R.2.2.1), (by show 0 ≤ (I56 12 9).toInt ∧ (I56 12 9).toInt ≤ 500; exact hI56R.2.2.2.1), (by show 0 ≤ (I56 12 13).toInt ∧ (I56 12 13).toInt ≤ 24; exact hI56R.2.2.2.2)⟩, (by show (I56 12 6).toInt ≤ 501 ∧ ((I56 12 7).toInt = 401 ∨ (I56 12 6).toInt ≤ 500); first | omega | decide), f57, Or.inr rfl⟩
              · refine lv_if_eq (tgt := 183) hx hb dX9_atom_161 (by decide) (fun c71 => ?_) (fun c71 => absurd (by decide) c71)
                refine lv_iconst (v := 0) hx hb dX9_atom_183 (by decide) ?_
                exact z_zret hx hb hr (by decide) hK hS (Nat.le_of_ble_eq_true rfl) (Nat.le_of_ble_eq_true rfl) hlocks dX9_atom_184 (shC c, ad, I52, JX, PC c ad) hW ⟨I52, rfl, ⟨(by show 0 ≤ (I52 12 1).toInt ∧ (I52 12 1).toInt ≤ 500; exact hI52R.1), (by show 0 ≤ (I52 12 5).toInt ∧ (I52 12 5).toInt ≤ 501; exact hI52R.2.1), (by show (-1) ≤ (I52 12 6).toInt ∧ (I52 12 6).toInt ≤ 1000000; exact hI52R.2.2.1), (by show 0 ≤ (I52 12 9).toInt ∧ (I52 12 9).toInt ≤ 500; exact hI52R.2.2.2.1), (by show 0 ≤ (I52 12 13).toInt ∧ (I52 12 13).toInt ≤ 24; exact hI52R.2.2.2.2)⟩, (by show (I52 12 6).toInt ≤ 501 ∧ ((I52 12 7).toInt = 401 ∨ (I52 12 6).toInt ≤ 500); first | omega | decide), f53, Or.inr rfl⟩
            · refine lv_if_eq (tgt := 183) hx hb dX9_atom_152 (by decide) (fun c72 => ?_) (fun c72 => absurd (by decide) c72)
              refine lv_iconst (v := 0) hx hb dX9_atom_183 (by decide) ?_
              exact z_zret hx hb hr (by decide) hK hS (Nat.le_of_ble_eq_true rfl) (Nat.le_of_ble_eq_true rfl) hlocks dX9_atom_184 (shC c, ad, I48, JX, PC c ad) hW ⟨I48, rfl, ⟨(by show 0 ≤ (I48 12 1).toInt ∧ (I48 12 1).toInt ≤ 500; exact hI48R.1), (by show 0 ≤ (I48 12 5).toInt ∧ (I48 12 5).toInt ≤ 501; exact hI48R.2.1), (by show (-1) ≤ (I48 12 6).toInt ∧ (I48 12 6).toInt ≤ 1000000; exact hI48R.2.2.1), (by show 0 ≤ (I48 12 9).toInt ∧ (I48 12 9).toInt ≤ 500; exact hI48R.2.2.2.1), (by show 0 ≤ (I48 12 13).toInt ∧ (I48 12 13).toInt ≤ 24; exact hI48R.2.2.2.2)⟩, (by show (I48 12 6).toInt ≤ 501 ∧ ((I48 12 7).toInt = 401 ∨ (I48 12 6).toInt ≤ 500); first | omega | decide), f49, Or.inr rfl⟩
          · refine lv_if_eq (tgt := 183) hx hb dX9_atom_142 (by decide) (fun c73 => ?_) (fun c73 => absurd (by decide) c73)
            refine lv_iconst (v := 0) hx hb dX9_atom_183 (by decide) ?_
            exact z_zret hx hb hr (by decide) hK hS (Nat.le_of_ble_eq_true rfl) (Nat.le_of_ble_eq_true rfl) hlocks dX9_atom_184 (shC c, ad, I44, JX, PC c ad) hW ⟨I44, rfl, ⟨(by show 0 ≤ (I44 12 1).toInt ∧ (I44 12 1).toInt ≤ 500; exact hI44R.1), (by show 0 ≤ (I44 12 5).toInt ∧ (I44 12 5).toInt ≤ 501; exact hI44R.2.1), (by show (-1) ≤ (I44 12 6).toInt ∧ (I44 12 6).toInt ≤ 1000000; exact hI44R.2.2.1), (by show 0 ≤ (I44 12 9).toInt ∧ (I44 12 9).toInt ≤ 500; exact hI44R.2.2.2.1), (by show 0 ≤ (I44 12 13).toInt ∧ (I44 12 13).toInt ≤ 24; exact hI44R.2.2.2.2)⟩, (by show (I44 12 6).toInt ≤ 501 ∧ ((I44 12 7).toInt = 401 ∨ (I44 12 6).toInt ≤ 500); first | omega | decide), f45, Or.inr rfl⟩
        · have g74 := z_f_ne rfl z_l312 c36
          refine lv_iload_n hx hb dX9_atom_86 rfl (lv_at hl 0 rfl) ?_
          refine lv_sipush (v := 313) hx hb dX9_atom_87 (by decide) ?_
          refine lv_icmp_ne (tgt := 99) hx hb dX9_atom_90 (by decide) (fun c75 => ?_) (fun c75 => ?_)
          · have g76 := z_f_ne rfl z_l313 c75
            refine lv_iconst (v := 0) hx hb dX9_atom_99 (by decide) ?_
            exact z_zret hx hb hr (by decide) hK hS (Nat.le_of_ble_eq_true rfl) (Nat.le_of_ble_eq_true rfl) hlocks dX9_atom_100 (shC c, ad, I, JX, PC c ad) hW ⟨I, rfl, ⟨(by show 0 ≤ (I 12 1).toInt ∧ (I 12 1).toInt ≤ 500; exact hR.1), (by show 0 ≤ (I 12 5).toInt ∧ (I 12 5).toInt ≤ 501; exact hR.2.1), (by show (-1) ≤ (I 12 6).toInt ∧ (I 12 6).toInt ≤ 1000000; exact hR.2.2.1), (by show 0 ≤ (I 12 9).toInt ∧ (I 12 9).toInt ≤ 500; exact hR.2.2.2.1), (by show 0 ≤ (I 12 13).toInt ∧ (I 12 13).toInt ≤ 24; exact hR.2.2.2.2)⟩, (by show (I 12 6).toInt ≤ 501 ∧ ((I 12 7).toInt = 401 ∨ (I 12 6).toInt ≤ 500); first | omega | decide), z_fr_0, Or.inr rfl⟩
          · have g77 := z_f_eq rfl z_l313 c75
            refine lv_iload_n hx hb dX9_atom_93 rfl (lv_at hl 2 rfl) ?_
            refine lv_bipush (v := 9) hx hb dX9_atom_94 (by decide) ?_
            refine lv_icmp_lt (tgt := 101) hx hb dX9_atom_96 (by decide) (fun c78 => ?_) (fun c78 => absurd (by decide) c78)
            refine lv_aload_n hx hb dX9_atom_101 rfl (lv_at hl 1 rfl) ?_
            refine z_cv hW hS hA (va_runV (As := []) (rest := []) ⟨hx, hb, hml, hown, hts⟩ (sx_X9_step l G ad c I ⟨(by show 0 ≤ (I 12 1).toInt ∧ (I 12 1).toInt ≤ 500; exact hR.1), (by show 0 ≤ (I 12 5).toInt ∧ (I 12 5).toInt ≤ 501; exact hR.2.1), (by show (-1) ≤ (I 12 6).toInt ∧ (I 12 6).toInt ≤ 1000000; exact hR.2.2.1), (by show 0 ≤ (I 12 9).toInt ∧ (I 12 9).toInt ≤ 500; exact hR.2.2.2.1), (by show 0 ≤ (I 12 13).toInt ∧ (I 12 13).toInt ≤ 24; exact hR.2.2.2.2)⟩   (by show (I 12 6).toInt ≤ 500; first | omega | decide) _) (cwV 0 hts gX9_atom_X9_step rfl rfl rfl (by decide +kernel) ⟨Nat.le_of_ble_eq_true rfl, Nat.le_of_ble_eq_true rfl⟩) (z_preV (i := 12) hK hW rfl rfl) rfl rfl hl.1 rfl (lv_room (Nat.le_of_ble_eq_true rfl)) dX9_atom_102 ⟨Nat.le_of_ble_eq_true rfl, Nat.le_of_ble_eq_true rfl⟩) (fun u1 H locs hp hW hS => ?_)
            obtain ⟨I79, e9, hI79R, hI79T, fI79⟩ := hp
            rw [e9] at hW
            have f80 := z_fr_sub (L := L_X9_atom_1) z_fr_0 fI79 (by decide)
            have k81 : (I79 12 6).toInt ≤ 501 ∧ ((I79 12 7).toInt = 401 ∨ (I79 12 6).toInt ≤ 500) := hI79T
            refine lv_iload_n hx hb dX9_atom_105 rfl (lv_at hl 0 rfl) ?_
            refine lv_bipush (v := 40) hx hb dX9_atom_106 (by decide) ?_
            refine lv_icmp_ne (tgt := 136) hx hb dX9_atom_108 (by decide) (fun c82 => ?_) (fun c82 => (by have g := z_f_eq rfl z_l40 c82; omega))
            have g83 := z_f_ne rfl z_l40 c82
            refine lv_aload_n hx hb dX9_atom_136 rfl (lv_at hl 1 rfl) ?_
            refine lv_bipush (v := 40) hx hb dX9_atom_137 (by decide) ?_
            refine z_ci hW hS hA (va_runV (As := [.int 40]) (rest := []) ⟨hx, hb, hml, hown, hts⟩ (sx_X9_taken l G ad c I79 ⟨(by show 0 ≤ (I79 12 1).toInt ∧ (I79 12 1).toInt ≤ 500; exact hI79R.1), (by show 0 ≤ (I79 12 5).toInt ∧ (I79 12 5).toInt ≤ 501; exact hI79R.2.1), (by show (-1) ≤ (I79 12 6).toInt ∧ (I79 12 6).toInt ≤ 1000000; exact hI79R.2.2.1), (by show 0 ≤ (I79 12 9).toInt ∧ (I79 12 9).toInt ≤ 500; exact hI79R.2.2.2.1), (by show 0 ≤ (I79 12 13).toInt ∧ (I79 12 13).toInt ≤ 24; exact hI79R.2.2.2.2)⟩ (by show (I79 12 6).toInt ≤ 501 ∧ ((I79 12 7).toInt = 401 ∨ (I79 12 6).toInt ≤ 500); first | omega | decide) 40 (by first | omega | decide) _) (cwV 1 hts gX9_atom_X9_taken rfl rfl rfl (by decide +kernel) ⟨Nat.le_of_ble_eq_true rfl, Nat.le_of_ble_eq_true rfl⟩) (z_preV (i := 12) hK hW rfl rfl) rfl rfl hl.1 rfl (lv_room (Nat.le_of_ble_eq_true rfl)) dX9_atom_139 ⟨Nat.le_of_ble_eq_true rfl, Nat.le_of_ble_eq_true rfl⟩) (fun r u1 H locs hp hW hS => ?_)
            obtain ⟨I84, e9, hI84R, hI84T, fI84, hp⟩ := hp
            rw [e9] at hW
            have f85 := z_fr_sub (L := L_X9_atom_1) f80 fI84 (by decide)
            have k86 : (I84 12 6).toInt ≤ 501 ∧ ((I84 12 7).toInt = 401 ∨ (I84 12 6).toInt ≤ 500) := hI84T
            rcases hp with rfl | rfl
            · refine lv_if_eq (tgt := 183) hx hb dX9_atom_142 (by decide) (fun c87 => absurd c87 (by decide)) (fun c87 => ?_)
              refine lv_aload_n hx hb dX9_atom_145 rfl (lv_at hl 1 rfl) ?_
              refine lv_iload_n hx hb dX9_atom_146 rfl (lv_at hl 2 rfl) ?_
              refine lv_iconst (v := 1) hx hb dX9_atom_147 (by decide) ?_
              refine lv_iadd hx hb dX9_atom_148 ?_
              refine z_topi (v := 2) (by decide) ?_
              refine z_ci hW hS hA (va_runV (As := [.int 2]) (rest := []) ⟨hx, hb, hml, hown, hts⟩ (sx_X9_sum_2 l G ad c I84 ⟨(by show 0 ≤ (I84 12 1).toInt ∧ (I84 12 1).toInt ≤ 500; exact hI84R.1), (by show 0 ≤ (I84 12 5).toInt ∧ (I84 12 5).toInt ≤ 501; exact hI84R.2.1), (by show (-1) ≤ (I84 12 6).toInt ∧ (I84 12 6).toInt ≤ 1000000; exact hI84R.2.2.1), (by show 0 ≤ (I84 12 9).toInt ∧ (I84 12 9).toInt ≤ 500; exact hI84R.2.2.2.1), (by show 0 ≤ (I84 12 13).toInt ∧ (I84 12 13).toInt ≤ 24; exact hI84R.2.2.2.2)⟩ (by show (I84 12 6).toInt ≤ 501 ∧ ((I84 12 7).toInt = 401 ∨ (I84 12 6).toInt ≤ 500); first | omega | decide) _) (cwV 1 hts gX9_atom_X9_sum rfl rfl rfl (by decide +kernel) ⟨Nat.le_of_ble_eq_true rfl, Nat.le_of_ble_eq_true rfl⟩) (z_preV (i := 12) hK hW rfl rfl) rfl rfl hl.1 rfl (lv_room (Nat.le_of_ble_eq_true rfl)) dX9_atom_149 ⟨Nat.le_of_ble_eq_true rfl, Nat.le_of_ble_eq_true rfl⟩) (fun r u1 H locs hp hW hS => ?_)
              obtain ⟨I88, e9, hI88R, hI88T, fI88, hp⟩ := hp
              rw [e9] at hW
              have f89 := z_fr_sub (L := L_X9_atom_1) f85 fI88 (by decide)
              have k90 : (I88 12 6).toInt ≤ 501 ∧ ((I88 12 7).toInt = 401 ∨ (I88 12 6).toInt ≤ 500) := hI88T
              rcases hp with rfl | rfl
              · refine lv_if_eq (tgt := 183) hx hb dX9_atom_152 (by decide) (fun c91 => absurd c91 (by decide)) (fun c91 => ?_)
                refine lv_aload_n hx hb dX9_atom_155 rfl (lv_at hl 1 rfl) ?_
                refine lv_bipush (v := 44) hx hb dX9_atom_156 (by decide) ?_
                refine z_ci hW hS hA (va_runV (As := [.int 44]) (rest := []) ⟨hx, hb, hml, hown, hts⟩ (sx_X9_taken l G ad c I88 ⟨(by show 0 ≤ (I88 12 1).toInt ∧ (I88 12 1).toInt ≤ 500; exact hI88R.1), (by show 0 ≤ (I88 12 5).toInt ∧ (I88 12 5).toInt ≤ 501; exact hI88R.2.1), (by show (-1) ≤ (I88 12 6).toInt ∧ (I88 12 6).toInt ≤ 1000000; exact hI88R.2.2.1), (by show 0 ≤ (I88 12 9).toInt ∧ (I88 12 9).toInt ≤ 500; exact hI88R.2.2.2.1), (by show 0 ≤ (I88 12 13).toInt ∧ (I88 12 13).toInt ≤ 24; exact hI88R.2.2.2.2)⟩ (by show (I88 12 6).toInt ≤ 501 ∧ ((I88 12 7).toInt = 401 ∨ (I88 12 6).toInt ≤ 500); first | omega | decide) 44 (by first | omega | decide) _) (cwV 1 hts gX9_atom_X9_taken rfl rfl rfl (by decide +kernel) ⟨Nat.le_of_ble_eq_true rfl, Nat.le_of_ble_eq_true rfl⟩) (z_preV (i := 12) hK hW rfl rfl) rfl rfl hl.1 rfl (lv_room (Nat.le_of_ble_eq_true rfl)) dX9_atom_158 ⟨Nat.le_of_ble_eq_true rfl, Nat.le_of_ble_eq_true rfl⟩) (fun r u1 H locs hp hW hS => ?_)
                obtain ⟨I92, e9, hI92R, hI92T, fI92, hp⟩ := hp
                rw [e9] at hW
                have f93 := z_fr_sub (L := L_X9_atom_1) f89 fI92 (by decide)
                have k94 : (I92 12 6).toInt ≤ 501 ∧ ((I92 12 7).toInt = 401 ∨ (I92 12 6).toInt ≤ 500) := hI92T
                rcases hp with rfl | rfl
                · refine lv_if_eq (tgt := 183) hx hb dX9_atom_161 (by decide) (fun c95 => absurd c95 (by decide)) (fun c95 => ?_)
                  refine lv_aload_n hx hb dX9_atom_164 rfl (lv_at hl 1 rfl) ?_
                  refine lv_iload_n hx hb dX9_atom_165 rfl (lv_at hl 2 rfl) ?_
                  refine lv_iconst (v := 1) hx hb dX9_atom_166 (by decide) ?_
                  refine lv_iadd hx hb dX9_atom_167 ?_
                  refine z_topi (v := 2) (by decide) ?_
                  refine z_ci hW hS hA (va_runV (As := [.int 2]) (rest := []) ⟨hx, hb, hml, hown, hts⟩ (sx_X9_sum_2 l G ad c I92 ⟨(by show 0 ≤ (I92 12 1).toInt ∧ (I92 12 1).toInt ≤ 500; exact hI92R.1), (by show 0 ≤ (I92 12 5).toInt ∧ (I92 12 5).toInt ≤ 501; exact hI92R.2.1), (by show (-1) ≤ (I92 12 6).toInt ∧ (I92 12 6).toInt ≤ 1000000; exact hI92R.2.2.1), (by show 0 ≤ (I92 12 9).toInt ∧ (I92 12 9).toInt ≤ 500; exact hI92R.2.2.2.1), (by show 0 ≤ (I92 12 13).toInt ∧ (I92 12 13).toInt ≤ 24; exact hI92R.2.2.2.2)⟩ (by show (I92 12 6).toInt ≤ 501 ∧ ((I92 12 7).toInt = 401 ∨ (I92 12 6).toInt ≤ 500); first | omega | decide) _) (cwV 1 hts gX9_atom_X9_sum rfl rfl rfl (by decide +kernel) ⟨Nat.le_of_ble_eq_true rfl, Nat.le_of_ble_eq_true rfl⟩) (z_preV (i := 12) hK hW rfl rfl) rfl rfl hl.1 rfl (lv_room (Nat.le_of_ble_eq_true rfl)) dX9_atom_168 ⟨Nat.le_of_ble_eq_true rfl, Nat.le_of_ble_eq_true rfl⟩) (fun r u1 H locs hp hW hS => ?_)
                  obtain ⟨I96, e9, hI96R, hI96T, fI96, hp⟩ := hp
                  rw [e9] at hW
                  have f97 := z_fr_sub (L := L_X9_atom_1) f93 fI96 (by decide)
                  have k98 : (I96 12 6).toInt ≤ 501 ∧ ((I96 12 7).toInt = 401 ∨ (I96 12 6).toInt ≤ 500) := hI96T
                  rcases hp with rfl | rfl
                  · refine lv_if_eq (tgt := 183) hx hb dX9_atom_171 (by decide) (fun c99 => absurd c99 (by decide)) (fun c99 => ?_)
                    refine lv_aload_n hx hb dX9_atom_174 rfl (lv_at hl 1 rfl) ?_
                    refine lv_bipush (v := 41) hx hb dX9_atom_175 (by decide) ?_
                    refine z_ci hW hS hA (va_runV (As := [.int 41]) (rest := []) ⟨hx, hb, hml, hown, hts⟩ (sx_X9_taken l G ad c I96 ⟨(by show 0 ≤ (I96 12 1).toInt ∧ (I96 12 1).toInt ≤ 500; exact hI96R.1), (by show 0 ≤ (I96 12 5).toInt ∧ (I96 12 5).toInt ≤ 501; exact hI96R.2.1), (by show (-1) ≤ (I96 12 6).toInt ∧ (I96 12 6).toInt ≤ 1000000; exact hI96R.2.2.1), (by show 0 ≤ (I96 12 9).toInt ∧ (I96 12 9).toInt ≤ 500; exact hI96R.2.2.2.1), (by show 0 ≤ (I96 12 13).toInt ∧ (I96 12 13).toInt ≤ 24; exact hI96R.2.2.2.2)⟩ (by show (I96 12 6).toInt ≤ 501 ∧ ((I96 12 7).toInt = 401 ∨ (I96 12 6).toInt ≤ 500); first | omega | decide) 41 (by first | omega | decide) _) (cwV 1 hts gX9_atom_X9_taken rfl rfl rfl (by decide +kernel) ⟨Nat.le_of_ble_eq_true rfl, Nat.le_of_ble_eq_true rfl⟩) (z_preV (i := 12) hK hW rfl rfl) rfl rfl hl.1 rfl (lv_room (Nat.le_of_ble_eq_true rfl)) dX9_atom_177 ⟨Nat.le_of_ble_eq_true rfl, Nat.le_of_ble_eq_true rfl⟩) (fun r u1 H locs hp hW hS => ?_)
                    obtain ⟨I100, e9, hI100R, hI100T, fI100, hp⟩ := hp
                    rw [e9] at hW
                    have f101 := z_fr_sub (L := L_X9_atom_1) f97 fI100 (by decide)
                    have k102 : (I100 12 6).toInt ≤ 501 ∧ ((I100 12 7).toInt = 401 ∨ (I100 12 6).toInt ≤ 500) := hI100T
                    rcases hp with rfl | rfl
                    · refine lv_if_ne (tgt := 185) hx hb dX9_atom_180 (by decide) (fun c103 => ?_) (fun c103 => absurd c103 (by decide))
                      refine lv_aload_n hx hb dX9_atom_185 rfl (lv_at hl 1 rfl) ?_
                      refine lv_iload_n hx hb dX9_atom_186 rfl (lv_at hl 0 rfl) ?_
                      refine lv_sipush (v := 312) hx hb dX9_atom_187 (by decide) ?_
                      refine lv_icmp_ne (tgt := 198) hx hb dX9_atom_190 (by decide) (fun c104 => ?_) (fun c104 => (by have g := z_f_eq rfl z_l312 c104; omega))
                      have g105 := z_f_ne rfl z_l312 c104
                      refine lv_bipush (v := (-6)) hx hb dX9_atom_198 (by decide) ?_
                      refine z_cv hW hS hA (va_runV (As := [.int (-6)]) (rest := []) ⟨hx, hb, hml, hown, hts⟩ (sx_X9_emit l G ad c I100 ⟨(by show 0 ≤ (I100 12 1).toInt ∧ (I100 12 1).toInt ≤ 500; exact hI100R.1), (by show 0 ≤ (I100 12 5).toInt ∧ (I100 12 5).toInt ≤ 501; exact hI100R.2.1), (by show (-1) ≤ (I100 12 6).toInt ∧ (I100 12 6).toInt ≤ 1000000; exact hI100R.2.2.1), (by show 0 ≤ (I100 12 9).toInt ∧ (I100 12 9).toInt ≤ 500; exact hI100R.2.2.2.1), (by show 0 ≤ (I100 12 13).toInt ∧ (I100 12 13).toInt ≤ 24; exact hI100R.2.2.2.2)⟩ (-6) _) (cwV 1 hts gX9_atom_X9_emit rfl rfl rfl (by decide +kernel) ⟨Nat.le_of_ble_eq_true rfl, Nat.le_of_ble_eq_true rfl⟩) (z_preV (i := 12) hK hW rfl rfl) rfl rfl hl.1 rfl (lv_room (Nat.le_of_ble_eq_true rfl)) dX9_atom_200 ⟨Nat.le_of_ble_eq_true rfl, Nat.le_of_ble_eq_true rfl⟩) (fun u1 H locs hp hW hS => ?_)
                      obtain ⟨I106, e9, hI106R, fI106⟩ := hp
                      rw [e9] at hW
                      have f107 := z_fr_sub (L := L_X9_atom_1) f101 fI106 (by decide)
                      have k108 : (I106 12 6).toInt ≤ 501 ∧ ((I106 12 7).toInt = 401 ∨ (I106 12 6).toInt ≤ 500) := (by have q0 : (I106 12 6) = (I100 12 6) := (by rw [fI106 12 6 (by decide)]); have q1 : (I106 12 7) = (I100 12 7) := (by rw [fI106 12 7 (by decide)]); show (I106 12 6).toInt ≤ 501 ∧ ((I106 12 7).toInt = 401 ∨ (I106 12 6).toInt ≤ 500); rw [q0, q1]; first | omega | decide)
                      refine lv_iconst (v := 1) hx hb dX9_atom_203 (by decide) ?_
                      exact z_zret hx hb hr (by decide) hK hS (Nat.le_of_ble_eq_true rfl) (Nat.le_of_ble_eq_true rfl) hlocks dX9_atom_204 (shC c, ad, I106, JX, PC c ad) hW ⟨I106, rfl, ⟨(by show 0 ≤ (I106 12 1).toInt ∧ (I106 12 1).toInt ≤ 500; exact hI106R.1), (by show 0 ≤ (I106 12 5).toInt ∧ (I106 12 5).toInt ≤ 501; exact hI106R.2.1), (by show (-1) ≤ (I106 12 6).toInt ∧ (I106 12 6).toInt ≤ 1000000; exact hI106R.2.2.1), (by show 0 ≤ (I106 12 9).toInt ∧ (I106 12 9).toInt ≤ 500; exact hI106R.2.2.2.1), (by show 0 ≤ (I106 12 13).toInt ∧ (I106 12 13).toInt ≤ 24; exact hI106R.2.2.2.2)⟩, (by show (I106 12 6).toInt ≤ 501 ∧ ((I106 12 7).toInt = 401 ∨ (I106 12 6).toInt ≤ 500); first | omega | decide), f107, Or.inl rfl⟩
                    · refine lv_if_ne (tgt := 185) hx hb dX9_atom_180 (by decide) (fun c109 => absurd (by decide) c109) (fun c109 => ?_)
                      refine lv_iconst (v := 0) hx hb dX9_atom_183 (by decide) ?_
                      exact z_zret hx hb hr (by decide) hK hS (Nat.le_of_ble_eq_true rfl) (Nat.le_of_ble_eq_true rfl) hlocks dX9_atom_184 (shC c, ad, I100, JX, PC c ad) hW ⟨I100, rfl, ⟨(by show 0 ≤ (I100 12 1).toInt ∧ (I100 12 1).toInt ≤ 500; exact hI100R.1), (by show 0 ≤ (I100 12 5).toInt ∧ (I100 12 5).toInt ≤ 501; exact hI100R.2.1), (by show (-1) ≤ (I100 12 6).toInt ∧ (I100 12 6).toInt ≤ 1000000; exact hI100R.2.2.1), (by show 0 ≤ (I100 12 9).toInt ∧ (I100 12 9).toInt ≤ 500; exact hI100R.2.2.2.1), (by show 0 ≤ (I100 12 13).toInt ∧ (I100 12 13).toInt ≤ 24; exact hI100R.2.2.2.2)⟩, (by show (I100 12 6).toInt ≤ 501 ∧ ((I100 12 7).toInt = 401 ∨ (I100 12 6).toInt ≤ 500); first | omega | decide), f101, Or.inr rfl⟩
                  · refine lv_if_eq (tgt := 183) hx hb dX9_atom_171 (by decide) (fun c110 => ?_) (fun c110 => absurd (by decide) c110)
                    refine lv_iconst (v := 0) hx hb dX9_atom_183 (by decide) ?_
                    exact z_zret hx hb hr (by decide) hK hS (Nat.le_of_ble_eq_true rfl) (Nat.le_of_ble_eq_true rfl) hlocks dX9_atom_184 (shC c, ad, I96, JX, PC c ad) hW ⟨I96, rfl, ⟨(by show 0 ≤ (I96 12 1).toInt ∧ (I96 12 1).toInt ≤ 500; exact hI96R.1), (by show 0 ≤ (I96 12 5).toInt ∧ (I96 12 5).toInt ≤ 501; exact hI96R.2.1), (by show (-1) ≤ (I96 12 6).toInt ∧ (I96 12 6).toInt ≤ 1000000; exact hI96R.2.2.1), (by show 0 ≤ (I96 12 9).toInt ∧ (I96 12 9).toInt ≤ 500; exact hI96R.2.2.2.1), (by show 0 ≤ (I96 12 13).toInt ∧ (I96 12 13).toInt ≤ 24; exact hI96R.2.2.2.2)⟩, (by show (I96 12 6).toInt ≤ 501 ∧ ((I96 12 7).toInt = 401 ∨ (I96 12 6).toInt ≤ 500); first | omega | decide), f97, Or.inr rfl⟩
                · refine lv_if_eq (tgt := 183) hx hb dX9_atom_161 (by decide) (fun c111 => ?_) (fun c111 => absurd (by decide) c111)
                  refine lv_iconst (v := 0) hx hb dX9_atom_183 (by decide) ?_
                  exact z_zret hx hb hr (by decide) hK hS (Nat.le_of_ble_eq_true rfl) (Nat.le_of_ble_eq_true rfl) hlocks dX9_atom_184 (shC c, ad, I92, JX, PC c ad) hW ⟨I92, rfl, ⟨(by show 0 ≤ (I92 12 1).toInt ∧ (I92 12 1).toInt ≤ 500; exact hI92R.1), (by show 0 ≤ (I92 12 5).toInt ∧ (I92 12 5).toInt ≤ 501; exact hI92R.2.1), (by show (-1) ≤ (I92 12 6).toInt ∧ (I92 12 6).toInt ≤ 1000000; exact hI92R.2.2.1), (by show 0 ≤ (I92 12 9).toInt ∧ (I92 12 9).toInt ≤ 500; exact hI92R.2.2.2.1), (by show 0 ≤ (I92 12 13).toInt ∧ (I92 12 13).toInt ≤ 24; exact hI92R.2.2.2.2)⟩, (by show (I92 12 6).toInt ≤ 501 ∧ ((I92 12 7).toInt = 401 ∨ (I92 12 6).toInt ≤ 500); first | omega | decide), f93, Or.inr rfl⟩
              · refine lv_if_eq (tgt := 183) hx hb dX9_atom_152 (by decide) (fun c112 => ?_) (fun c112 => absurd (by decide) c112)
                refine lv_iconst (v := 0) hx hb dX9_atom_183 (by decide) ?_
                exact z_zret hx hb hr (by decide) hK hS (Nat.le_of_ble_eq_true rfl) (Nat.le_of_ble_eq_true rfl) hlocks dX9_atom_184 (shC c, ad, I88, JX, PC c ad) hW ⟨I88, rfl, ⟨(by show 0 ≤ (I88 12 1).toInt ∧ (I88 12 1).toInt ≤ 500; exact hI88R.1), (by show 0 ≤ (I88 12 5).toInt ∧ (I88 12 5).toInt ≤ 501; exact hI88R.2.1), (by show (-1) ≤ (I88 12 6).toInt ∧ (I88 12 6).toInt ≤ 1000000; exact hI88R.2.2.1), (by show 0 ≤ (I88 12 9).toInt ∧ (I88 12 9).toInt ≤ 500; exact hI88R.2.2.2.1), (by show 0 ≤ (I88 12 13).toInt ∧ (I88 12 13).toInt ≤ 24; exact hI88R.2.2.2.2)⟩, (by show (I88 12 6).toInt ≤ 501 ∧ ((I88 12 7).toInt = 401 ∨ (I88 12 6).toInt ≤ 500); first | omega | decide), f89, Or.inr rfl⟩
            · refine lv_if_eq (tgt := 183) hx hb dX9_atom_142 (by decide) (fun c113 => ?_) (fun c113 => absurd (by decide) c113)
              refine lv_iconst (v := 0) hx hb dX9_atom_183 (by decide) ?_
              exact z_zret hx hb hr (by decide) hK hS (Nat.le_of_ble_eq_true rfl) (Nat.le_of_ble_eq_true rfl) hlocks dX9_atom_184 (shC c, ad, I84, JX, PC c ad) hW ⟨I84, rfl, ⟨(by show 0 ≤ (I84 12 1).toInt ∧ (I84 12 1).toInt ≤ 500; exact hI84R.1), (by show 0 ≤ (I84 12 5).toInt ∧ (I84 12 5).toInt ≤ 501; exact hI84R.2.1), (by show (-1) ≤ (I84 12 6).toInt ∧ (I84 12 6).toInt ≤ 1000000; exact hI84R.2.2.1), (by show 0 ≤ (I84 12 9).toInt ∧ (I84 12 9).toInt ≤ 500; exact hI84R.2.2.2.1), (by show 0 ≤ (I84 12 13).toInt ∧ (I84 12 13).toInt ≤ 24; exact hI84R.2.2.2.2)⟩, (by show (I84 12 6).toInt ≤ 501 ∧ ((I84 12 7).toInt = 401 ∨ (I84 12 6).toInt ≤ 500); first | omega | decide), f85, Or.inr rfl⟩
    · have g114 := z_f_nlt rfl z_l314 c15
      refine lv_aload_n hx hb dX9_atom_20 rfl (lv_at hl 0 rfl) ?_
      refine z_get (T := TX9) (N := 14) (ci := 9) (i := 12) (v := .int (I 12 7)) hx hb hts zj_X9_atom_X9 hown hK hW rfl rfl 7 (by decide) (hts (.fieldLink RX9 62 "PetrolBoard$Reader" "token" "I") (List.mem_of_getElem? (i := 1) rfl)) (fun _ h => h) rfl dX9_atom_21 ?_
      refine lv_sipush (v := 320) hx hb dX9_atom_24 (by decide) ?_
      refine lv_icmp_gt (tgt := 68) hx hb dX9_atom_27 (by decide) (fun c115 => ?_) (fun c115 => ?_)
      · have g116 := z_f_gt rfl z_l320 c115
        refine lv_aload_n hx hb dX9_atom_68 rfl (lv_at hl 0 rfl) ?_
        refine z_get (T := TX9) (N := 14) (ci := 9) (i := 12) (v := .int (I 12 7)) hx hb hts zj_X9_atom_X9 hown hK hW rfl rfl 7 (by decide) (hts (.fieldLink RX9 62 "PetrolBoard$Reader" "token" "I") (List.mem_of_getElem? (i := 1) rfl)) (fun _ h => h) rfl dX9_atom_69 ?_
        refine lv_istore_n (lv' := [(2, .int (I 12 7)), (0, .ref (ad 12)), (1, .int 1)]) hx hb dX9_atom_72 rfl hl (by decide) rfl (fun ls hl => ?_)
        refine lv_iload_n hx hb dX9_atom_73 rfl (lv_at hl 0 rfl) ?_
        refine lv_bipush (v := 40) hx hb dX9_atom_74 (by decide) ?_
        refine lv_icmp_eq (tgt := 93) hx hb dX9_atom_76 (by decide) (fun c117 => (by have g := z_f_eq rfl z_l40 c117; omega)) (fun c117 => ?_)
        have g118 := z_f_ne rfl z_l40 c117
        refine lv_iload_n hx hb dX9_atom_79 rfl (lv_at hl 0 rfl) ?_
        refine lv_sipush (v := 312) hx hb dX9_atom_80 (by decide) ?_
        refine lv_icmp_eq (tgt := 93) hx hb dX9_atom_83 (by decide) (fun c119 => (by have g := z_f_eq rfl z_l312 c119; omega)) (fun c119 => ?_)
        have g120 := z_f_ne rfl z_l312 c119
        refine lv_iload_n hx hb dX9_atom_86 rfl (lv_at hl 0 rfl) ?_
        refine lv_sipush (v := 313) hx hb dX9_atom_87 (by decide) ?_
        refine lv_icmp_ne (tgt := 99) hx hb dX9_atom_90 (by decide) (fun c121 => ?_) (fun c121 => (by have g := z_f_eq rfl z_l313 c121; omega))
        have g122 := z_f_ne rfl z_l313 c121
        refine lv_iconst (v := 0) hx hb dX9_atom_99 (by decide) ?_
        exact z_zret hx hb hr (by decide) hK hS (Nat.le_of_ble_eq_true rfl) (Nat.le_of_ble_eq_true rfl) hlocks dX9_atom_100 (shC c, ad, I, JX, PC c ad) hW ⟨I, rfl, ⟨(by show 0 ≤ (I 12 1).toInt ∧ (I 12 1).toInt ≤ 500; exact hR.1), (by show 0 ≤ (I 12 5).toInt ∧ (I 12 5).toInt ≤ 501; exact hR.2.1), (by show (-1) ≤ (I 12 6).toInt ∧ (I 12 6).toInt ≤ 1000000; exact hR.2.2.1), (by show 0 ≤ (I 12 9).toInt ∧ (I 12 9).toInt ≤ 500; exact hR.2.2.2.1), (by show 0 ≤ (I 12 13).toInt ∧ (I 12 13).toInt ≤ 24; exact hR.2.2.2.2)⟩, (by show (I 12 6).toInt ≤ 501 ∧ ((I 12 7).toInt = 401 ∨ (I 12 6).toInt ≤ 500); first | omega | decide), z_fr_0, Or.inr rfl⟩
      · have g123 := z_f_ngt rfl z_l320 c115
        refine lv_aload_n hx hb dX9_atom_30 rfl (lv_at hl 0 rfl) ?_
        refine lv_aload_n hx hb dX9_atom_31 rfl (lv_at hl 0 rfl) ?_
        refine z_get (T := TX9) (N := 14) (ci := 9) (i := 12) (v := .int (I 12 7)) hx hb hts zj_X9_atom_X9 hown hK hW rfl rfl 7 (by decide) (hts (.fieldLink RX9 62 "PetrolBoard$Reader" "token" "I") (List.mem_of_getElem? (i := 1) rfl)) (fun _ h => h) rfl dX9_atom_32 ?_
        refine lv_sipush (v := 400) hx hb dX9_atom_35 (by decide) ?_
        refine lv_icmp_ne (tgt := 48) hx hb dX9_atom_38 (by decide) (fun c124 => ?_) (fun c124 => (by have g := z_f_eq rfl z_l400 c124; omega))
        have g125 := z_f_ne rfl z_l400 c124
        refine lv_bipush (v := (-20)) hx hb dX9_atom_48 (by decide) ?_
        refine lv_aload_n hx hb dX9_atom_50 rfl (lv_at hl 0 rfl) ?_
        refine z_get (T := TX9) (N := 14) (ci := 9) (i := 12) (v := .int (I 12 7)) hx hb hts zj_X9_atom_X9 hown hK hW rfl rfl 7 (by decide) (hts (.fieldLink RX9 62 "PetrolBoard$Reader" "token" "I") (List.mem_of_getElem? (i := 1) rfl)) (fun _ h => h) rfl dX9_atom_51 ?_
        refine lv_sipush (v := 314) hx hb dX9_atom_54 (by decide) ?_
        refine lv_isub hx hb dX9_atom_57 ?_
        refine lv_topi (fun x126 ex126 => ?_)
        have tx126 : x126.toInt = (I 12 7).toInt - 314 := z_tsub ex126 rfl z_l314 (by omega) (by omega)
        refine lv_isub hx hb dX9_atom_58 ?_
        refine lv_topi (fun x127 ex127 => ?_)
        have tx127 : x127.toInt = (-20) - x126.toInt := z_tsub ex127 z_lm20 rfl (by omega) (by omega)
        refine z_cv hW hS hA (va_runV (As := [.int x127]) (rest := []) ⟨hx, hb, hml, hown, hts⟩ (sx_X9_emit l G ad c I ⟨(by show 0 ≤ (I 12 1).toInt ∧ (I 12 1).toInt ≤ 500; exact hR.1), (by show 0 ≤ (I 12 5).toInt ∧ (I 12 5).toInt ≤ 501; exact hR.2.1), (by show (-1) ≤ (I 12 6).toInt ∧ (I 12 6).toInt ≤ 1000000; exact hR.2.2.1), (by show 0 ≤ (I 12 9).toInt ∧ (I 12 9).toInt ≤ 500; exact hR.2.2.2.1), (by show 0 ≤ (I 12 13).toInt ∧ (I 12 13).toInt ≤ 24; exact hR.2.2.2.2)⟩ x127 _) (cwV 1 hts gX9_atom_X9_emit rfl rfl rfl (by decide +kernel) ⟨Nat.le_of_ble_eq_true rfl, Nat.le_of_ble_eq_true rfl⟩) (z_preV (i := 12) hK hW rfl rfl) rfl rfl hl.1 rfl (lv_room (Nat.le_of_ble_eq_true rfl)) dX9_atom_59 ⟨Nat.le_of_ble_eq_true rfl, Nat.le_of_ble_eq_true rfl⟩) (fun u1 H locs hp hW hS => ?_)
        obtain ⟨I128, e9, hI128R, fI128⟩ := hp
        rw [e9] at hW
        have f129 := z_fr_sub (L := L_X9_atom_1) z_fr_0 fI128 (by decide)
        have k130 : (I128 12 6).toInt ≤ 501 ∧ ((I128 12 7).toInt = 401 ∨ (I128 12 6).toInt ≤ 500) := (by have q0 : (I128 12 6) = (I 12 6) := (by rw [fI128 12 6 (by decide)]); have q1 : (I128 12 7) = (I 12 7) := (by rw [fI128 12 7 (by decide)]); show (I128 12 6).toInt ≤ 501 ∧ ((I128 12 7).toInt = 401 ∨ (I128 12 6).toInt ≤ 500); rw [q0, q1]; first | omega | decide)
        refine lv_aload_n hx hb dX9_atom_62 rfl (lv_at hl 0 rfl) ?_
        refine z_cv hW hS hA (va_runV (As := []) (rest := []) ⟨hx, hb, hml, hown, hts⟩ (sx_X9_step l G ad c I128 ⟨(by show 0 ≤ (I128 12 1).toInt ∧ (I128 12 1).toInt ≤ 500; exact hI128R.1), (by show 0 ≤ (I128 12 5).toInt ∧ (I128 12 5).toInt ≤ 501; exact hI128R.2.1), (by show (-1) ≤ (I128 12 6).toInt ∧ (I128 12 6).toInt ≤ 1000000; exact hI128R.2.2.1), (by show 0 ≤ (I128 12 9).toInt ∧ (I128 12 9).toInt ≤ 500; exact hI128R.2.2.2.1), (by show 0 ≤ (I128 12 13).toInt ∧ (I128 12 13).toInt ≤ 24; exact hI128R.2.2.2.2)⟩   (by show (I128 12 6).toInt ≤ 500; first | omega | decide) _) (cwV 0 hts gX9_atom_X9_step rfl rfl rfl (by decide +kernel) ⟨Nat.le_of_ble_eq_true rfl, Nat.le_of_ble_eq_true rfl⟩) (z_preV (i := 12) hK hW rfl rfl) rfl rfl hl.1 rfl (lv_room (Nat.le_of_ble_eq_true rfl)) dX9_atom_63 ⟨Nat.le_of_ble_eq_true rfl, Nat.le_of_ble_eq_true rfl⟩) (fun u1 H locs hp hW hS => ?_)
        obtain ⟨I131, e9, hI131R, hI131T, fI131⟩ := hp
        rw [e9] at hW
        have f132 := z_fr_sub (L := L_X9_atom_1) f129 fI131 (by decide)
        have k133 : (I131 12 6).toInt ≤ 501 ∧ ((I131 12 7).toInt = 401 ∨ (I131 12 6).toInt ≤ 500) := hI131T
        refine lv_iconst (v := 1) hx hb dX9_atom_66 (by decide) ?_
        exact z_zret hx hb hr (by decide) hK hS (Nat.le_of_ble_eq_true rfl) (Nat.le_of_ble_eq_true rfl) hlocks dX9_atom_67 (shC c, ad, I131, JX, PC c ad) hW ⟨I131, rfl, ⟨(by show 0 ≤ (I131 12 1).toInt ∧ (I131 12 1).toInt ≤ 500; exact hI131R.1), (by show 0 ≤ (I131 12 5).toInt ∧ (I131 12 5).toInt ≤ 501; exact hI131R.2.1), (by show (-1) ≤ (I131 12 6).toInt ∧ (I131 12 6).toInt ≤ 1000000; exact hI131R.2.2.1), (by show 0 ≤ (I131 12 9).toInt ∧ (I131 12 9).toInt ≤ 500; exact hI131R.2.2.2.1), (by show 0 ≤ (I131 12 13).toInt ∧ (I131 12 13).toInt ≤ 24; exact hI131R.2.2.2.2)⟩, (by show (I131 12 6).toInt ≤ 501 ∧ ((I131 12 7).toInt = 401 ∨ (I131 12 6).toInt ≤ 500); first | omega | decide), f132, Or.inl rfl⟩
def L_X9_product_1 : z_L := [(12, 6), (12, 7), (17, 999), (12, 9)]
set_option maxHeartbeats 8000000 in
set_option maxRecDepth 100000 in
theorem sx_X9_product_1 (l : Launch) (G : z_G) (ad : Nat → Nat) (c : z_C) (I : z_I) (hR : z_iR I) (hT : z_iT I) : z_M l yX9_product wsX9_product { frames := 28, cells := 0, slots := 0, locals := 619 } [.ref (ad 12), .int 1] G (shC c, ad, I, JX, PC c ad) (fun r u1 => ∃ I1 : z_I, u1 = (shC c, ad, I1, JX, PC c ad) ∧ z_iR I1 ∧ z_iT I1 ∧ z_fr L_X9_product_1 I1 I ∧ (r = 1 ∨ r = 0)) 0 0 := by
  intro sz
  refine z_headQ (cc := cX9_product) (maxL := 4) (ret := (some .boolean)) (by decide) rfl (Nat.le_of_ble_eq_true rfl) ?_
  intro p e s m below meth c0 ls hIn hK hsz hW hl
  obtain ⟨hx, hb, hr, hml, hown, hts, hlocks, hname⟩ := hIn
  subst hsz
  have hown : s.vm.findClass RX9 = some m.cls := hown
  have hA : ∀ q : Nat, s.heap.size ≤ q → z_A (shC c, ad, I, JX, PC c ad) s.heap.size q := fun q h => Or.inr h
  generalize hAe : z_A (shC c, ad, I, JX, PC c ad) s.heap.size = A at *
  have hS : va_S A s.heap s.heap [] := va_S.rf
  have hl : lv_has ls 4 [(0, .ref (ad 12)), (1, .int 1)] := hl
  have kT : (I 12 6).toInt ≤ 501 ∧ ((I 12 7).toInt = 401 ∨ (I 12 6).toInt ≤ 500) := hT
  refine lv_aload_n hx hb dX9_product_0 rfl (lv_at hl 0 rfl) ?_
  refine lv_iload_n hx hb dX9_product_1 rfl (lv_at hl 1 rfl) ?_
  refine z_ci hW hS hA (va_runV (As := [.int 1]) (rest := []) ⟨hx, hb, hml, hown, hts⟩ (sx_X9_atom_1 l G ad c I ⟨(by show 0 ≤ (I 12 1).toInt ∧ (I 12 1).toInt ≤ 500; exact hR.1), (by show 0 ≤ (I 12 5).toInt ∧ (I 12 5).toInt ≤ 501; exact hR.2.1), (by show (-1) ≤ (I 12 6).toInt ∧ (I 12 6).toInt ≤ 1000000; exact hR.2.2.1), (by show 0 ≤ (I 12 9).toInt ∧ (I 12 9).toInt ≤ 500; exact hR.2.2.2.1), (by show 0 ≤ (I 12 13).toInt ∧ (I 12 13).toInt ≤ 24; exact hR.2.2.2.2)⟩ (by show (I 12 6).toInt ≤ 501 ∧ ((I 12 7).toInt = 401 ∨ (I 12 6).toInt ≤ 500); first | omega | decide) _) (cwV 1 hts gX9_product_X9_atom rfl rfl rfl (by decide +kernel) ⟨Nat.le_of_ble_eq_true rfl, Nat.le_of_ble_eq_true rfl⟩) (z_preV (i := 12) hK hW rfl rfl) rfl rfl hl.1 rfl (lv_room (Nat.le_of_ble_eq_true rfl)) dX9_product_2 ⟨Nat.le_of_ble_eq_true rfl, Nat.le_of_ble_eq_true rfl⟩) (fun r u1 H locs hp hW hS => ?_)
  obtain ⟨I1, e9, hI1R, hI1T, fI1, hp⟩ := hp
  rw [e9] at hW
  have f2 := z_fr_sub (L := L_X9_product_1) z_fr_0 fI1 (by decide)
  have k3 : (I1 12 6).toInt ≤ 501 ∧ ((I1 12 7).toInt = 401 ∨ (I1 12 6).toInt ≤ 500) := hI1T
  rcases hp with rfl | rfl
  · refine lv_if_ne (tgt := 10) hx hb dX9_product_5 (by decide) (fun c4 => ?_) (fun c4 => absurd c4 (by decide))
    refine lv_iconst (v := 0) hx hb dX9_product_10 (by decide) ?_
    refine lv_istore_n (lv' := [(2, .int 0), (0, .ref (ad 12)), (1, .int 1)]) hx hb dX9_product_11 rfl hl (by decide) rfl (fun ls hl => ?_)
    have lp5 : ∀ (f : Nat) (y6 : Int32) (I7 : z_I) (H : Heap) (locs : List Loc) (ls : Array Slot), (2147483647 < y6.toInt + (f : Int)) → (0 ≤ y6.toInt) → (z_iR I7) → (z_iT I7) → (z_fr L_X9_product_1 I7 I) → z_W G A (shC c, ad, I7, JX, PC c ad) H → va_S A s.heap H locs → lv_has ls 4 [(2, .int y6), (0, .ref (ad 12)), (1, .int 1)] → W p l e (headSpec wsX9_product { frames := 28, cells := 0, slots := 0, locals := 619 }).room s m ([.ref (ad 12), .int 1] : List Value).toArray below meth c0 H locs 0 0 (MQ below (va_Qi (fun (r : Int32) (u1 : z_U) => ∃ I1 : z_I, u1 = (shC c, ad, I1, JX, PC c ad) ∧ z_iR I1 ∧ z_iT I1 ∧ z_fr L_X9_product_1 I1 I ∧ (r = 1 ∨ r = 0)) (z_B G A) A) ([.ref (ad 12), .int 1] : List Value).toArray s 0 0 A) (F0 m 12 ls []) := by
      intro f
      induction f with
      | zero => intro y6 I7  H locs ls lp5m lp5l2 lp5R lp5T lp5fr hW hS hl; exact absurd lp5m (by have := Int32.toInt_lt y6; have := Int32.le_toInt y6; omega)
      | succ f lp5ih =>
        intro y6 I7  H locs ls lp5m lp5l2 lp5R lp5T lp5fr hW hS hl
        have k8 : (I7 12 6).toInt ≤ 501 ∧ ((I7 12 7).toInt = 401 ∨ (I7 12 6).toInt ≤ 500) := lp5T
        refine lv_iload_n hx hb dX9_product_12 rfl (lv_at hl 0 rfl) ?_
        refine lv_sipush (v := 500) hx hb dX9_product_13 (by decide) ?_
        refine lv_icmp_ge (tgt := 79) hx hb dX9_product_16 (by decide) (fun c9 => ?_) (fun c9 => ?_)
        · have g10 := z_f_ge rfl z_l500 c9
          have b11 := Int32.toInt_lt y6
          refine lv_iconst (v := 1) hx hb dX9_product_79 (by decide) ?_
          exact z_zret hx hb hr (by decide) hK hS (Nat.le_of_ble_eq_true rfl) (Nat.le_of_ble_eq_true rfl) hlocks dX9_product_80 (shC c, ad, I7, JX, PC c ad) hW ⟨I7, rfl, ⟨(by show 0 ≤ (I7 12 1).toInt ∧ (I7 12 1).toInt ≤ 500; exact lp5R.1), (by show 0 ≤ (I7 12 5).toInt ∧ (I7 12 5).toInt ≤ 501; exact lp5R.2.1), (by show (-1) ≤ (I7 12 6).toInt ∧ (I7 12 6).toInt ≤ 1000000; exact lp5R.2.2.1), (by show 0 ≤ (I7 12 9).toInt ∧ (I7 12 9).toInt ≤ 500; exact lp5R.2.2.2.1), (by show 0 ≤ (I7 12 13).toInt ∧ (I7 12 13).toInt ≤ 24; exact lp5R.2.2.2.2)⟩, (by show (I7 12 6).toInt ≤ 501 ∧ ((I7 12 7).toInt = 401 ∨ (I7 12 6).toInt ≤ 500); first | omega | decide), lp5fr, Or.inl rfl⟩
        · have g12 := z_f_nge rfl z_l500 c9
          have b13 := Int32.toInt_lt y6
          refine lv_aload_n hx hb dX9_product_19 rfl (lv_at hl 1 rfl) ?_
          refine z_get (T := TX9) (N := 14) (ci := 9) (i := 12) (v := .int (I7 12 7)) hx hb hts zj_X9_product_X9 hown hK hW rfl rfl 7 (by decide) (hts (.fieldLink RX9 62 "PetrolBoard$Reader" "token" "I") (List.mem_of_getElem? (i := 1) rfl)) (fun _ h => h) rfl dX9_product_20 ?_
          refine lv_bipush (v := 42) hx hb dX9_product_23 (by decide) ?_
          refine lv_icmp_eq (tgt := 37) hx hb dX9_product_25 (by decide) (fun c14 => ?_) (fun c14 => ?_)
          · have g15 := z_f_eq rfl z_l42 c14
            have b16 := Int32.toInt_lt (I7 12 7)
            refine lv_aload_n hx hb dX9_product_37 rfl (lv_at hl 1 rfl) ?_
            refine z_get (T := TX9) (N := 14) (ci := 9) (i := 12) (v := .int (I7 12 7)) hx hb hts zj_X9_product_X9 hown hK hW rfl rfl 7 (by decide) (hts (.fieldLink RX9 62 "PetrolBoard$Reader" "token" "I") (List.mem_of_getElem? (i := 1) rfl)) (fun _ h => h) rfl dX9_product_38 ?_
            refine lv_istore_n (lv' := [(3, .int (I7 12 7)), (2, .int y6), (0, .ref (ad 12)), (1, .int 1)]) hx hb dX9_product_41 rfl hl (by decide) rfl (fun ls hl => ?_)
            refine lv_aload_n hx hb dX9_product_42 rfl (lv_at hl 2 rfl) ?_
            refine z_cv hW hS hA (va_runV (As := []) (rest := []) ⟨hx, hb, hml, hown, hts⟩ (sx_X9_step l G ad c I7 ⟨(by show 0 ≤ (I7 12 1).toInt ∧ (I7 12 1).toInt ≤ 500; exact lp5R.1), (by show 0 ≤ (I7 12 5).toInt ∧ (I7 12 5).toInt ≤ 501; exact lp5R.2.1), (by show (-1) ≤ (I7 12 6).toInt ∧ (I7 12 6).toInt ≤ 1000000; exact lp5R.2.2.1), (by show 0 ≤ (I7 12 9).toInt ∧ (I7 12 9).toInt ≤ 500; exact lp5R.2.2.2.1), (by show 0 ≤ (I7 12 13).toInt ∧ (I7 12 13).toInt ≤ 24; exact lp5R.2.2.2.2)⟩   (by show (I7 12 6).toInt ≤ 500; first | omega | decide) _) (cwV 0 hts gX9_product_X9_step rfl rfl rfl (by decide +kernel) ⟨Nat.le_of_ble_eq_true rfl, Nat.le_of_ble_eq_true rfl⟩) (z_preV (i := 12) hK hW rfl rfl) rfl rfl hl.1 rfl (lv_room (Nat.le_of_ble_eq_true rfl)) dX9_product_43 ⟨Nat.le_of_ble_eq_true rfl, Nat.le_of_ble_eq_true rfl⟩) (fun u1 H locs hp hW hS => ?_)
            obtain ⟨I17, e9, hI17R, hI17T, fI17⟩ := hp
            rw [e9] at hW
            have f18 := z_fr_sub (L := L_X9_product_1) lp5fr fI17 (by decide)
            have k19 : (I17 12 6).toInt ≤ 501 ∧ ((I17 12 7).toInt = 401 ∨ (I17 12 6).toInt ≤ 500) := hI17T
            refine lv_aload_n hx hb dX9_product_46 rfl (lv_at hl 2 rfl) ?_
            refine lv_iload_n hx hb dX9_product_47 rfl (lv_at hl 3 rfl) ?_
            refine z_ci hW hS hA (va_runV (As := [.int 1]) (rest := []) ⟨hx, hb, hml, hown, hts⟩ (sx_X9_atom_1 l G ad c I17 ⟨(by show 0 ≤ (I17 12 1).toInt ∧ (I17 12 1).toInt ≤ 500; exact hI17R.1), (by show 0 ≤ (I17 12 5).toInt ∧ (I17 12 5).toInt ≤ 501; exact hI17R.2.1), (by show (-1) ≤ (I17 12 6).toInt ∧ (I17 12 6).toInt ≤ 1000000; exact hI17R.2.2.1), (by show 0 ≤ (I17 12 9).toInt ∧ (I17 12 9).toInt ≤ 500; exact hI17R.2.2.2.1), (by show 0 ≤ (I17 12 13).toInt ∧ (I17 12 13).toInt ≤ 24; exact hI17R.2.2.2.2)⟩ (by show (I17 12 6).toInt ≤ 501 ∧ ((I17 12 7).toInt = 401 ∨ (I17 12 6).toInt ≤ 500); first | omega | decide) _) (cwV 1 hts gX9_product_X9_atom rfl rfl rfl (by decide +kernel) ⟨Nat.le_of_ble_eq_true rfl, Nat.le_of_ble_eq_true rfl⟩) (z_preV (i := 12) hK hW rfl rfl) rfl rfl hl.1 rfl (lv_room (Nat.le_of_ble_eq_true rfl)) dX9_product_48 ⟨Nat.le_of_ble_eq_true rfl, Nat.le_of_ble_eq_true rfl⟩) (fun r u1 H locs hp hW hS => ?_)
            obtain ⟨I20, e9, hI20R, hI20T, fI20, hp⟩ := hp
            rw [e9] at hW
            have f21 := z_fr_sub (L := L_X9_product_1) f18 fI20 (by decide)
            have k22 : (I20 12 6).toInt ≤ 501 ∧ ((I20 12 7).toInt = 401 ∨ (I20 12 6).toInt ≤ 500) := hI20T
            rcases hp with rfl | rfl
            · refine lv_if_ne (tgt := 56) hx hb dX9_product_51 (by decide) (fun c23 => ?_) (fun c23 => absurd c23 (by decide))
              refine lv_aload_n hx hb dX9_product_56 rfl (lv_at hl 2 rfl) ?_
              refine lv_iload_n hx hb dX9_product_57 rfl (lv_at hl 0 rfl) ?_
              refine lv_bipush (v := 42) hx hb dX9_product_58 (by decide) ?_
              refine lv_icmp_ne (tgt := 68) hx hb dX9_product_60 (by decide) (fun c24 => (by have g := z_f_ne rfl z_l42 c24; omega)) (fun c24 => ?_)
              have g25 := z_f_eq rfl z_l42 c24
              refine lv_bipush (v := (-3)) hx hb dX9_product_63 (by decide) ?_
              refine lv_goto (tgt := 70) hx hb dX9_product_65 (by decide) ?_
              refine z_cv hW hS hA (va_runV (As := [.int (-3)]) (rest := []) ⟨hx, hb, hml, hown, hts⟩ (sx_X9_emit l G ad c I20 ⟨(by show 0 ≤ (I20 12 1).toInt ∧ (I20 12 1).toInt ≤ 500; exact hI20R.1), (by show 0 ≤ (I20 12 5).toInt ∧ (I20 12 5).toInt ≤ 501; exact hI20R.2.1), (by show (-1) ≤ (I20 12 6).toInt ∧ (I20 12 6).toInt ≤ 1000000; exact hI20R.2.2.1), (by show 0 ≤ (I20 12 9).toInt ∧ (I20 12 9).toInt ≤ 500; exact hI20R.2.2.2.1), (by show 0 ≤ (I20 12 13).toInt ∧ (I20 12 13).toInt ≤ 24; exact hI20R.2.2.2.2)⟩ (-3) _) (cwV 1 hts gX9_product_X9_emit rfl rfl rfl (by decide +kernel) ⟨Nat.le_of_ble_eq_true rfl, Nat.le_of_ble_eq_true rfl⟩) (z_preV (i := 12) hK hW rfl rfl) rfl rfl hl.1 rfl (lv_room (Nat.le_of_ble_eq_true rfl)) dX9_product_70 ⟨Nat.le_of_ble_eq_true rfl, Nat.le_of_ble_eq_true rfl⟩) (fun u1 H locs hp hW hS => ?_)
              obtain ⟨I26, e9, hI26R, fI26⟩ := hp
              rw [e9] at hW
              have f27 := z_fr_sub (L := L_X9_product_1) f21 fI26 (by decide)
              have k28 : (I26 12 6).toInt ≤ 501 ∧ ((I26 12 7).toInt = 401 ∨ (I26 12 6).toInt ≤ 500) := (by have q0 : (I26 12 6) = (I20 12 6) := (by rw [fI26 12 6 (by decide)]); have q1 : (I26 12 7) = (I20 12 7) := (by rw [fI26 12 7 (by decide)]); show (I26 12 6).toInt ≤ 501 ∧ ((I26 12 7).toInt = 401 ∨ (I26 12 6).toInt ≤ 500); rw [q0, q1]; first | omega | decide)
              obtain ⟨x29, ex29⟩ : ∃ y : Int32, y = y6 + 1 := ⟨_, rfl⟩
              have tx29 : x29.toInt = y6.toInt + 1 := z_tadd ex29 rfl z_l1 (by omega) (by omega)
              refine lv_iinc (v := x29) (lv' := [(2, .int x29), (3, .int (I7 12 7)), (0, .ref (ad 12)), (1, .int 1)]) hx hb dX9_product_73 hl (k := 1) rfl (by rw [ex29]; rfl) (by decide) rfl (fun ls hl => ?_)
              refine lv_goto (tgt := 12) hx hb dX9_product_76 (by decide) ?_
              exact lp5ih x29 I26  _ _ _ (by omega) (by omega) ⟨(by show 0 ≤ (I26 12 1).toInt ∧ (I26 12 1).toInt ≤ 500; exact hI26R.1), (by show 0 ≤ (I26 12 5).toInt ∧ (I26 12 5).toInt ≤ 501; exact hI26R.2.1), (by show (-1) ≤ (I26 12 6).toInt ∧ (I26 12 6).toInt ≤ 1000000; exact hI26R.2.2.1), (by show 0 ≤ (I26 12 9).toInt ∧ (I26 12 9).toInt ≤ 500; exact hI26R.2.2.2.1), (by show 0 ≤ (I26 12 13).toInt ∧ (I26 12 13).toInt ≤ 24; exact hI26R.2.2.2.2)⟩ (by show (I26 12 6).toInt ≤ 501 ∧ ((I26 12 7).toInt = 401 ∨ (I26 12 6).toInt ≤ 500); first | omega | decide) f27 hW hS (lv_sub hl [0, 2, 3] rfl)
            · refine lv_if_ne (tgt := 56) hx hb dX9_product_51 (by decide) (fun c30 => absurd (by decide) c30) (fun c30 => ?_)
              refine lv_iconst (v := 0) hx hb dX9_product_54 (by decide) ?_
              exact z_zret hx hb hr (by decide) hK hS (Nat.le_of_ble_eq_true rfl) (Nat.le_of_ble_eq_true rfl) hlocks dX9_product_55 (shC c, ad, I20, JX, PC c ad) hW ⟨I20, rfl, ⟨(by show 0 ≤ (I20 12 1).toInt ∧ (I20 12 1).toInt ≤ 500; exact hI20R.1), (by show 0 ≤ (I20 12 5).toInt ∧ (I20 12 5).toInt ≤ 501; exact hI20R.2.1), (by show (-1) ≤ (I20 12 6).toInt ∧ (I20 12 6).toInt ≤ 1000000; exact hI20R.2.2.1), (by show 0 ≤ (I20 12 9).toInt ∧ (I20 12 9).toInt ≤ 500; exact hI20R.2.2.2.1), (by show 0 ≤ (I20 12 13).toInt ∧ (I20 12 13).toInt ≤ 24; exact hI20R.2.2.2.2)⟩, (by show (I20 12 6).toInt ≤ 501 ∧ ((I20 12 7).toInt = 401 ∨ (I20 12 6).toInt ≤ 500); first | omega | decide), f21, Or.inr rfl⟩
          · have g31 := z_f_ne rfl z_l42 c14
            have b32 := Int32.toInt_lt (I7 12 7)
            refine lv_aload_n hx hb dX9_product_28 rfl (lv_at hl 1 rfl) ?_
            refine z_get (T := TX9) (N := 14) (ci := 9) (i := 12) (v := .int (I7 12 7)) hx hb hts zj_X9_product_X9 hown hK hW rfl rfl 7 (by decide) (hts (.fieldLink RX9 62 "PetrolBoard$Reader" "token" "I") (List.mem_of_getElem? (i := 1) rfl)) (fun _ h => h) rfl dX9_product_29 ?_
            refine lv_bipush (v := 47) hx hb dX9_product_32 (by decide) ?_
            refine lv_icmp_ne (tgt := 79) hx hb dX9_product_34 (by decide) (fun c33 => ?_) (fun c33 => ?_)
            · have g34 := z_f_ne rfl z_l47 c33
              refine lv_iconst (v := 1) hx hb dX9_product_79 (by decide) ?_
              exact z_zret hx hb hr (by decide) hK hS (Nat.le_of_ble_eq_true rfl) (Nat.le_of_ble_eq_true rfl) hlocks dX9_product_80 (shC c, ad, I7, JX, PC c ad) hW ⟨I7, rfl, ⟨(by show 0 ≤ (I7 12 1).toInt ∧ (I7 12 1).toInt ≤ 500; exact lp5R.1), (by show 0 ≤ (I7 12 5).toInt ∧ (I7 12 5).toInt ≤ 501; exact lp5R.2.1), (by show (-1) ≤ (I7 12 6).toInt ∧ (I7 12 6).toInt ≤ 1000000; exact lp5R.2.2.1), (by show 0 ≤ (I7 12 9).toInt ∧ (I7 12 9).toInt ≤ 500; exact lp5R.2.2.2.1), (by show 0 ≤ (I7 12 13).toInt ∧ (I7 12 13).toInt ≤ 24; exact lp5R.2.2.2.2)⟩, (by show (I7 12 6).toInt ≤ 501 ∧ ((I7 12 7).toInt = 401 ∨ (I7 12 6).toInt ≤ 500); first | omega | decide), lp5fr, Or.inl rfl⟩
            · have g35 := z_f_eq rfl z_l47 c33
              refine lv_aload_n hx hb dX9_product_37 rfl (lv_at hl 1 rfl) ?_
              refine z_get (T := TX9) (N := 14) (ci := 9) (i := 12) (v := .int (I7 12 7)) hx hb hts zj_X9_product_X9 hown hK hW rfl rfl 7 (by decide) (hts (.fieldLink RX9 62 "PetrolBoard$Reader" "token" "I") (List.mem_of_getElem? (i := 1) rfl)) (fun _ h => h) rfl dX9_product_38 ?_
              refine lv_istore_n (lv' := [(3, .int (I7 12 7)), (2, .int y6), (0, .ref (ad 12)), (1, .int 1)]) hx hb dX9_product_41 rfl hl (by decide) rfl (fun ls hl => ?_)
              refine lv_aload_n hx hb dX9_product_42 rfl (lv_at hl 2 rfl) ?_
              refine z_cv hW hS hA (va_runV (As := []) (rest := []) ⟨hx, hb, hml, hown, hts⟩ (sx_X9_step l G ad c I7 ⟨(by show 0 ≤ (I7 12 1).toInt ∧ (I7 12 1).toInt ≤ 500; exact lp5R.1), (by show 0 ≤ (I7 12 5).toInt ∧ (I7 12 5).toInt ≤ 501; exact lp5R.2.1), (by show (-1) ≤ (I7 12 6).toInt ∧ (I7 12 6).toInt ≤ 1000000; exact lp5R.2.2.1), (by show 0 ≤ (I7 12 9).toInt ∧ (I7 12 9).toInt ≤ 500; exact lp5R.2.2.2.1), (by show 0 ≤ (I7 12 13).toInt ∧ (I7 12 13).toInt ≤ 24; exact lp5R.2.2.2.2)⟩   (by show (I7 12 6).toInt ≤ 500; first | omega | decide) _) (cwV 0 hts gX9_product_X9_step rfl rfl rfl (by decide +kernel) ⟨Nat.le_of_ble_eq_true rfl, Nat.le_of_ble_eq_true rfl⟩) (z_preV (i := 12) hK hW rfl rfl) rfl rfl hl.1 rfl (lv_room (Nat.le_of_ble_eq_true rfl)) dX9_product_43 ⟨Nat.le_of_ble_eq_true rfl, Nat.le_of_ble_eq_true rfl⟩) (fun u1 H locs hp hW hS => ?_)
              obtain ⟨I36, e9, hI36R, hI36T, fI36⟩ := hp
              rw [e9] at hW
              have f37 := z_fr_sub (L := L_X9_product_1) lp5fr fI36 (by decide)
              have k38 : (I36 12 6).toInt ≤ 501 ∧ ((I36 12 7).toInt = 401 ∨ (I36 12 6).toInt ≤ 500) := hI36T
              refine lv_aload_n hx hb dX9_product_46 rfl (lv_at hl 2 rfl) ?_
              refine lv_iload_n hx hb dX9_product_47 rfl (lv_at hl 3 rfl) ?_
              refine z_ci hW hS hA (va_runV (As := [.int 1]) (rest := []) ⟨hx, hb, hml, hown, hts⟩ (sx_X9_atom_1 l G ad c I36 ⟨(by show 0 ≤ (I36 12 1).toInt ∧ (I36 12 1).toInt ≤ 500; exact hI36R.1), (by show 0 ≤ (I36 12 5).toInt ∧ (I36 12 5).toInt ≤ 501; exact hI36R.2.1), (by show (-1) ≤ (I36 12 6).toInt ∧ (I36 12 6).toInt ≤ 1000000; exact hI36R.2.2.1), (by show 0 ≤ (I36 12 9).toInt ∧ (I36 12 9).toInt ≤ 500; exact hI36R.2.2.2.1), (by show 0 ≤ (I36 12 13).toInt ∧ (I36 12 13).toInt ≤ 24; exact hI36R.2.2.2.2)⟩ (by show (I36 12 6).toInt ≤ 501 ∧ ((I36 12 7).toInt = 401 ∨ (I36 12 6).toInt ≤ 500); first | omega | decide) _) (cwV 1 hts gX9_product_X9_atom rfl rfl rfl (by decide +kernel) ⟨Nat.le_of_ble_eq_true rfl, Nat.le_of_ble_eq_true rfl⟩) (z_preV (i := 12) hK hW rfl rfl) rfl rfl hl.1 rfl (lv_room (Nat.le_of_ble_eq_true rfl)) dX9_product_48 ⟨Nat.le_of_ble_eq_true rfl, Nat.le_of_ble_eq_true rfl⟩) (fun r u1 H locs hp hW hS => ?_)
              obtain ⟨I39, e9, hI39R, hI39T, fI39, hp⟩ := hp
              rw [e9] at hW
              have f40 := z_fr_sub (L := L_X9_product_1) f37 fI39 (by decide)
              have k41 : (I39 12 6).toInt ≤ 501 ∧ ((I39 12 7).toInt = 401 ∨ (I39 12 6).toInt ≤ 500) := hI39T
              rcases hp with rfl | rfl
              · refine lv_if_ne (tgt := 56) hx hb dX9_product_51 (by decide) (fun c42 => ?_) (fun c42 => absurd c42 (by decide))
                refine lv_aload_n hx hb dX9_product_56 rfl (lv_at hl 2 rfl) ?_
                refine lv_iload_n hx hb dX9_product_57 rfl (lv_at hl 0 rfl) ?_
                refine lv_bipush (v := 42) hx hb dX9_product_58 (by decide) ?_
                refine lv_icmp_ne (tgt := 68) hx hb dX9_product_60 (by decide) (fun c43 => ?_) (fun c43 => (by have g := z_f_eq rfl z_l42 c43; omega))
                have g44 := z_f_ne rfl z_l42 c43
                refine lv_bipush (v := (-4)) hx hb dX9_product_68 (by decide) ?_
                refine z_cv hW hS hA (va_runV (As := [.int (-4)]) (rest := []) ⟨hx, hb, hml, hown, hts⟩ (sx_X9_emit l G ad c I39 ⟨(by show 0 ≤ (I39 12 1).toInt ∧ (I39 12 1).toInt ≤ 500; exact hI39R.1), (by show 0 ≤ (I39 12 5).toInt ∧ (I39 12 5).toInt ≤ 501; exact hI39R.2.1), (by show (-1) ≤ (I39 12 6).toInt ∧ (I39 12 6).toInt ≤ 1000000; exact hI39R.2.2.1), (by show 0 ≤ (I39 12 9).toInt ∧ (I39 12 9).toInt ≤ 500; exact hI39R.2.2.2.1), (by show 0 ≤ (I39 12 13).toInt ∧ (I39 12 13).toInt ≤ 24; exact hI39R.2.2.2.2)⟩ (-4) _) (cwV 1 hts gX9_product_X9_emit rfl rfl rfl (by decide +kernel) ⟨Nat.le_of_ble_eq_true rfl, Nat.le_of_ble_eq_true rfl⟩) (z_preV (i := 12) hK hW rfl rfl) rfl rfl hl.1 rfl (lv_room (Nat.le_of_ble_eq_true rfl)) dX9_product_70 ⟨Nat.le_of_ble_eq_true rfl, Nat.le_of_ble_eq_true rfl⟩) (fun u1 H locs hp hW hS => ?_)
                obtain ⟨I45, e9, hI45R, fI45⟩ := hp
                rw [e9] at hW
                have f46 := z_fr_sub (L := L_X9_product_1) f40 fI45 (by decide)
                have k47 : (I45 12 6).toInt ≤ 501 ∧ ((I45 12 7).toInt = 401 ∨ (I45 12 6).toInt ≤ 500) := (by have q0 : (I45 12 6) = (I39 12 6) := (by rw [fI45 12 6 (by decide)]); have q1 : (I45 12 7) = (I39 12 7) := (by rw [fI45 12 7 (by decide)]); show (I45 12 6).toInt ≤ 501 ∧ ((I45 12 7).toInt = 401 ∨ (I45 12 6).toInt ≤ 500); rw [q0, q1]; first | omega | decide)
                obtain ⟨x48, ex48⟩ : ∃ y : Int32, y = y6 + 1 := ⟨_, rfl⟩
                have tx48 : x48.toInt = y6.toInt + 1 := z_tadd ex48 rfl z_l1 (by omega) (by omega)
                refine lv_iinc (v := x48) (lv' := [(2, .int x48), (3, .int (I7 12 7)), (0, .ref (ad 12)), (1, .int 1)]) hx hb dX9_product_73 hl (k := 1) rfl (by rw [ex48]; rfl) (by decide) rfl (fun ls hl => ?_)
                refine lv_goto (tgt := 12) hx hb dX9_product_76 (by decide) ?_
                exact lp5ih x48 I45  _ _ _ (by omega) (by omega) ⟨(by show 0 ≤ (I45 12 1).toInt ∧ (I45 12 1).toInt ≤ 500; exact hI45R.1), (by show 0 ≤ (I45 12 5).toInt ∧ (I45 12 5).toInt ≤ 501; exact hI45R.2.1), (by show (-1) ≤ (I45 12 6).toInt ∧ (I45 12 6).toInt ≤ 1000000; exact hI45R.2.2.1), (by show 0 ≤ (I45 12 9).toInt ∧ (I45 12 9).toInt ≤ 500; exact hI45R.2.2.2.1), (by show 0 ≤ (I45 12 13).toInt ∧ (I45 12 13).toInt ≤ 24; exact hI45R.2.2.2.2)⟩ (by show (I45 12 6).toInt ≤ 501 ∧ ((I45 12 7).toInt = 401 ∨ (I45 12 6).toInt ≤ 500); first | omega | decide) f46 hW hS (lv_sub hl [0, 2, 3] rfl)
              · refine lv_if_ne (tgt := 56) hx hb dX9_product_51 (by decide) (fun c49 => absurd (by decide) c49) (fun c49 => ?_)
                refine lv_iconst (v := 0) hx hb dX9_product_54 (by decide) ?_
                exact z_zret hx hb hr (by decide) hK hS (Nat.le_of_ble_eq_true rfl) (Nat.le_of_ble_eq_true rfl) hlocks dX9_product_55 (shC c, ad, I39, JX, PC c ad) hW ⟨I39, rfl, ⟨(by show 0 ≤ (I39 12 1).toInt ∧ (I39 12 1).toInt ≤ 500; exact hI39R.1), (by show 0 ≤ (I39 12 5).toInt ∧ (I39 12 5).toInt ≤ 501; exact hI39R.2.1), (by show (-1) ≤ (I39 12 6).toInt ∧ (I39 12 6).toInt ≤ 1000000; exact hI39R.2.2.1), (by show 0 ≤ (I39 12 9).toInt ∧ (I39 12 9).toInt ≤ 500; exact hI39R.2.2.2.1), (by show 0 ≤ (I39 12 13).toInt ∧ (I39 12 13).toInt ≤ 24; exact hI39R.2.2.2.2)⟩, (by show (I39 12 6).toInt ≤ 501 ∧ ((I39 12 7).toInt = 401 ∨ (I39 12 6).toInt ≤ 500); first | omega | decide), f40, Or.inr rfl⟩
    exact lp5 4294967296 (0) I1  _ _ _ (z_m0u _) (by rw [z_l0]; omega) ⟨(by show 0 ≤ (I1 12 1).toInt ∧ (I1 12 1).toInt ≤ 500; exact hI1R.1), (by show 0 ≤ (I1 12 5).toInt ∧ (I1 12 5).toInt ≤ 501; exact hI1R.2.1), (by show (-1) ≤ (I1 12 6).toInt ∧ (I1 12 6).toInt ≤ 1000000; exact hI1R.2.2.1), (by show 0 ≤ (I1 12 9).toInt ∧ (I1 12 9).toInt ≤ 500; exact hI1R.2.2.2.1), (by show 0 ≤ (I1 12 13).toInt ∧ (I1 12 13).toInt ≤ 24; exact hI1R.2.2.2.2)⟩ (by show (I1 12 6).toInt ≤ 501 ∧ ((I1 12 7).toInt = 401 ∨ (I1 12 6).toInt ≤ 500); first | omega | decide) f2 hW hS (lv_sub hl [0, 1, 2] rfl)
  · refine lv_if_ne (tgt := 10) hx hb dX9_product_5 (by decide) (fun c50 => absurd (by decide) c50) (fun c50 => ?_)
    refine lv_iconst (v := 0) hx hb dX9_product_8 (by decide) ?_
    exact z_zret hx hb hr (by decide) hK hS (Nat.le_of_ble_eq_true rfl) (Nat.le_of_ble_eq_true rfl) hlocks dX9_product_9 (shC c, ad, I1, JX, PC c ad) hW ⟨I1, rfl, ⟨(by show 0 ≤ (I1 12 1).toInt ∧ (I1 12 1).toInt ≤ 500; exact hI1R.1), (by show 0 ≤ (I1 12 5).toInt ∧ (I1 12 5).toInt ≤ 501; exact hI1R.2.1), (by show (-1) ≤ (I1 12 6).toInt ∧ (I1 12 6).toInt ≤ 1000000; exact hI1R.2.2.1), (by show 0 ≤ (I1 12 9).toInt ∧ (I1 12 9).toInt ≤ 500; exact hI1R.2.2.2.1), (by show 0 ≤ (I1 12 13).toInt ∧ (I1 12 13).toInt ≤ 24; exact hI1R.2.2.2.2)⟩, (by show (I1 12 6).toInt ≤ 501 ∧ ((I1 12 7).toInt = 401 ∨ (I1 12 6).toInt ≤ 500); first | omega | decide), f2, Or.inr rfl⟩
def L_X9_sum_1 : z_L := [(12, 6), (12, 7), (17, 999), (12, 9)]
set_option maxHeartbeats 8000000 in
set_option maxRecDepth 100000 in
theorem sx_X9_sum_1 (l : Launch) (G : z_G) (ad : Nat → Nat) (c : z_C) (I : z_I) (hR : z_iR I) (hT : z_iT I) : z_M l yX9_sum wsX9_sum { frames := 29, cells := 0, slots := 0, locals := 642 } [.ref (ad 12), .int 1] G (shC c, ad, I, JX, PC c ad) (fun r u1 => ∃ I1 : z_I, u1 = (shC c, ad, I1, JX, PC c ad) ∧ z_iR I1 ∧ z_iT I1 ∧ z_fr L_X9_sum_1 I1 I ∧ (r = 1 ∨ r = 0)) 0 0 := by
  intro sz
  refine z_headQ (cc := cX9_sum) (maxL := 4) (ret := (some .boolean)) (by decide) rfl (Nat.le_of_ble_eq_true rfl) ?_
  intro p e s m below meth c0 ls hIn hK hsz hW hl
  obtain ⟨hx, hb, hr, hml, hown, hts, hlocks, hname⟩ := hIn
  subst hsz
  have hown : s.vm.findClass RX9 = some m.cls := hown
  have hA : ∀ q : Nat, s.heap.size ≤ q → z_A (shC c, ad, I, JX, PC c ad) s.heap.size q := fun q h => Or.inr h
  generalize hAe : z_A (shC c, ad, I, JX, PC c ad) s.heap.size = A at *
  have hS : va_S A s.heap s.heap [] := va_S.rf
  have hl : lv_has ls 4 [(0, .ref (ad 12)), (1, .int 1)] := hl
  have kT : (I 12 6).toInt ≤ 501 ∧ ((I 12 7).toInt = 401 ∨ (I 12 6).toInt ≤ 500) := hT
  refine lv_aload_n hx hb dX9_sum_0 rfl (lv_at hl 0 rfl) ?_
  refine lv_iload_n hx hb dX9_sum_1 rfl (lv_at hl 1 rfl) ?_
  refine z_ci hW hS hA (va_runV (As := [.int 1]) (rest := []) ⟨hx, hb, hml, hown, hts⟩ (sx_X9_product_1 l G ad c I ⟨(by show 0 ≤ (I 12 1).toInt ∧ (I 12 1).toInt ≤ 500; exact hR.1), (by show 0 ≤ (I 12 5).toInt ∧ (I 12 5).toInt ≤ 501; exact hR.2.1), (by show (-1) ≤ (I 12 6).toInt ∧ (I 12 6).toInt ≤ 1000000; exact hR.2.2.1), (by show 0 ≤ (I 12 9).toInt ∧ (I 12 9).toInt ≤ 500; exact hR.2.2.2.1), (by show 0 ≤ (I 12 13).toInt ∧ (I 12 13).toInt ≤ 24; exact hR.2.2.2.2)⟩ (by show (I 12 6).toInt ≤ 501 ∧ ((I 12 7).toInt = 401 ∨ (I 12 6).toInt ≤ 500); first | omega | decide) _) (cwV 1 hts gX9_sum_X9_product rfl rfl rfl (by decide +kernel) ⟨Nat.le_of_ble_eq_true rfl, Nat.le_of_ble_eq_true rfl⟩) (z_preV (i := 12) hK hW rfl rfl) rfl rfl hl.1 rfl (lv_room (Nat.le_of_ble_eq_true rfl)) dX9_sum_2 ⟨Nat.le_of_ble_eq_true rfl, Nat.le_of_ble_eq_true rfl⟩) (fun r u1 H locs hp hW hS => ?_)
  obtain ⟨I1, e9, hI1R, hI1T, fI1, hp⟩ := hp
  rw [e9] at hW
  have f2 := z_fr_sub (L := L_X9_sum_1) z_fr_0 fI1 (by decide)
  have k3 : (I1 12 6).toInt ≤ 501 ∧ ((I1 12 7).toInt = 401 ∨ (I1 12 6).toInt ≤ 500) := hI1T
  rcases hp with rfl | rfl
  · refine lv_if_ne (tgt := 10) hx hb dX9_sum_5 (by decide) (fun c4 => ?_) (fun c4 => absurd c4 (by decide))
    refine lv_iconst (v := 0) hx hb dX9_sum_10 (by decide) ?_
    refine lv_istore_n (lv' := [(2, .int 0), (0, .ref (ad 12)), (1, .int 1)]) hx hb dX9_sum_11 rfl hl (by decide) rfl (fun ls hl => ?_)
    have lp5 : ∀ (f : Nat) (y6 : Int32) (I7 : z_I) (H : Heap) (locs : List Loc) (ls : Array Slot), (2147483647 < y6.toInt + (f : Int)) → (0 ≤ y6.toInt) → (z_iR I7) → (z_iT I7) → (z_fr L_X9_sum_1 I7 I) → z_W G A (shC c, ad, I7, JX, PC c ad) H → va_S A s.heap H locs → lv_has ls 4 [(2, .int y6), (0, .ref (ad 12)), (1, .int 1)] → W p l e (headSpec wsX9_sum { frames := 29, cells := 0, slots := 0, locals := 642 }).room s m ([.ref (ad 12), .int 1] : List Value).toArray below meth c0 H locs 0 0 (MQ below (va_Qi (fun (r : Int32) (u1 : z_U) => ∃ I1 : z_I, u1 = (shC c, ad, I1, JX, PC c ad) ∧ z_iR I1 ∧ z_iT I1 ∧ z_fr L_X9_sum_1 I1 I ∧ (r = 1 ∨ r = 0)) (z_B G A) A) ([.ref (ad 12), .int 1] : List Value).toArray s 0 0 A) (F0 m 12 ls []) := by
      intro f
      induction f with
      | zero => intro y6 I7  H locs ls lp5m lp5l2 lp5R lp5T lp5fr hW hS hl; exact absurd lp5m (by have := Int32.toInt_lt y6; have := Int32.le_toInt y6; omega)
      | succ f lp5ih =>
        intro y6 I7  H locs ls lp5m lp5l2 lp5R lp5T lp5fr hW hS hl
        have k8 : (I7 12 6).toInt ≤ 501 ∧ ((I7 12 7).toInt = 401 ∨ (I7 12 6).toInt ≤ 500) := lp5T
        refine lv_iload_n hx hb dX9_sum_12 rfl (lv_at hl 0 rfl) ?_
        refine lv_sipush (v := 500) hx hb dX9_sum_13 (by decide) ?_
        refine lv_icmp_ge (tgt := 78) hx hb dX9_sum_16 (by decide) (fun c9 => ?_) (fun c9 => ?_)
        · have g10 := z_f_ge rfl z_l500 c9
          have b11 := Int32.toInt_lt y6
          refine lv_iconst (v := 1) hx hb dX9_sum_78 (by decide) ?_
          exact z_zret hx hb hr (by decide) hK hS (Nat.le_of_ble_eq_true rfl) (Nat.le_of_ble_eq_true rfl) hlocks dX9_sum_79 (shC c, ad, I7, JX, PC c ad) hW ⟨I7, rfl, ⟨(by show 0 ≤ (I7 12 1).toInt ∧ (I7 12 1).toInt ≤ 500; exact lp5R.1), (by show 0 ≤ (I7 12 5).toInt ∧ (I7 12 5).toInt ≤ 501; exact lp5R.2.1), (by show (-1) ≤ (I7 12 6).toInt ∧ (I7 12 6).toInt ≤ 1000000; exact lp5R.2.2.1), (by show 0 ≤ (I7 12 9).toInt ∧ (I7 12 9).toInt ≤ 500; exact lp5R.2.2.2.1), (by show 0 ≤ (I7 12 13).toInt ∧ (I7 12 13).toInt ≤ 24; exact lp5R.2.2.2.2)⟩, (by show (I7 12 6).toInt ≤ 501 ∧ ((I7 12 7).toInt = 401 ∨ (I7 12 6).toInt ≤ 500); first | omega | decide), lp5fr, Or.inl rfl⟩
        · have g12 := z_f_nge rfl z_l500 c9
          have b13 := Int32.toInt_lt y6
          refine lv_aload_n hx hb dX9_sum_19 rfl (lv_at hl 1 rfl) ?_
          refine z_get (T := TX9) (N := 14) (ci := 9) (i := 12) (v := .int (I7 12 7)) hx hb hts zj_X9_sum_X9 hown hK hW rfl rfl 7 (by decide) (hts (.fieldLink RX9 62 "PetrolBoard$Reader" "token" "I") (List.mem_of_getElem? (i := 1) rfl)) (fun _ h => h) rfl dX9_sum_20 ?_
          refine lv_bipush (v := 43) hx hb dX9_sum_23 (by decide) ?_
          refine lv_icmp_eq (tgt := 37) hx hb dX9_sum_25 (by decide) (fun c14 => ?_) (fun c14 => ?_)
          · have g15 := z_f_eq rfl z_l43 c14
            have b16 := Int32.toInt_lt (I7 12 7)
            refine lv_aload_n hx hb dX9_sum_37 rfl (lv_at hl 1 rfl) ?_
            refine z_get (T := TX9) (N := 14) (ci := 9) (i := 12) (v := .int (I7 12 7)) hx hb hts zj_X9_sum_X9 hown hK hW rfl rfl 7 (by decide) (hts (.fieldLink RX9 62 "PetrolBoard$Reader" "token" "I") (List.mem_of_getElem? (i := 1) rfl)) (fun _ h => h) rfl dX9_sum_38 ?_
            refine lv_istore_n (lv' := [(3, .int (I7 12 7)), (2, .int y6), (0, .ref (ad 12)), (1, .int 1)]) hx hb dX9_sum_41 rfl hl (by decide) rfl (fun ls hl => ?_)
            refine lv_aload_n hx hb dX9_sum_42 rfl (lv_at hl 2 rfl) ?_
            refine z_cv hW hS hA (va_runV (As := []) (rest := []) ⟨hx, hb, hml, hown, hts⟩ (sx_X9_step l G ad c I7 ⟨(by show 0 ≤ (I7 12 1).toInt ∧ (I7 12 1).toInt ≤ 500; exact lp5R.1), (by show 0 ≤ (I7 12 5).toInt ∧ (I7 12 5).toInt ≤ 501; exact lp5R.2.1), (by show (-1) ≤ (I7 12 6).toInt ∧ (I7 12 6).toInt ≤ 1000000; exact lp5R.2.2.1), (by show 0 ≤ (I7 12 9).toInt ∧ (I7 12 9).toInt ≤ 500; exact lp5R.2.2.2.1), (by show 0 ≤ (I7 12 13).toInt ∧ (I7 12 13).toInt ≤ 24; exact lp5R.2.2.2.2)⟩   (by show (I7 12 6).toInt ≤ 500; first | omega | decide) _) (cwV 0 hts gX9_sum_X9_step rfl rfl rfl (by decide +kernel) ⟨Nat.le_of_ble_eq_true rfl, Nat.le_of_ble_eq_true rfl⟩) (z_preV (i := 12) hK hW rfl rfl) rfl rfl hl.1 rfl (lv_room (Nat.le_of_ble_eq_true rfl)) dX9_sum_43 ⟨Nat.le_of_ble_eq_true rfl, Nat.le_of_ble_eq_true rfl⟩) (fun u1 H locs hp hW hS => ?_)
            obtain ⟨I17, e9, hI17R, hI17T, fI17⟩ := hp
            rw [e9] at hW
            have f18 := z_fr_sub (L := L_X9_sum_1) lp5fr fI17 (by decide)
            have k19 : (I17 12 6).toInt ≤ 501 ∧ ((I17 12 7).toInt = 401 ∨ (I17 12 6).toInt ≤ 500) := hI17T
            refine lv_aload_n hx hb dX9_sum_46 rfl (lv_at hl 2 rfl) ?_
            refine lv_iload_n hx hb dX9_sum_47 rfl (lv_at hl 3 rfl) ?_
            refine z_ci hW hS hA (va_runV (As := [.int 1]) (rest := []) ⟨hx, hb, hml, hown, hts⟩ (sx_X9_product_1 l G ad c I17 ⟨(by show 0 ≤ (I17 12 1).toInt ∧ (I17 12 1).toInt ≤ 500; exact hI17R.1), (by show 0 ≤ (I17 12 5).toInt ∧ (I17 12 5).toInt ≤ 501; exact hI17R.2.1), (by show (-1) ≤ (I17 12 6).toInt ∧ (I17 12 6).toInt ≤ 1000000; exact hI17R.2.2.1), (by show 0 ≤ (I17 12 9).toInt ∧ (I17 12 9).toInt ≤ 500; exact hI17R.2.2.2.1), (by show 0 ≤ (I17 12 13).toInt ∧ (I17 12 13).toInt ≤ 24; exact hI17R.2.2.2.2)⟩ (by show (I17 12 6).toInt ≤ 501 ∧ ((I17 12 7).toInt = 401 ∨ (I17 12 6).toInt ≤ 500); first | omega | decide) _) (cwV 1 hts gX9_sum_X9_product rfl rfl rfl (by decide +kernel) ⟨Nat.le_of_ble_eq_true rfl, Nat.le_of_ble_eq_true rfl⟩) (z_preV (i := 12) hK hW rfl rfl) rfl rfl hl.1 rfl (lv_room (Nat.le_of_ble_eq_true rfl)) dX9_sum_48 ⟨Nat.le_of_ble_eq_true rfl, Nat.le_of_ble_eq_true rfl⟩) (fun r u1 H locs hp hW hS => ?_)
            obtain ⟨I20, e9, hI20R, hI20T, fI20, hp⟩ := hp
            rw [e9] at hW
            have f21 := z_fr_sub (L := L_X9_sum_1) f18 fI20 (by decide)
            have k22 : (I20 12 6).toInt ≤ 501 ∧ ((I20 12 7).toInt = 401 ∨ (I20 12 6).toInt ≤ 500) := hI20T
            rcases hp with rfl | rfl
            · refine lv_if_ne (tgt := 56) hx hb dX9_sum_51 (by decide) (fun c23 => ?_) (fun c23 => absurd c23 (by decide))
              refine lv_aload_n hx hb dX9_sum_56 rfl (lv_at hl 2 rfl) ?_
              refine lv_iload_n hx hb dX9_sum_57 rfl (lv_at hl 0 rfl) ?_
              refine lv_bipush (v := 43) hx hb dX9_sum_58 (by decide) ?_
              refine lv_icmp_ne (tgt := 67) hx hb dX9_sum_60 (by decide) (fun c24 => (by have g := z_f_ne rfl z_l43 c24; omega)) (fun c24 => ?_)
              have g25 := z_f_eq rfl z_l43 c24
              refine lv_iconst (v := (-1)) hx hb dX9_sum_63 (by decide) ?_
              refine lv_goto (tgt := 69) hx hb dX9_sum_64 (by decide) ?_
              refine z_cv hW hS hA (va_runV (As := [.int (-1)]) (rest := []) ⟨hx, hb, hml, hown, hts⟩ (sx_X9_emit l G ad c I20 ⟨(by show 0 ≤ (I20 12 1).toInt ∧ (I20 12 1).toInt ≤ 500; exact hI20R.1), (by show 0 ≤ (I20 12 5).toInt ∧ (I20 12 5).toInt ≤ 501; exact hI20R.2.1), (by show (-1) ≤ (I20 12 6).toInt ∧ (I20 12 6).toInt ≤ 1000000; exact hI20R.2.2.1), (by show 0 ≤ (I20 12 9).toInt ∧ (I20 12 9).toInt ≤ 500; exact hI20R.2.2.2.1), (by show 0 ≤ (I20 12 13).toInt ∧ (I20 12 13).toInt ≤ 24; exact hI20R.2.2.2.2)⟩ (-1) _) (cwV 1 hts gX9_sum_X9_emit rfl rfl rfl (by decide +kernel) ⟨Nat.le_of_ble_eq_true rfl, Nat.le_of_ble_eq_true rfl⟩) (z_preV (i := 12) hK hW rfl rfl) rfl rfl hl.1 rfl (lv_room (Nat.le_of_ble_eq_true rfl)) dX9_sum_69 ⟨Nat.le_of_ble_eq_true rfl, Nat.le_of_ble_eq_true rfl⟩) (fun u1 H locs hp hW hS => ?_)
              obtain ⟨I26, e9, hI26R, fI26⟩ := hp
              rw [e9] at hW
              have f27 := z_fr_sub (L := L_X9_sum_1) f21 fI26 (by decide)
              have k28 : (I26 12 6).toInt ≤ 501 ∧ ((I26 12 7).toInt = 401 ∨ (I26 12 6).toInt ≤ 500) := (by have q0 : (I26 12 6) = (I20 12 6) := (by rw [fI26 12 6 (by decide)]); have q1 : (I26 12 7) = (I20 12 7) := (by rw [fI26 12 7 (by decide)]); show (I26 12 6).toInt ≤ 501 ∧ ((I26 12 7).toInt = 401 ∨ (I26 12 6).toInt ≤ 500); rw [q0, q1]; first | omega | decide)
              obtain ⟨x29, ex29⟩ : ∃ y : Int32, y = y6 + 1 := ⟨_, rfl⟩
              have tx29 : x29.toInt = y6.toInt + 1 := z_tadd ex29 rfl z_l1 (by omega) (by omega)
              refine lv_iinc (v := x29) (lv' := [(2, .int x29), (3, .int (I7 12 7)), (0, .ref (ad 12)), (1, .int 1)]) hx hb dX9_sum_72 hl (k := 1) rfl (by rw [ex29]; rfl) (by decide) rfl (fun ls hl => ?_)
              refine lv_goto (tgt := 12) hx hb dX9_sum_75 (by decide) ?_
              exact lp5ih x29 I26  _ _ _ (by omega) (by omega) ⟨(by show 0 ≤ (I26 12 1).toInt ∧ (I26 12 1).toInt ≤ 500; exact hI26R.1), (by show 0 ≤ (I26 12 5).toInt ∧ (I26 12 5).toInt ≤ 501; exact hI26R.2.1), (by show (-1) ≤ (I26 12 6).toInt ∧ (I26 12 6).toInt ≤ 1000000; exact hI26R.2.2.1), (by show 0 ≤ (I26 12 9).toInt ∧ (I26 12 9).toInt ≤ 500; exact hI26R.2.2.2.1), (by show 0 ≤ (I26 12 13).toInt ∧ (I26 12 13).toInt ≤ 24; exact hI26R.2.2.2.2)⟩ (by show (I26 12 6).toInt ≤ 501 ∧ ((I26 12 7).toInt = 401 ∨ (I26 12 6).toInt ≤ 500); first | omega | decide) f27 hW hS (lv_sub hl [0, 2, 3] rfl)
            · refine lv_if_ne (tgt := 56) hx hb dX9_sum_51 (by decide) (fun c30 => absurd (by decide) c30) (fun c30 => ?_)
              refine lv_iconst (v := 0) hx hb dX9_sum_54 (by decide) ?_
              exact z_zret hx hb hr (by decide) hK hS (Nat.le_of_ble_eq_true rfl) (Nat.le_of_ble_eq_true rfl) hlocks dX9_sum_55 (shC c, ad, I20, JX, PC c ad) hW ⟨I20, rfl, ⟨(by show 0 ≤ (I20 12 1).toInt ∧ (I20 12 1).toInt ≤ 500; exact hI20R.1), (by show 0 ≤ (I20 12 5).toInt ∧ (I20 12 5).toInt ≤ 501; exact hI20R.2.1), (by show (-1) ≤ (I20 12 6).toInt ∧ (I20 12 6).toInt ≤ 1000000; exact hI20R.2.2.1), (by show 0 ≤ (I20 12 9).toInt ∧ (I20 12 9).toInt ≤ 500; exact hI20R.2.2.2.1), (by show 0 ≤ (I20 12 13).toInt ∧ (I20 12 13).toInt ≤ 24; exact hI20R.2.2.2.2)⟩, (by show (I20 12 6).toInt ≤ 501 ∧ ((I20 12 7).toInt = 401 ∨ (I20 12 6).toInt ≤ 500); first | omega | decide), f21, Or.inr rfl⟩
          · have g31 := z_f_ne rfl z_l43 c14
            have b32 := Int32.toInt_lt (I7 12 7)
            refine lv_aload_n hx hb dX9_sum_28 rfl (lv_at hl 1 rfl) ?_
            refine z_get (T := TX9) (N := 14) (ci := 9) (i := 12) (v := .int (I7 12 7)) hx hb hts zj_X9_sum_X9 hown hK hW rfl rfl 7 (by decide) (hts (.fieldLink RX9 62 "PetrolBoard$Reader" "token" "I") (List.mem_of_getElem? (i := 1) rfl)) (fun _ h => h) rfl dX9_sum_29 ?_
            refine lv_bipush (v := 45) hx hb dX9_sum_32 (by decide) ?_
            refine lv_icmp_ne (tgt := 78) hx hb dX9_sum_34 (by decide) (fun c33 => ?_) (fun c33 => ?_)
            · have g34 := z_f_ne rfl z_l45 c33
              refine lv_iconst (v := 1) hx hb dX9_sum_78 (by decide) ?_
              exact z_zret hx hb hr (by decide) hK hS (Nat.le_of_ble_eq_true rfl) (Nat.le_of_ble_eq_true rfl) hlocks dX9_sum_79 (shC c, ad, I7, JX, PC c ad) hW ⟨I7, rfl, ⟨(by show 0 ≤ (I7 12 1).toInt ∧ (I7 12 1).toInt ≤ 500; exact lp5R.1), (by show 0 ≤ (I7 12 5).toInt ∧ (I7 12 5).toInt ≤ 501; exact lp5R.2.1), (by show (-1) ≤ (I7 12 6).toInt ∧ (I7 12 6).toInt ≤ 1000000; exact lp5R.2.2.1), (by show 0 ≤ (I7 12 9).toInt ∧ (I7 12 9).toInt ≤ 500; exact lp5R.2.2.2.1), (by show 0 ≤ (I7 12 13).toInt ∧ (I7 12 13).toInt ≤ 24; exact lp5R.2.2.2.2)⟩, (by show (I7 12 6).toInt ≤ 501 ∧ ((I7 12 7).toInt = 401 ∨ (I7 12 6).toInt ≤ 500); first | omega | decide), lp5fr, Or.inl rfl⟩
            · have g35 := z_f_eq rfl z_l45 c33
              refine lv_aload_n hx hb dX9_sum_37 rfl (lv_at hl 1 rfl) ?_
              refine z_get (T := TX9) (N := 14) (ci := 9) (i := 12) (v := .int (I7 12 7)) hx hb hts zj_X9_sum_X9 hown hK hW rfl rfl 7 (by decide) (hts (.fieldLink RX9 62 "PetrolBoard$Reader" "token" "I") (List.mem_of_getElem? (i := 1) rfl)) (fun _ h => h) rfl dX9_sum_38 ?_
              refine lv_istore_n (lv' := [(3, .int (I7 12 7)), (2, .int y6), (0, .ref (ad 12)), (1, .int 1)]) hx hb dX9_sum_41 rfl hl (by decide) rfl (fun ls hl => ?_)
              refine lv_aload_n hx hb dX9_sum_42 rfl (lv_at hl 2 rfl) ?_
              refine z_cv hW hS hA (va_runV (As := []) (rest := []) ⟨hx, hb, hml, hown, hts⟩ (sx_X9_step l G ad c I7 ⟨(by show 0 ≤ (I7 12 1).toInt ∧ (I7 12 1).toInt ≤ 500; exact lp5R.1), (by show 0 ≤ (I7 12 5).toInt ∧ (I7 12 5).toInt ≤ 501; exact lp5R.2.1), (by show (-1) ≤ (I7 12 6).toInt ∧ (I7 12 6).toInt ≤ 1000000; exact lp5R.2.2.1), (by show 0 ≤ (I7 12 9).toInt ∧ (I7 12 9).toInt ≤ 500; exact lp5R.2.2.2.1), (by show 0 ≤ (I7 12 13).toInt ∧ (I7 12 13).toInt ≤ 24; exact lp5R.2.2.2.2)⟩   (by show (I7 12 6).toInt ≤ 500; first | omega | decide) _) (cwV 0 hts gX9_sum_X9_step rfl rfl rfl (by decide +kernel) ⟨Nat.le_of_ble_eq_true rfl, Nat.le_of_ble_eq_true rfl⟩) (z_preV (i := 12) hK hW rfl rfl) rfl rfl hl.1 rfl (lv_room (Nat.le_of_ble_eq_true rfl)) dX9_sum_43 ⟨Nat.le_of_ble_eq_true rfl, Nat.le_of_ble_eq_true rfl⟩) (fun u1 H locs hp hW hS => ?_)
              obtain ⟨I36, e9, hI36R, hI36T, fI36⟩ := hp
              rw [e9] at hW
              have f37 := z_fr_sub (L := L_X9_sum_1) lp5fr fI36 (by decide)
              have k38 : (I36 12 6).toInt ≤ 501 ∧ ((I36 12 7).toInt = 401 ∨ (I36 12 6).toInt ≤ 500) := hI36T
              refine lv_aload_n hx hb dX9_sum_46 rfl (lv_at hl 2 rfl) ?_
              refine lv_iload_n hx hb dX9_sum_47 rfl (lv_at hl 3 rfl) ?_
              refine z_ci hW hS hA (va_runV (As := [.int 1]) (rest := []) ⟨hx, hb, hml, hown, hts⟩ (sx_X9_product_1 l G ad c I36 ⟨(by show 0 ≤ (I36 12 1).toInt ∧ (I36 12 1).toInt ≤ 500; exact hI36R.1), (by show 0 ≤ (I36 12 5).toInt ∧ (I36 12 5).toInt ≤ 501; exact hI36R.2.1), (by show (-1) ≤ (I36 12 6).toInt ∧ (I36 12 6).toInt ≤ 1000000; exact hI36R.2.2.1), (by show 0 ≤ (I36 12 9).toInt ∧ (I36 12 9).toInt ≤ 500; exact hI36R.2.2.2.1), (by show 0 ≤ (I36 12 13).toInt ∧ (I36 12 13).toInt ≤ 24; exact hI36R.2.2.2.2)⟩ (by show (I36 12 6).toInt ≤ 501 ∧ ((I36 12 7).toInt = 401 ∨ (I36 12 6).toInt ≤ 500); first | omega | decide) _) (cwV 1 hts gX9_sum_X9_product rfl rfl rfl (by decide +kernel) ⟨Nat.le_of_ble_eq_true rfl, Nat.le_of_ble_eq_true rfl⟩) (z_preV (i := 12) hK hW rfl rfl) rfl rfl hl.1 rfl (lv_room (Nat.le_of_ble_eq_true rfl)) dX9_sum_48 ⟨Nat.le_of_ble_eq_true rfl, Nat.le_of_ble_eq_true rfl⟩) (fun r u1 H locs hp hW hS => ?_)
              obtain ⟨I39, e9, hI39R, hI39T, fI39, hp⟩ := hp
              rw [e9] at hW
              have f40 := z_fr_sub (L := L_X9_sum_1) f37 fI39 (by decide)
              have k41 : (I39 12 6).toInt ≤ 501 ∧ ((I39 12 7).toInt = 401 ∨ (I39 12 6).toInt ≤ 500) := hI39T
              rcases hp with rfl | rfl
              · refine lv_if_ne (tgt := 56) hx hb dX9_sum_51 (by decide) (fun c42 => ?_) (fun c42 => absurd c42 (by decide))
                refine lv_aload_n hx hb dX9_sum_56 rfl (lv_at hl 2 rfl) ?_
                refine lv_iload_n hx hb dX9_sum_57 rfl (lv_at hl 0 rfl) ?_
                refine lv_bipush (v := 43) hx hb dX9_sum_58 (by decide) ?_
                refine lv_icmp_ne (tgt := 67) hx hb dX9_sum_60 (by decide) (fun c43 => ?_) (fun c43 => (by have g := z_f_eq rfl z_l43 c43; omega))
                have g44 := z_f_ne rfl z_l43 c43
                refine lv_bipush (v := (-2)) hx hb dX9_sum_67 (by decide) ?_
                refine z_cv hW hS hA (va_runV (As := [.int (-2)]) (rest := []) ⟨hx, hb, hml, hown, hts⟩ (sx_X9_emit l G ad c I39 ⟨(by show 0 ≤ (I39 12 1).toInt ∧ (I39 12 1).toInt ≤ 500; exact hI39R.1), (by show 0 ≤ (I39 12 5).toInt ∧ (I39 12 5).toInt ≤ 501; exact hI39R.2.1), (by show (-1) ≤ (I39 12 6).toInt ∧ (I39 12 6).toInt ≤ 1000000; exact hI39R.2.2.1), (by show 0 ≤ (I39 12 9).toInt ∧ (I39 12 9).toInt ≤ 500; exact hI39R.2.2.2.1), (by show 0 ≤ (I39 12 13).toInt ∧ (I39 12 13).toInt ≤ 24; exact hI39R.2.2.2.2)⟩ (-2) _) (cwV 1 hts gX9_sum_X9_emit rfl rfl rfl (by decide +kernel) ⟨Nat.le_of_ble_eq_true rfl, Nat.le_of_ble_eq_true rfl⟩) (z_preV (i := 12) hK hW rfl rfl) rfl rfl hl.1 rfl (lv_room (Nat.le_of_ble_eq_true rfl)) dX9_sum_69 ⟨Nat.le_of_ble_eq_true rfl, Nat.le_of_ble_eq_true rfl⟩) (fun u1 H locs hp hW hS => ?_)
                obtain ⟨I45, e9, hI45R, fI45⟩ := hp
                rw [e9] at hW
                have f46 := z_fr_sub (L := L_X9_sum_1) f40 fI45 (by decide)
                have k47 : (I45 12 6).toInt ≤ 501 ∧ ((I45 12 7).toInt = 401 ∨ (I45 12 6).toInt ≤ 500) := (by have q0 : (I45 12 6) = (I39 12 6) := (by rw [fI45 12 6 (by decide)]); have q1 : (I45 12 7) = (I39 12 7) := (by rw [fI45 12 7 (by decide)]); show (I45 12 6).toInt ≤ 501 ∧ ((I45 12 7).toInt = 401 ∨ (I45 12 6).toInt ≤ 500); rw [q0, q1]; first | omega | decide)
                obtain ⟨x48, ex48⟩ : ∃ y : Int32, y = y6 + 1 := ⟨_, rfl⟩
                have tx48 : x48.toInt = y6.toInt + 1 := z_tadd ex48 rfl z_l1 (by omega) (by omega)
                refine lv_iinc (v := x48) (lv' := [(2, .int x48), (3, .int (I7 12 7)), (0, .ref (ad 12)), (1, .int 1)]) hx hb dX9_sum_72 hl (k := 1) rfl (by rw [ex48]; rfl) (by decide) rfl (fun ls hl => ?_)
                refine lv_goto (tgt := 12) hx hb dX9_sum_75 (by decide) ?_
                exact lp5ih x48 I45  _ _ _ (by omega) (by omega) ⟨(by show 0 ≤ (I45 12 1).toInt ∧ (I45 12 1).toInt ≤ 500; exact hI45R.1), (by show 0 ≤ (I45 12 5).toInt ∧ (I45 12 5).toInt ≤ 501; exact hI45R.2.1), (by show (-1) ≤ (I45 12 6).toInt ∧ (I45 12 6).toInt ≤ 1000000; exact hI45R.2.2.1), (by show 0 ≤ (I45 12 9).toInt ∧ (I45 12 9).toInt ≤ 500; exact hI45R.2.2.2.1), (by show 0 ≤ (I45 12 13).toInt ∧ (I45 12 13).toInt ≤ 24; exact hI45R.2.2.2.2)⟩ (by show (I45 12 6).toInt ≤ 501 ∧ ((I45 12 7).toInt = 401 ∨ (I45 12 6).toInt ≤ 500); first | omega | decide) f46 hW hS (lv_sub hl [0, 2, 3] rfl)
              · refine lv_if_ne (tgt := 56) hx hb dX9_sum_51 (by decide) (fun c49 => absurd (by decide) c49) (fun c49 => ?_)
                refine lv_iconst (v := 0) hx hb dX9_sum_54 (by decide) ?_
                exact z_zret hx hb hr (by decide) hK hS (Nat.le_of_ble_eq_true rfl) (Nat.le_of_ble_eq_true rfl) hlocks dX9_sum_55 (shC c, ad, I39, JX, PC c ad) hW ⟨I39, rfl, ⟨(by show 0 ≤ (I39 12 1).toInt ∧ (I39 12 1).toInt ≤ 500; exact hI39R.1), (by show 0 ≤ (I39 12 5).toInt ∧ (I39 12 5).toInt ≤ 501; exact hI39R.2.1), (by show (-1) ≤ (I39 12 6).toInt ∧ (I39 12 6).toInt ≤ 1000000; exact hI39R.2.2.1), (by show 0 ≤ (I39 12 9).toInt ∧ (I39 12 9).toInt ≤ 500; exact hI39R.2.2.2.1), (by show 0 ≤ (I39 12 13).toInt ∧ (I39 12 13).toInt ≤ 24; exact hI39R.2.2.2.2)⟩, (by show (I39 12 6).toInt ≤ 501 ∧ ((I39 12 7).toInt = 401 ∨ (I39 12 6).toInt ≤ 500); first | omega | decide), f40, Or.inr rfl⟩
    exact lp5 4294967296 (0) I1  _ _ _ (z_m0u _) (by rw [z_l0]; omega) ⟨(by show 0 ≤ (I1 12 1).toInt ∧ (I1 12 1).toInt ≤ 500; exact hI1R.1), (by show 0 ≤ (I1 12 5).toInt ∧ (I1 12 5).toInt ≤ 501; exact hI1R.2.1), (by show (-1) ≤ (I1 12 6).toInt ∧ (I1 12 6).toInt ≤ 1000000; exact hI1R.2.2.1), (by show 0 ≤ (I1 12 9).toInt ∧ (I1 12 9).toInt ≤ 500; exact hI1R.2.2.2.1), (by show 0 ≤ (I1 12 13).toInt ∧ (I1 12 13).toInt ≤ 24; exact hI1R.2.2.2.2)⟩ (by show (I1 12 6).toInt ≤ 501 ∧ ((I1 12 7).toInt = 401 ∨ (I1 12 6).toInt ≤ 500); first | omega | decide) f2 hW hS (lv_sub hl [0, 1, 2] rfl)
  · refine lv_if_ne (tgt := 10) hx hb dX9_sum_5 (by decide) (fun c50 => absurd (by decide) c50) (fun c50 => ?_)
    refine lv_iconst (v := 0) hx hb dX9_sum_8 (by decide) ?_
    exact z_zret hx hb hr (by decide) hK hS (Nat.le_of_ble_eq_true rfl) (Nat.le_of_ble_eq_true rfl) hlocks dX9_sum_9 (shC c, ad, I1, JX, PC c ad) hW ⟨I1, rfl, ⟨(by show 0 ≤ (I1 12 1).toInt ∧ (I1 12 1).toInt ≤ 500; exact hI1R.1), (by show 0 ≤ (I1 12 5).toInt ∧ (I1 12 5).toInt ≤ 501; exact hI1R.2.1), (by show (-1) ≤ (I1 12 6).toInt ∧ (I1 12 6).toInt ≤ 1000000; exact hI1R.2.2.1), (by show 0 ≤ (I1 12 9).toInt ∧ (I1 12 9).toInt ≤ 500; exact hI1R.2.2.2.1), (by show 0 ≤ (I1 12 13).toInt ∧ (I1 12 13).toInt ≤ 24; exact hI1R.2.2.2.2)⟩, (by show (I1 12 6).toInt ≤ 501 ∧ ((I1 12 7).toInt = 401 ∨ (I1 12 6).toInt ≤ 500); first | omega | decide), f2, Or.inr rfl⟩
def L_X9_opened_1 : z_L := [(12, 6), (12, 7), (17, 999), (12, 9)]
set_option maxHeartbeats 8000000 in
set_option maxRecDepth 100000 in
theorem sx_X9_opened_1 (l : Launch) (G : z_G) (ad : Nat → Nat) (c : z_C) (I : z_I) (hR : z_iR I) (hT : z_iT I) : z_M l yX9_opened wsX9_opened { frames := 37, cells := 0, slots := 0, locals := 803 } [.ref (ad 12), .int 1] G (shC c, ad, I, JX, PC c ad) (fun r u1 => ∃ I1 : z_I, u1 = (shC c, ad, I1, JX, PC c ad) ∧ z_iR I1 ∧ z_iT I1 ∧ z_fr L_X9_opened_1 I1 I ∧ (r = 1 ∨ r = 0)) 0 0 := by
  intro sz
  refine z_headQ (cc := cX9_opened) (maxL := 3) (ret := (some .boolean)) (by decide) rfl (Nat.le_of_ble_eq_true rfl) ?_
  intro p e s m below meth c0 ls hIn hK hsz hW hl
  obtain ⟨hx, hb, hr, hml, hown, hts, hlocks, hname⟩ := hIn
  subst hsz
  have hown : s.vm.findClass RX9 = some m.cls := hown
  have hA : ∀ q : Nat, s.heap.size ≤ q → z_A (shC c, ad, I, JX, PC c ad) s.heap.size q := fun q h => Or.inr h
  generalize hAe : z_A (shC c, ad, I, JX, PC c ad) s.heap.size = A at *
  have hS : va_S A s.heap s.heap [] := va_S.rf
  have hl : lv_has ls 3 [(0, .ref (ad 12)), (1, .int 1)] := hl
  have kT : (I 12 6).toInt ≤ 501 ∧ ((I 12 7).toInt = 401 ∨ (I 12 6).toInt ≤ 500) := hT
  refine lv_iload_n hx hb dX9_opened_0 rfl (lv_at hl 1 rfl) ?_
  refine lv_bipush (v := 9) hx hb dX9_opened_1 (by decide) ?_
  refine lv_icmp_lt (tgt := 8) hx hb dX9_opened_3 (by decide) (fun c1 => ?_) (fun c1 => absurd (by decide) c1)
  refine lv_aload_n hx hb dX9_opened_8 rfl (lv_at hl 0 rfl) ?_
  refine z_get (T := TX9) (N := 14) (ci := 9) (i := 12) (v := .int (I 12 7)) hx hb hts zj_X9_opened_X9 hown hK hW rfl rfl 7 (by decide) (hts (.fieldLink RX9 62 "PetrolBoard$Reader" "token" "I") (List.mem_of_getElem? (i := 1) rfl)) (fun _ h => h) rfl dX9_opened_9 ?_
  refine lv_sipush (v := 311) hx hb dX9_opened_12 (by decide) ?_
  refine lv_icmp_ne (tgt := 22) hx hb dX9_opened_15 (by decide) (fun c2 => ?_) (fun c2 => ?_)
  · have g3 := z_f_ne rfl z_l311 c2
    have b4 := Int32.toInt_lt (I 12 7)
    refine lv_iconst (v := 0) hx hb dX9_opened_22 (by decide) ?_
    refine lv_istore_n (lv' := [(2, .int 0), (0, .ref (ad 12)), (1, .int 1)]) hx hb dX9_opened_23 rfl hl (by decide) rfl (fun ls hl => ?_)
    refine lv_aload_n hx hb dX9_opened_24 rfl (lv_at hl 1 rfl) ?_
    refine z_cv hW hS hA (va_runV (As := []) (rest := []) ⟨hx, hb, hml, hown, hts⟩ (sx_X9_step l G ad c I ⟨(by show 0 ≤ (I 12 1).toInt ∧ (I 12 1).toInt ≤ 500; exact hR.1), (by show 0 ≤ (I 12 5).toInt ∧ (I 12 5).toInt ≤ 501; exact hR.2.1), (by show (-1) ≤ (I 12 6).toInt ∧ (I 12 6).toInt ≤ 1000000; exact hR.2.2.1), (by show 0 ≤ (I 12 9).toInt ∧ (I 12 9).toInt ≤ 500; exact hR.2.2.2.1), (by show 0 ≤ (I 12 13).toInt ∧ (I 12 13).toInt ≤ 24; exact hR.2.2.2.2)⟩   (by show (I 12 6).toInt ≤ 500; first | omega | decide) _) (cwV 0 hts gX9_opened_X9_step rfl rfl rfl (by decide +kernel) ⟨Nat.le_of_ble_eq_true rfl, Nat.le_of_ble_eq_true rfl⟩) (z_preV (i := 12) hK hW rfl rfl) rfl rfl hl.1 rfl (lv_room (Nat.le_of_ble_eq_true rfl)) dX9_opened_25 ⟨Nat.le_of_ble_eq_true rfl, Nat.le_of_ble_eq_true rfl⟩) (fun u1 H locs hp hW hS => ?_)
    obtain ⟨I5, e9, hI5R, hI5T, fI5⟩ := hp
    rw [e9] at hW
    have f6 := z_fr_sub (L := L_X9_opened_1) z_fr_0 fI5 (by decide)
    have k7 : (I5 12 6).toInt ≤ 501 ∧ ((I5 12 7).toInt = 401 ∨ (I5 12 6).toInt ≤ 500) := hI5T
    refine lv_iload_n hx hb dX9_opened_28 rfl (lv_at hl 0 rfl) ?_
    refine lv_if_ne (tgt := 57) hx hb dX9_opened_29 (by decide) (fun c8 => absurd (by decide) c8) (fun c8 => ?_)
    refine lv_aload_n hx hb dX9_opened_32 rfl (lv_at hl 1 rfl) ?_
    refine lv_iload_n hx hb dX9_opened_33 rfl (lv_at hl 2 rfl) ?_
    refine lv_iconst (v := 1) hx hb dX9_opened_34 (by decide) ?_
    refine lv_iadd hx hb dX9_opened_35 ?_
    refine z_topi (v := 2) (by decide) ?_
    refine z_ci hW hS hA (va_runV (As := [.int 2]) (rest := []) ⟨hx, hb, hml, hown, hts⟩ (sx_X9_either_2 l G ad c I5 ⟨(by show 0 ≤ (I5 12 1).toInt ∧ (I5 12 1).toInt ≤ 500; exact hI5R.1), (by show 0 ≤ (I5 12 5).toInt ∧ (I5 12 5).toInt ≤ 501; exact hI5R.2.1), (by show (-1) ≤ (I5 12 6).toInt ∧ (I5 12 6).toInt ≤ 1000000; exact hI5R.2.2.1), (by show 0 ≤ (I5 12 9).toInt ∧ (I5 12 9).toInt ≤ 500; exact hI5R.2.2.2.1), (by show 0 ≤ (I5 12 13).toInt ∧ (I5 12 13).toInt ≤ 24; exact hI5R.2.2.2.2)⟩ (by show (I5 12 6).toInt ≤ 501 ∧ ((I5 12 7).toInt = 401 ∨ (I5 12 6).toInt ≤ 500); first | omega | decide) _) (cwV 1 hts gX9_opened_X9_either rfl rfl rfl (by decide +kernel) ⟨Nat.le_of_ble_eq_true rfl, Nat.le_of_ble_eq_true rfl⟩) (z_preV (i := 12) hK hW rfl rfl) rfl rfl hl.1 rfl (lv_room (Nat.le_of_ble_eq_true rfl)) dX9_opened_36 ⟨Nat.le_of_ble_eq_true rfl, Nat.le_of_ble_eq_true rfl⟩) (fun r u1 H locs hp hW hS => ?_)
    obtain ⟨I9, e9, hI9R, hI9T, fI9, hp⟩ := hp
    rw [e9] at hW
    have f10 := z_fr_sub (L := L_X9_opened_1) f6 fI9 (by decide)
    have k11 : (I9 12 6).toInt ≤ 501 ∧ ((I9 12 7).toInt = 401 ∨ (I9 12 6).toInt ≤ 500) := hI9T
    rcases hp with rfl | rfl
    · refine lv_if_eq (tgt := 55) hx hb dX9_opened_39 (by decide) (fun c12 => absurd c12 (by decide)) (fun c12 => ?_)
      refine lv_aload_n hx hb dX9_opened_42 rfl (lv_at hl 1 rfl) ?_
      refine lv_bipush (v := 125) hx hb dX9_opened_43 (by decide) ?_
      refine z_ci hW hS hA (va_runV (As := [.int 125]) (rest := []) ⟨hx, hb, hml, hown, hts⟩ (sx_X9_taken l G ad c I9 ⟨(by show 0 ≤ (I9 12 1).toInt ∧ (I9 12 1).toInt ≤ 500; exact hI9R.1), (by show 0 ≤ (I9 12 5).toInt ∧ (I9 12 5).toInt ≤ 501; exact hI9R.2.1), (by show (-1) ≤ (I9 12 6).toInt ∧ (I9 12 6).toInt ≤ 1000000; exact hI9R.2.2.1), (by show 0 ≤ (I9 12 9).toInt ∧ (I9 12 9).toInt ≤ 500; exact hI9R.2.2.2.1), (by show 0 ≤ (I9 12 13).toInt ∧ (I9 12 13).toInt ≤ 24; exact hI9R.2.2.2.2)⟩ (by show (I9 12 6).toInt ≤ 501 ∧ ((I9 12 7).toInt = 401 ∨ (I9 12 6).toInt ≤ 500); first | omega | decide) 125 (by first | omega | decide) _) (cwV 1 hts gX9_opened_X9_taken rfl rfl rfl (by decide +kernel) ⟨Nat.le_of_ble_eq_true rfl, Nat.le_of_ble_eq_true rfl⟩) (z_preV (i := 12) hK hW rfl rfl) rfl rfl hl.1 rfl (lv_room (Nat.le_of_ble_eq_true rfl)) dX9_opened_45 ⟨Nat.le_of_ble_eq_true rfl, Nat.le_of_ble_eq_true rfl⟩) (fun r u1 H locs hp hW hS => ?_)
      obtain ⟨I13, e9, hI13R, hI13T, fI13, hp⟩ := hp
      rw [e9] at hW
      have f14 := z_fr_sub (L := L_X9_opened_1) f10 fI13 (by decide)
      have k15 : (I13 12 6).toInt ≤ 501 ∧ ((I13 12 7).toInt = 401 ∨ (I13 12 6).toInt ≤ 500) := hI13T
      rcases hp with rfl | rfl
      · refine lv_if_eq (tgt := 55) hx hb dX9_opened_48 (by decide) (fun c16 => absurd c16 (by decide)) (fun c16 => ?_)
        refine lv_iconst (v := 1) hx hb dX9_opened_51 (by decide) ?_
        refine lv_goto (tgt := 56) hx hb dX9_opened_52 (by decide) ?_
        exact z_zret hx hb hr (by decide) hK hS (Nat.le_of_ble_eq_true rfl) (Nat.le_of_ble_eq_true rfl) hlocks dX9_opened_56 (shC c, ad, I13, JX, PC c ad) hW ⟨I13, rfl, ⟨(by show 0 ≤ (I13 12 1).toInt ∧ (I13 12 1).toInt ≤ 500; exact hI13R.1), (by show 0 ≤ (I13 12 5).toInt ∧ (I13 12 5).toInt ≤ 501; exact hI13R.2.1), (by show (-1) ≤ (I13 12 6).toInt ∧ (I13 12 6).toInt ≤ 1000000; exact hI13R.2.2.1), (by show 0 ≤ (I13 12 9).toInt ∧ (I13 12 9).toInt ≤ 500; exact hI13R.2.2.2.1), (by show 0 ≤ (I13 12 13).toInt ∧ (I13 12 13).toInt ≤ 24; exact hI13R.2.2.2.2)⟩, (by show (I13 12 6).toInt ≤ 501 ∧ ((I13 12 7).toInt = 401 ∨ (I13 12 6).toInt ≤ 500); first | omega | decide), f14, Or.inl rfl⟩
      · refine lv_if_eq (tgt := 55) hx hb dX9_opened_48 (by decide) (fun c17 => ?_) (fun c17 => absurd (by decide) c17)
        refine lv_iconst (v := 0) hx hb dX9_opened_55 (by decide) ?_
        exact z_zret hx hb hr (by decide) hK hS (Nat.le_of_ble_eq_true rfl) (Nat.le_of_ble_eq_true rfl) hlocks dX9_opened_56 (shC c, ad, I13, JX, PC c ad) hW ⟨I13, rfl, ⟨(by show 0 ≤ (I13 12 1).toInt ∧ (I13 12 1).toInt ≤ 500; exact hI13R.1), (by show 0 ≤ (I13 12 5).toInt ∧ (I13 12 5).toInt ≤ 501; exact hI13R.2.1), (by show (-1) ≤ (I13 12 6).toInt ∧ (I13 12 6).toInt ≤ 1000000; exact hI13R.2.2.1), (by show 0 ≤ (I13 12 9).toInt ∧ (I13 12 9).toInt ≤ 500; exact hI13R.2.2.2.1), (by show 0 ≤ (I13 12 13).toInt ∧ (I13 12 13).toInt ≤ 24; exact hI13R.2.2.2.2)⟩, (by show (I13 12 6).toInt ≤ 501 ∧ ((I13 12 7).toInt = 401 ∨ (I13 12 6).toInt ≤ 500); first | omega | decide), f14, Or.inr rfl⟩
    · refine lv_if_eq (tgt := 55) hx hb dX9_opened_39 (by decide) (fun c18 => ?_) (fun c18 => absurd (by decide) c18)
      refine lv_iconst (v := 0) hx hb dX9_opened_55 (by decide) ?_
      exact z_zret hx hb hr (by decide) hK hS (Nat.le_of_ble_eq_true rfl) (Nat.le_of_ble_eq_true rfl) hlocks dX9_opened_56 (shC c, ad, I9, JX, PC c ad) hW ⟨I9, rfl, ⟨(by show 0 ≤ (I9 12 1).toInt ∧ (I9 12 1).toInt ≤ 500; exact hI9R.1), (by show 0 ≤ (I9 12 5).toInt ∧ (I9 12 5).toInt ≤ 501; exact hI9R.2.1), (by show (-1) ≤ (I9 12 6).toInt ∧ (I9 12 6).toInt ≤ 1000000; exact hI9R.2.2.1), (by show 0 ≤ (I9 12 9).toInt ∧ (I9 12 9).toInt ≤ 500; exact hI9R.2.2.2.1), (by show 0 ≤ (I9 12 13).toInt ∧ (I9 12 13).toInt ≤ 24; exact hI9R.2.2.2.2)⟩, (by show (I9 12 6).toInt ≤ 501 ∧ ((I9 12 7).toInt = 401 ∨ (I9 12 6).toInt ≤ 500); first | omega | decide), f10, Or.inr rfl⟩
  · have g19 := z_f_eq rfl z_l311 c2
    have b20 := Int32.toInt_lt (I 12 7)
    refine lv_iconst (v := 1) hx hb dX9_opened_18 (by decide) ?_
    refine lv_goto (tgt := 23) hx hb dX9_opened_19 (by decide) ?_
    refine lv_istore_n (lv' := [(2, .int 1), (0, .ref (ad 12)), (1, .int 1)]) hx hb dX9_opened_23 rfl hl (by decide) rfl (fun ls hl => ?_)
    refine lv_aload_n hx hb dX9_opened_24 rfl (lv_at hl 1 rfl) ?_
    refine z_cv hW hS hA (va_runV (As := []) (rest := []) ⟨hx, hb, hml, hown, hts⟩ (sx_X9_step l G ad c I ⟨(by show 0 ≤ (I 12 1).toInt ∧ (I 12 1).toInt ≤ 500; exact hR.1), (by show 0 ≤ (I 12 5).toInt ∧ (I 12 5).toInt ≤ 501; exact hR.2.1), (by show (-1) ≤ (I 12 6).toInt ∧ (I 12 6).toInt ≤ 1000000; exact hR.2.2.1), (by show 0 ≤ (I 12 9).toInt ∧ (I 12 9).toInt ≤ 500; exact hR.2.2.2.1), (by show 0 ≤ (I 12 13).toInt ∧ (I 12 13).toInt ≤ 24; exact hR.2.2.2.2)⟩   (by show (I 12 6).toInt ≤ 500; first | omega | decide) _) (cwV 0 hts gX9_opened_X9_step rfl rfl rfl (by decide +kernel) ⟨Nat.le_of_ble_eq_true rfl, Nat.le_of_ble_eq_true rfl⟩) (z_preV (i := 12) hK hW rfl rfl) rfl rfl hl.1 rfl (lv_room (Nat.le_of_ble_eq_true rfl)) dX9_opened_25 ⟨Nat.le_of_ble_eq_true rfl, Nat.le_of_ble_eq_true rfl⟩) (fun u1 H locs hp hW hS => ?_)
    obtain ⟨I21, e9, hI21R, hI21T, fI21⟩ := hp
    rw [e9] at hW
    have f22 := z_fr_sub (L := L_X9_opened_1) z_fr_0 fI21 (by decide)
    have k23 : (I21 12 6).toInt ≤ 501 ∧ ((I21 12 7).toInt = 401 ∨ (I21 12 6).toInt ≤ 500) := hI21T
    refine lv_iload_n hx hb dX9_opened_28 rfl (lv_at hl 0 rfl) ?_
    refine lv_if_ne (tgt := 57) hx hb dX9_opened_29 (by decide) (fun c24 => ?_) (fun c24 => absurd c24 (by decide))
    refine lv_aload_n hx hb dX9_opened_57 rfl (lv_at hl 1 rfl) ?_
    refine lv_iload_n hx hb dX9_opened_58 rfl (lv_at hl 2 rfl) ?_
    refine lv_iconst (v := 1) hx hb dX9_opened_59 (by decide) ?_
    refine lv_iadd hx hb dX9_opened_60 ?_
    refine z_topi (v := 2) (by decide) ?_
    refine z_ci hW hS hA (va_runV (As := [.int 2]) (rest := []) ⟨hx, hb, hml, hown, hts⟩ (sx_X9_one_2 l G ad c I21 ⟨(by show 0 ≤ (I21 12 1).toInt ∧ (I21 12 1).toInt ≤ 500; exact hI21R.1), (by show 0 ≤ (I21 12 5).toInt ∧ (I21 12 5).toInt ≤ 501; exact hI21R.2.1), (by show (-1) ≤ (I21 12 6).toInt ∧ (I21 12 6).toInt ≤ 1000000; exact hI21R.2.2.1), (by show 0 ≤ (I21 12 9).toInt ∧ (I21 12 9).toInt ≤ 500; exact hI21R.2.2.2.1), (by show 0 ≤ (I21 12 13).toInt ∧ (I21 12 13).toInt ≤ 24; exact hI21R.2.2.2.2)⟩ (by show (I21 12 6).toInt ≤ 501 ∧ ((I21 12 7).toInt = 401 ∨ (I21 12 6).toInt ≤ 500); first | omega | decide) _) (cwV 1 hts gX9_opened_X9_one rfl rfl rfl (by decide +kernel) ⟨Nat.le_of_ble_eq_true rfl, Nat.le_of_ble_eq_true rfl⟩) (z_preV (i := 12) hK hW rfl rfl) rfl rfl hl.1 rfl (lv_room (Nat.le_of_ble_eq_true rfl)) dX9_opened_61 ⟨Nat.le_of_ble_eq_true rfl, Nat.le_of_ble_eq_true rfl⟩) (fun r u1 H locs hp hW hS => ?_)
    obtain ⟨I25, e9, hI25R, hI25T, fI25, hp⟩ := hp
    rw [e9] at hW
    have f26 := z_fr_sub (L := L_X9_opened_1) f22 fI25 (by decide)
    have k27 : (I25 12 6).toInt ≤ 501 ∧ ((I25 12 7).toInt = 401 ∨ (I25 12 6).toInt ≤ 500) := hI25T
    rcases hp with rfl | rfl
    · refine lv_if_ne (tgt := 69) hx hb dX9_opened_64 (by decide) (fun c28 => ?_) (fun c28 => absurd c28 (by decide))
      refine lv_aload_n hx hb dX9_opened_69 rfl (lv_at hl 1 rfl) ?_
      refine lv_bipush (v := (-12)) hx hb dX9_opened_70 (by decide) ?_
      refine z_cv hW hS hA (va_runV (As := [.int (-12)]) (rest := []) ⟨hx, hb, hml, hown, hts⟩ (sx_X9_emit l G ad c I25 ⟨(by show 0 ≤ (I25 12 1).toInt ∧ (I25 12 1).toInt ≤ 500; exact hI25R.1), (by show 0 ≤ (I25 12 5).toInt ∧ (I25 12 5).toInt ≤ 501; exact hI25R.2.1), (by show (-1) ≤ (I25 12 6).toInt ∧ (I25 12 6).toInt ≤ 1000000; exact hI25R.2.2.1), (by show 0 ≤ (I25 12 9).toInt ∧ (I25 12 9).toInt ≤ 500; exact hI25R.2.2.2.1), (by show 0 ≤ (I25 12 13).toInt ∧ (I25 12 13).toInt ≤ 24; exact hI25R.2.2.2.2)⟩ (-12) _) (cwV 1 hts gX9_opened_X9_emit rfl rfl rfl (by decide +kernel) ⟨Nat.le_of_ble_eq_true rfl, Nat.le_of_ble_eq_true rfl⟩) (z_preV (i := 12) hK hW rfl rfl) rfl rfl hl.1 rfl (lv_room (Nat.le_of_ble_eq_true rfl)) dX9_opened_72 ⟨Nat.le_of_ble_eq_true rfl, Nat.le_of_ble_eq_true rfl⟩) (fun u1 H locs hp hW hS => ?_)
      obtain ⟨I29, e9, hI29R, fI29⟩ := hp
      rw [e9] at hW
      have f30 := z_fr_sub (L := L_X9_opened_1) f26 fI29 (by decide)
      have k31 : (I29 12 6).toInt ≤ 501 ∧ ((I29 12 7).toInt = 401 ∨ (I29 12 6).toInt ≤ 500) := (by have q0 : (I29 12 6) = (I25 12 6) := (by rw [fI29 12 6 (by decide)]); have q1 : (I29 12 7) = (I25 12 7) := (by rw [fI29 12 7 (by decide)]); show (I29 12 6).toInt ≤ 501 ∧ ((I29 12 7).toInt = 401 ∨ (I29 12 6).toInt ≤ 500); rw [q0, q1]; first | omega | decide)
      refine lv_iconst (v := 1) hx hb dX9_opened_75 (by decide) ?_
      exact z_zret hx hb hr (by decide) hK hS (Nat.le_of_ble_eq_true rfl) (Nat.le_of_ble_eq_true rfl) hlocks dX9_opened_76 (shC c, ad, I29, JX, PC c ad) hW ⟨I29, rfl, ⟨(by show 0 ≤ (I29 12 1).toInt ∧ (I29 12 1).toInt ≤ 500; exact hI29R.1), (by show 0 ≤ (I29 12 5).toInt ∧ (I29 12 5).toInt ≤ 501; exact hI29R.2.1), (by show (-1) ≤ (I29 12 6).toInt ∧ (I29 12 6).toInt ≤ 1000000; exact hI29R.2.2.1), (by show 0 ≤ (I29 12 9).toInt ∧ (I29 12 9).toInt ≤ 500; exact hI29R.2.2.2.1), (by show 0 ≤ (I29 12 13).toInt ∧ (I29 12 13).toInt ≤ 24; exact hI29R.2.2.2.2)⟩, (by show (I29 12 6).toInt ≤ 501 ∧ ((I29 12 7).toInt = 401 ∨ (I29 12 6).toInt ≤ 500); first | omega | decide), f30, Or.inl rfl⟩
    · refine lv_if_ne (tgt := 69) hx hb dX9_opened_64 (by decide) (fun c32 => absurd (by decide) c32) (fun c32 => ?_)
      refine lv_iconst (v := 0) hx hb dX9_opened_67 (by decide) ?_
      exact z_zret hx hb hr (by decide) hK hS (Nat.le_of_ble_eq_true rfl) (Nat.le_of_ble_eq_true rfl) hlocks dX9_opened_68 (shC c, ad, I25, JX, PC c ad) hW ⟨I25, rfl, ⟨(by show 0 ≤ (I25 12 1).toInt ∧ (I25 12 1).toInt ≤ 500; exact hI25R.1), (by show 0 ≤ (I25 12 5).toInt ∧ (I25 12 5).toInt ≤ 501; exact hI25R.2.1), (by show (-1) ≤ (I25 12 6).toInt ∧ (I25 12 6).toInt ≤ 1000000; exact hI25R.2.2.1), (by show 0 ≤ (I25 12 9).toInt ∧ (I25 12 9).toInt ≤ 500; exact hI25R.2.2.2.1), (by show 0 ≤ (I25 12 13).toInt ∧ (I25 12 13).toInt ≤ 24; exact hI25R.2.2.2.2)⟩, (by show (I25 12 6).toInt ≤ 501 ∧ ((I25 12 7).toInt = 401 ∨ (I25 12 6).toInt ≤ 500); first | omega | decide), f26, Or.inr rfl⟩
def L_X9_one_1 : z_L := [(12, 6), (12, 7), (17, 999), (12, 9)]
set_option maxHeartbeats 8000000 in
set_option maxRecDepth 100000 in
theorem sx_X9_one_1 (l : Launch) (G : z_G) (ad : Nat → Nat) (c : z_C) (I : z_I) (hR : z_iR I) (hT : z_iT I) : z_M l yX9_one wsX9_one { frames := 38, cells := 0, slots := 0, locals := 825 } [.ref (ad 12), .int 1] G (shC c, ad, I, JX, PC c ad) (fun r u1 => ∃ I1 : z_I, u1 = (shC c, ad, I1, JX, PC c ad) ∧ z_iR I1 ∧ z_iT I1 ∧ z_fr L_X9_one_1 I1 I ∧ (r = 1 ∨ r = 0)) 0 0 := by
  intro sz
  refine z_headQ (cc := cX9_one) (maxL := 3) (ret := (some .boolean)) (by decide) rfl (Nat.le_of_ble_eq_true rfl) ?_
  intro p e s m below meth c0 ls hIn hK hsz hW hl
  obtain ⟨hx, hb, hr, hml, hown, hts, hlocks, hname⟩ := hIn
  subst hsz
  have hown : s.vm.findClass RX9 = some m.cls := hown
  have hA : ∀ q : Nat, s.heap.size ≤ q → z_A (shC c, ad, I, JX, PC c ad) s.heap.size q := fun q h => Or.inr h
  generalize hAe : z_A (shC c, ad, I, JX, PC c ad) s.heap.size = A at *
  have hS : va_S A s.heap s.heap [] := va_S.rf
  have hl : lv_has ls 3 [(0, .ref (ad 12)), (1, .int 1)] := hl
  have kT : (I 12 6).toInt ≤ 501 ∧ ((I 12 7).toInt = 401 ∨ (I 12 6).toInt ≤ 500) := hT
  refine lv_aload_n hx hb dX9_one_0 rfl (lv_at hl 0 rfl) ?_
  refine z_get (T := TX9) (N := 14) (ci := 9) (i := 12) (v := .int (I 12 7)) hx hb hts zj_X9_one_X9 hown hK hW rfl rfl 7 (by decide) (hts (.fieldLink RX9 62 "PetrolBoard$Reader" "token" "I") (List.mem_of_getElem? (i := 1) rfl)) (fun _ h => h) rfl dX9_one_1 ?_
  refine lv_sipush (v := 311) hx hb dX9_one_4 (by decide) ?_
  refine lv_icmp_eq (tgt := 19) hx hb dX9_one_7 (by decide) (fun c1 => ?_) (fun c1 => ?_)
  · have g2 := z_f_eq rfl z_l311 c1
    have b3 := Int32.toInt_lt (I 12 7)
    refine lv_aload_n hx hb dX9_one_19 rfl (lv_at hl 0 rfl) ?_
    refine lv_iload_n hx hb dX9_one_20 rfl (lv_at hl 1 rfl) ?_
    refine z_ci hW hS hA (va_runV (As := [.int 1]) (rest := []) ⟨hx, hb, hml, hown, hts⟩ (sx_X9_opened_1 l G ad c I ⟨(by show 0 ≤ (I 12 1).toInt ∧ (I 12 1).toInt ≤ 500; exact hR.1), (by show 0 ≤ (I 12 5).toInt ∧ (I 12 5).toInt ≤ 501; exact hR.2.1), (by show (-1) ≤ (I 12 6).toInt ∧ (I 12 6).toInt ≤ 1000000; exact hR.2.2.1), (by show 0 ≤ (I 12 9).toInt ∧ (I 12 9).toInt ≤ 500; exact hR.2.2.2.1), (by show 0 ≤ (I 12 13).toInt ∧ (I 12 13).toInt ≤ 24; exact hR.2.2.2.2)⟩ (by show (I 12 6).toInt ≤ 501 ∧ ((I 12 7).toInt = 401 ∨ (I 12 6).toInt ≤ 500); first | omega | decide) _) (cwV 1 hts gX9_one_X9_opened rfl rfl rfl (by decide +kernel) ⟨Nat.le_of_ble_eq_true rfl, Nat.le_of_ble_eq_true rfl⟩) (z_preV (i := 12) hK hW rfl rfl) rfl rfl hl.1 rfl (lv_room (Nat.le_of_ble_eq_true rfl)) dX9_one_21 ⟨Nat.le_of_ble_eq_true rfl, Nat.le_of_ble_eq_true rfl⟩) (fun r u1 H locs hp hW hS => ?_)
    obtain ⟨I4, e9, hI4R, hI4T, fI4, hp⟩ := hp
    rw [e9] at hW
    have f5 := z_fr_sub (L := L_X9_one_1) z_fr_0 fI4 (by decide)
    have k6 : (I4 12 6).toInt ≤ 501 ∧ ((I4 12 7).toInt = 401 ∨ (I4 12 6).toInt ≤ 500) := hI4T
    rcases hp with rfl | rfl
    · exact z_zret hx hb hr (by decide) hK hS (Nat.le_of_ble_eq_true rfl) (Nat.le_of_ble_eq_true rfl) hlocks dX9_one_24 (shC c, ad, I4, JX, PC c ad) hW ⟨I4, rfl, ⟨(by show 0 ≤ (I4 12 1).toInt ∧ (I4 12 1).toInt ≤ 500; exact hI4R.1), (by show 0 ≤ (I4 12 5).toInt ∧ (I4 12 5).toInt ≤ 501; exact hI4R.2.1), (by show (-1) ≤ (I4 12 6).toInt ∧ (I4 12 6).toInt ≤ 1000000; exact hI4R.2.2.1), (by show 0 ≤ (I4 12 9).toInt ∧ (I4 12 9).toInt ≤ 500; exact hI4R.2.2.2.1), (by show 0 ≤ (I4 12 13).toInt ∧ (I4 12 13).toInt ≤ 24; exact hI4R.2.2.2.2)⟩, (by show (I4 12 6).toInt ≤ 501 ∧ ((I4 12 7).toInt = 401 ∨ (I4 12 6).toInt ≤ 500); first | omega | decide), f5, Or.inl rfl⟩
    · exact z_zret hx hb hr (by decide) hK hS (Nat.le_of_ble_eq_true rfl) (Nat.le_of_ble_eq_true rfl) hlocks dX9_one_24 (shC c, ad, I4, JX, PC c ad) hW ⟨I4, rfl, ⟨(by show 0 ≤ (I4 12 1).toInt ∧ (I4 12 1).toInt ≤ 500; exact hI4R.1), (by show 0 ≤ (I4 12 5).toInt ∧ (I4 12 5).toInt ≤ 501; exact hI4R.2.1), (by show (-1) ≤ (I4 12 6).toInt ∧ (I4 12 6).toInt ≤ 1000000; exact hI4R.2.2.1), (by show 0 ≤ (I4 12 9).toInt ∧ (I4 12 9).toInt ≤ 500; exact hI4R.2.2.2.1), (by show 0 ≤ (I4 12 13).toInt ∧ (I4 12 13).toInt ≤ 24; exact hI4R.2.2.2.2)⟩, (by show (I4 12 6).toInt ≤ 501 ∧ ((I4 12 7).toInt = 401 ∨ (I4 12 6).toInt ≤ 500); first | omega | decide), f5, Or.inr rfl⟩
  · have g7 := z_f_ne rfl z_l311 c1
    have b8 := Int32.toInt_lt (I 12 7)
    refine lv_aload_n hx hb dX9_one_10 rfl (lv_at hl 0 rfl) ?_
    refine z_get (T := TX9) (N := 14) (ci := 9) (i := 12) (v := .int (I 12 7)) hx hb hts zj_X9_one_X9 hown hK hW rfl rfl 7 (by decide) (hts (.fieldLink RX9 62 "PetrolBoard$Reader" "token" "I") (List.mem_of_getElem? (i := 1) rfl)) (fun _ h => h) rfl dX9_one_11 ?_
    refine lv_bipush (v := 123) hx hb dX9_one_14 (by decide) ?_
    refine lv_icmp_ne (tgt := 25) hx hb dX9_one_16 (by decide) (fun c9 => ?_) (fun c9 => ?_)
    · have g10 := z_f_ne rfl z_l123 c9
      refine lv_aload_n hx hb dX9_one_25 rfl (lv_at hl 0 rfl) ?_
      refine lv_iload_n hx hb dX9_one_26 rfl (lv_at hl 1 rfl) ?_
      refine z_ci hW hS hA (va_runV (As := [.int 1]) (rest := []) ⟨hx, hb, hml, hown, hts⟩ (sx_X9_sum_1 l G ad c I ⟨(by show 0 ≤ (I 12 1).toInt ∧ (I 12 1).toInt ≤ 500; exact hR.1), (by show 0 ≤ (I 12 5).toInt ∧ (I 12 5).toInt ≤ 501; exact hR.2.1), (by show (-1) ≤ (I 12 6).toInt ∧ (I 12 6).toInt ≤ 1000000; exact hR.2.2.1), (by show 0 ≤ (I 12 9).toInt ∧ (I 12 9).toInt ≤ 500; exact hR.2.2.2.1), (by show 0 ≤ (I 12 13).toInt ∧ (I 12 13).toInt ≤ 24; exact hR.2.2.2.2)⟩ (by show (I 12 6).toInt ≤ 501 ∧ ((I 12 7).toInt = 401 ∨ (I 12 6).toInt ≤ 500); first | omega | decide) _) (cwV 1 hts gX9_one_X9_sum rfl rfl rfl (by decide +kernel) ⟨Nat.le_of_ble_eq_true rfl, Nat.le_of_ble_eq_true rfl⟩) (z_preV (i := 12) hK hW rfl rfl) rfl rfl hl.1 rfl (lv_room (Nat.le_of_ble_eq_true rfl)) dX9_one_27 ⟨Nat.le_of_ble_eq_true rfl, Nat.le_of_ble_eq_true rfl⟩) (fun r u1 H locs hp hW hS => ?_)
      obtain ⟨I11, e9, hI11R, hI11T, fI11, hp⟩ := hp
      rw [e9] at hW
      have f12 := z_fr_sub (L := L_X9_one_1) z_fr_0 fI11 (by decide)
      have k13 : (I11 12 6).toInt ≤ 501 ∧ ((I11 12 7).toInt = 401 ∨ (I11 12 6).toInt ≤ 500) := hI11T
      rcases hp with rfl | rfl
      · refine lv_if_ne (tgt := 35) hx hb dX9_one_30 (by decide) (fun c14 => ?_) (fun c14 => absurd c14 (by decide))
        refine lv_aload_n hx hb dX9_one_35 rfl (lv_at hl 0 rfl) ?_
        refine z_get (T := TX9) (N := 14) (ci := 9) (i := 12) (v := .int (I11 12 7)) hx hb hts zj_X9_one_X9 hown hK hW rfl rfl 7 (by decide) (hts (.fieldLink RX9 62 "PetrolBoard$Reader" "token" "I") (List.mem_of_getElem? (i := 1) rfl)) (fun _ h => h) rfl dX9_one_36 ?_
        refine lv_istore_n (lv' := [(2, .int (I11 12 7)), (0, .ref (ad 12)), (1, .int 1)]) hx hb dX9_one_39 rfl hl (by decide) rfl (fun ls hl => ?_)
        refine lv_iload_n hx hb dX9_one_40 rfl (lv_at hl 0 rfl) ?_
        refine lv_bipush (v := 60) hx hb dX9_one_41 (by decide) ?_
        refine lv_icmp_eq (tgt := 60) hx hb dX9_one_43 (by decide) (fun c15 => ?_) (fun c15 => ?_)
        · have g16 := z_f_eq rfl z_l60 c15
          have b17 := Int32.toInt_lt (I11 12 7)
          refine lv_aload_n hx hb dX9_one_60 rfl (lv_at hl 1 rfl) ?_
          refine z_cv hW hS hA (va_runV (As := []) (rest := []) ⟨hx, hb, hml, hown, hts⟩ (sx_X9_step l G ad c I11 ⟨(by show 0 ≤ (I11 12 1).toInt ∧ (I11 12 1).toInt ≤ 500; exact hI11R.1), (by show 0 ≤ (I11 12 5).toInt ∧ (I11 12 5).toInt ≤ 501; exact hI11R.2.1), (by show (-1) ≤ (I11 12 6).toInt ∧ (I11 12 6).toInt ≤ 1000000; exact hI11R.2.2.1), (by show 0 ≤ (I11 12 9).toInt ∧ (I11 12 9).toInt ≤ 500; exact hI11R.2.2.2.1), (by show 0 ≤ (I11 12 13).toInt ∧ (I11 12 13).toInt ≤ 24; exact hI11R.2.2.2.2)⟩   (by show (I11 12 6).toInt ≤ 500; first | omega | decide) _) (cwV 0 hts gX9_one_X9_step rfl rfl rfl (by decide +kernel) ⟨Nat.le_of_ble_eq_true rfl, Nat.le_of_ble_eq_true rfl⟩) (z_preV (i := 12) hK hW rfl rfl) rfl rfl hl.1 rfl (lv_room (Nat.le_of_ble_eq_true rfl)) dX9_one_61 ⟨Nat.le_of_ble_eq_true rfl, Nat.le_of_ble_eq_true rfl⟩) (fun u1 H locs hp hW hS => ?_)
          obtain ⟨I18, e9, hI18R, hI18T, fI18⟩ := hp
          rw [e9] at hW
          have f19 := z_fr_sub (L := L_X9_one_1) f12 fI18 (by decide)
          have k20 : (I18 12 6).toInt ≤ 501 ∧ ((I18 12 7).toInt = 401 ∨ (I18 12 6).toInt ≤ 500) := hI18T
          refine lv_aload_n hx hb dX9_one_64 rfl (lv_at hl 1 rfl) ?_
          refine lv_iload_n hx hb dX9_one_65 rfl (lv_at hl 2 rfl) ?_
          refine z_ci hW hS hA (va_runV (As := [.int 1]) (rest := []) ⟨hx, hb, hml, hown, hts⟩ (sx_X9_sum_1 l G ad c I18 ⟨(by show 0 ≤ (I18 12 1).toInt ∧ (I18 12 1).toInt ≤ 500; exact hI18R.1), (by show 0 ≤ (I18 12 5).toInt ∧ (I18 12 5).toInt ≤ 501; exact hI18R.2.1), (by show (-1) ≤ (I18 12 6).toInt ∧ (I18 12 6).toInt ≤ 1000000; exact hI18R.2.2.1), (by show 0 ≤ (I18 12 9).toInt ∧ (I18 12 9).toInt ≤ 500; exact hI18R.2.2.2.1), (by show 0 ≤ (I18 12 13).toInt ∧ (I18 12 13).toInt ≤ 24; exact hI18R.2.2.2.2)⟩ (by show (I18 12 6).toInt ≤ 501 ∧ ((I18 12 7).toInt = 401 ∨ (I18 12 6).toInt ≤ 500); first | omega | decide) _) (cwV 1 hts gX9_one_X9_sum rfl rfl rfl (by decide +kernel) ⟨Nat.le_of_ble_eq_true rfl, Nat.le_of_ble_eq_true rfl⟩) (z_preV (i := 12) hK hW rfl rfl) rfl rfl hl.1 rfl (lv_room (Nat.le_of_ble_eq_true rfl)) dX9_one_66 ⟨Nat.le_of_ble_eq_true rfl, Nat.le_of_ble_eq_true rfl⟩) (fun r u1 H locs hp hW hS => ?_)
          obtain ⟨I21, e9, hI21R, hI21T, fI21, hp⟩ := hp
          rw [e9] at hW
          have f22 := z_fr_sub (L := L_X9_one_1) f19 fI21 (by decide)
          have k23 : (I21 12 6).toInt ≤ 501 ∧ ((I21 12 7).toInt = 401 ∨ (I21 12 6).toInt ≤ 500) := hI21T
          rcases hp with rfl | rfl
          · refine lv_if_ne (tgt := 74) hx hb dX9_one_69 (by decide) (fun c24 => ?_) (fun c24 => absurd c24 (by decide))
            refine lv_aload_n hx hb dX9_one_74 rfl (lv_at hl 1 rfl) ?_
            refine lv_iload_n hx hb dX9_one_75 rfl (lv_at hl 0 rfl) ?_
            refine lv_bipush (v := 60) hx hb dX9_one_76 (by decide) ?_
            refine lv_icmp_ne (tgt := 86) hx hb dX9_one_78 (by decide) (fun c25 => (by have g := z_f_ne rfl z_l60 c25; omega)) (fun c25 => ?_)
            have g26 := z_f_eq rfl z_l60 c25
            refine lv_bipush (v := (-7)) hx hb dX9_one_81 (by decide) ?_
            refine lv_goto (tgt := 99) hx hb dX9_one_83 (by decide) ?_
            refine z_cv hW hS hA (va_runV (As := [.int (-7)]) (rest := []) ⟨hx, hb, hml, hown, hts⟩ (sx_X9_emit l G ad c I21 ⟨(by show 0 ≤ (I21 12 1).toInt ∧ (I21 12 1).toInt ≤ 500; exact hI21R.1), (by show 0 ≤ (I21 12 5).toInt ∧ (I21 12 5).toInt ≤ 501; exact hI21R.2.1), (by show (-1) ≤ (I21 12 6).toInt ∧ (I21 12 6).toInt ≤ 1000000; exact hI21R.2.2.1), (by show 0 ≤ (I21 12 9).toInt ∧ (I21 12 9).toInt ≤ 500; exact hI21R.2.2.2.1), (by show 0 ≤ (I21 12 13).toInt ∧ (I21 12 13).toInt ≤ 24; exact hI21R.2.2.2.2)⟩ (-7) _) (cwV 1 hts gX9_one_X9_emit rfl rfl rfl (by decide +kernel) ⟨Nat.le_of_ble_eq_true rfl, Nat.le_of_ble_eq_true rfl⟩) (z_preV (i := 12) hK hW rfl rfl) rfl rfl hl.1 rfl (lv_room (Nat.le_of_ble_eq_true rfl)) dX9_one_99 ⟨Nat.le_of_ble_eq_true rfl, Nat.le_of_ble_eq_true rfl⟩) (fun u1 H locs hp hW hS => ?_)
            obtain ⟨I27, e9, hI27R, fI27⟩ := hp
            rw [e9] at hW
            have f28 := z_fr_sub (L := L_X9_one_1) f22 fI27 (by decide)
            have k29 : (I27 12 6).toInt ≤ 501 ∧ ((I27 12 7).toInt = 401 ∨ (I27 12 6).toInt ≤ 500) := (by have q0 : (I27 12 6) = (I21 12 6) := (by rw [fI27 12 6 (by decide)]); have q1 : (I27 12 7) = (I21 12 7) := (by rw [fI27 12 7 (by decide)]); show (I27 12 6).toInt ≤ 501 ∧ ((I27 12 7).toInt = 401 ∨ (I27 12 6).toInt ≤ 500); rw [q0, q1]; first | omega | decide)
            refine lv_iconst (v := 1) hx hb dX9_one_102 (by decide) ?_
            exact z_zret hx hb hr (by decide) hK hS (Nat.le_of_ble_eq_true rfl) (Nat.le_of_ble_eq_true rfl) hlocks dX9_one_103 (shC c, ad, I27, JX, PC c ad) hW ⟨I27, rfl, ⟨(by show 0 ≤ (I27 12 1).toInt ∧ (I27 12 1).toInt ≤ 500; exact hI27R.1), (by show 0 ≤ (I27 12 5).toInt ∧ (I27 12 5).toInt ≤ 501; exact hI27R.2.1), (by show (-1) ≤ (I27 12 6).toInt ∧ (I27 12 6).toInt ≤ 1000000; exact hI27R.2.2.1), (by show 0 ≤ (I27 12 9).toInt ∧ (I27 12 9).toInt ≤ 500; exact hI27R.2.2.2.1), (by show 0 ≤ (I27 12 13).toInt ∧ (I27 12 13).toInt ≤ 24; exact hI27R.2.2.2.2)⟩, (by show (I27 12 6).toInt ≤ 501 ∧ ((I27 12 7).toInt = 401 ∨ (I27 12 6).toInt ≤ 500); first | omega | decide), f28, Or.inl rfl⟩
          · refine lv_if_ne (tgt := 74) hx hb dX9_one_69 (by decide) (fun c30 => absurd (by decide) c30) (fun c30 => ?_)
            refine lv_iconst (v := 0) hx hb dX9_one_72 (by decide) ?_
            exact z_zret hx hb hr (by decide) hK hS (Nat.le_of_ble_eq_true rfl) (Nat.le_of_ble_eq_true rfl) hlocks dX9_one_73 (shC c, ad, I21, JX, PC c ad) hW ⟨I21, rfl, ⟨(by show 0 ≤ (I21 12 1).toInt ∧ (I21 12 1).toInt ≤ 500; exact hI21R.1), (by show 0 ≤ (I21 12 5).toInt ∧ (I21 12 5).toInt ≤ 501; exact hI21R.2.1), (by show (-1) ≤ (I21 12 6).toInt ∧ (I21 12 6).toInt ≤ 1000000; exact hI21R.2.2.1), (by show 0 ≤ (I21 12 9).toInt ∧ (I21 12 9).toInt ≤ 500; exact hI21R.2.2.2.1), (by show 0 ≤ (I21 12 13).toInt ∧ (I21 12 13).toInt ≤ 24; exact hI21R.2.2.2.2)⟩, (by show (I21 12 6).toInt ≤ 501 ∧ ((I21 12 7).toInt = 401 ∨ (I21 12 6).toInt ≤ 500); first | omega | decide), f22, Or.inr rfl⟩
        · have g31 := z_f_ne rfl z_l60 c15
          have b32 := Int32.toInt_lt (I11 12 7)
          refine lv_iload_n hx hb dX9_one_46 rfl (lv_at hl 0 rfl) ?_
          refine lv_bipush (v := 62) hx hb dX9_one_47 (by decide) ?_
          refine lv_icmp_eq (tgt := 60) hx hb dX9_one_49 (by decide) (fun c33 => ?_) (fun c33 => ?_)
          · have g34 := z_f_eq rfl z_l62 c33
            refine lv_aload_n hx hb dX9_one_60 rfl (lv_at hl 1 rfl) ?_
            refine z_cv hW hS hA (va_runV (As := []) (rest := []) ⟨hx, hb, hml, hown, hts⟩ (sx_X9_step l G ad c I11 ⟨(by show 0 ≤ (I11 12 1).toInt ∧ (I11 12 1).toInt ≤ 500; exact hI11R.1), (by show 0 ≤ (I11 12 5).toInt ∧ (I11 12 5).toInt ≤ 501; exact hI11R.2.1), (by show (-1) ≤ (I11 12 6).toInt ∧ (I11 12 6).toInt ≤ 1000000; exact hI11R.2.2.1), (by show 0 ≤ (I11 12 9).toInt ∧ (I11 12 9).toInt ≤ 500; exact hI11R.2.2.2.1), (by show 0 ≤ (I11 12 13).toInt ∧ (I11 12 13).toInt ≤ 24; exact hI11R.2.2.2.2)⟩   (by show (I11 12 6).toInt ≤ 500; first | omega | decide) _) (cwV 0 hts gX9_one_X9_step rfl rfl rfl (by decide +kernel) ⟨Nat.le_of_ble_eq_true rfl, Nat.le_of_ble_eq_true rfl⟩) (z_preV (i := 12) hK hW rfl rfl) rfl rfl hl.1 rfl (lv_room (Nat.le_of_ble_eq_true rfl)) dX9_one_61 ⟨Nat.le_of_ble_eq_true rfl, Nat.le_of_ble_eq_true rfl⟩) (fun u1 H locs hp hW hS => ?_)
            obtain ⟨I35, e9, hI35R, hI35T, fI35⟩ := hp
            rw [e9] at hW
            have f36 := z_fr_sub (L := L_X9_one_1) f12 fI35 (by decide)
            have k37 : (I35 12 6).toInt ≤ 501 ∧ ((I35 12 7).toInt = 401 ∨ (I35 12 6).toInt ≤ 500) := hI35T
            refine lv_aload_n hx hb dX9_one_64 rfl (lv_at hl 1 rfl) ?_
            refine lv_iload_n hx hb dX9_one_65 rfl (lv_at hl 2 rfl) ?_
            refine z_ci hW hS hA (va_runV (As := [.int 1]) (rest := []) ⟨hx, hb, hml, hown, hts⟩ (sx_X9_sum_1 l G ad c I35 ⟨(by show 0 ≤ (I35 12 1).toInt ∧ (I35 12 1).toInt ≤ 500; exact hI35R.1), (by show 0 ≤ (I35 12 5).toInt ∧ (I35 12 5).toInt ≤ 501; exact hI35R.2.1), (by show (-1) ≤ (I35 12 6).toInt ∧ (I35 12 6).toInt ≤ 1000000; exact hI35R.2.2.1), (by show 0 ≤ (I35 12 9).toInt ∧ (I35 12 9).toInt ≤ 500; exact hI35R.2.2.2.1), (by show 0 ≤ (I35 12 13).toInt ∧ (I35 12 13).toInt ≤ 24; exact hI35R.2.2.2.2)⟩ (by show (I35 12 6).toInt ≤ 501 ∧ ((I35 12 7).toInt = 401 ∨ (I35 12 6).toInt ≤ 500); first | omega | decide) _) (cwV 1 hts gX9_one_X9_sum rfl rfl rfl (by decide +kernel) ⟨Nat.le_of_ble_eq_true rfl, Nat.le_of_ble_eq_true rfl⟩) (z_preV (i := 12) hK hW rfl rfl) rfl rfl hl.1 rfl (lv_room (Nat.le_of_ble_eq_true rfl)) dX9_one_66 ⟨Nat.le_of_ble_eq_true rfl, Nat.le_of_ble_eq_true rfl⟩) (fun r u1 H locs hp hW hS => ?_)
            obtain ⟨I38, e9, hI38R, hI38T, fI38, hp⟩ := hp
            rw [e9] at hW
            have f39 := z_fr_sub (L := L_X9_one_1) f36 fI38 (by decide)
            have k40 : (I38 12 6).toInt ≤ 501 ∧ ((I38 12 7).toInt = 401 ∨ (I38 12 6).toInt ≤ 500) := hI38T
            rcases hp with rfl | rfl
            · refine lv_if_ne (tgt := 74) hx hb dX9_one_69 (by decide) (fun c41 => ?_) (fun c41 => absurd c41 (by decide))
              refine lv_aload_n hx hb dX9_one_74 rfl (lv_at hl 1 rfl) ?_
              refine lv_iload_n hx hb dX9_one_75 rfl (lv_at hl 0 rfl) ?_
              refine lv_bipush (v := 60) hx hb dX9_one_76 (by decide) ?_
              refine lv_icmp_ne (tgt := 86) hx hb dX9_one_78 (by decide) (fun c42 => ?_) (fun c42 => (by have g := z_f_eq rfl z_l60 c42; omega))
              have g43 := z_f_ne rfl z_l60 c42
              refine lv_iload_n hx hb dX9_one_86 rfl (lv_at hl 0 rfl) ?_
              refine lv_bipush (v := 62) hx hb dX9_one_87 (by decide) ?_
              refine lv_icmp_ne (tgt := 97) hx hb dX9_one_89 (by decide) (fun c44 => (by have g := z_f_ne rfl z_l62 c44; omega)) (fun c44 => ?_)
              have g45 := z_f_eq rfl z_l62 c44
              refine lv_bipush (v := (-8)) hx hb dX9_one_92 (by decide) ?_
              refine lv_goto (tgt := 99) hx hb dX9_one_94 (by decide) ?_
              refine z_cv hW hS hA (va_runV (As := [.int (-8)]) (rest := []) ⟨hx, hb, hml, hown, hts⟩ (sx_X9_emit l G ad c I38 ⟨(by show 0 ≤ (I38 12 1).toInt ∧ (I38 12 1).toInt ≤ 500; exact hI38R.1), (by show 0 ≤ (I38 12 5).toInt ∧ (I38 12 5).toInt ≤ 501; exact hI38R.2.1), (by show (-1) ≤ (I38 12 6).toInt ∧ (I38 12 6).toInt ≤ 1000000; exact hI38R.2.2.1), (by show 0 ≤ (I38 12 9).toInt ∧ (I38 12 9).toInt ≤ 500; exact hI38R.2.2.2.1), (by show 0 ≤ (I38 12 13).toInt ∧ (I38 12 13).toInt ≤ 24; exact hI38R.2.2.2.2)⟩ (-8) _) (cwV 1 hts gX9_one_X9_emit rfl rfl rfl (by decide +kernel) ⟨Nat.le_of_ble_eq_true rfl, Nat.le_of_ble_eq_true rfl⟩) (z_preV (i := 12) hK hW rfl rfl) rfl rfl hl.1 rfl (lv_room (Nat.le_of_ble_eq_true rfl)) dX9_one_99 ⟨Nat.le_of_ble_eq_true rfl, Nat.le_of_ble_eq_true rfl⟩) (fun u1 H locs hp hW hS => ?_)
              obtain ⟨I46, e9, hI46R, fI46⟩ := hp
              rw [e9] at hW
              have f47 := z_fr_sub (L := L_X9_one_1) f39 fI46 (by decide)
              have k48 : (I46 12 6).toInt ≤ 501 ∧ ((I46 12 7).toInt = 401 ∨ (I46 12 6).toInt ≤ 500) := (by have q0 : (I46 12 6) = (I38 12 6) := (by rw [fI46 12 6 (by decide)]); have q1 : (I46 12 7) = (I38 12 7) := (by rw [fI46 12 7 (by decide)]); show (I46 12 6).toInt ≤ 501 ∧ ((I46 12 7).toInt = 401 ∨ (I46 12 6).toInt ≤ 500); rw [q0, q1]; first | omega | decide)
              refine lv_iconst (v := 1) hx hb dX9_one_102 (by decide) ?_
              exact z_zret hx hb hr (by decide) hK hS (Nat.le_of_ble_eq_true rfl) (Nat.le_of_ble_eq_true rfl) hlocks dX9_one_103 (shC c, ad, I46, JX, PC c ad) hW ⟨I46, rfl, ⟨(by show 0 ≤ (I46 12 1).toInt ∧ (I46 12 1).toInt ≤ 500; exact hI46R.1), (by show 0 ≤ (I46 12 5).toInt ∧ (I46 12 5).toInt ≤ 501; exact hI46R.2.1), (by show (-1) ≤ (I46 12 6).toInt ∧ (I46 12 6).toInt ≤ 1000000; exact hI46R.2.2.1), (by show 0 ≤ (I46 12 9).toInt ∧ (I46 12 9).toInt ≤ 500; exact hI46R.2.2.2.1), (by show 0 ≤ (I46 12 13).toInt ∧ (I46 12 13).toInt ≤ 24; exact hI46R.2.2.2.2)⟩, (by show (I46 12 6).toInt ≤ 501 ∧ ((I46 12 7).toInt = 401 ∨ (I46 12 6).toInt ≤ 500); first | omega | decide), f47, Or.inl rfl⟩
            · refine lv_if_ne (tgt := 74) hx hb dX9_one_69 (by decide) (fun c49 => absurd (by decide) c49) (fun c49 => ?_)
              refine lv_iconst (v := 0) hx hb dX9_one_72 (by decide) ?_
              exact z_zret hx hb hr (by decide) hK hS (Nat.le_of_ble_eq_true rfl) (Nat.le_of_ble_eq_true rfl) hlocks dX9_one_73 (shC c, ad, I38, JX, PC c ad) hW ⟨I38, rfl, ⟨(by show 0 ≤ (I38 12 1).toInt ∧ (I38 12 1).toInt ≤ 500; exact hI38R.1), (by show 0 ≤ (I38 12 5).toInt ∧ (I38 12 5).toInt ≤ 501; exact hI38R.2.1), (by show (-1) ≤ (I38 12 6).toInt ∧ (I38 12 6).toInt ≤ 1000000; exact hI38R.2.2.1), (by show 0 ≤ (I38 12 9).toInt ∧ (I38 12 9).toInt ≤ 500; exact hI38R.2.2.2.1), (by show 0 ≤ (I38 12 13).toInt ∧ (I38 12 13).toInt ≤ 24; exact hI38R.2.2.2.2)⟩, (by show (I38 12 6).toInt ≤ 501 ∧ ((I38 12 7).toInt = 401 ∨ (I38 12 6).toInt ≤ 500); first | omega | decide), f39, Or.inr rfl⟩
          · have g50 := z_f_ne rfl z_l62 c33
            refine lv_iload_n hx hb dX9_one_52 rfl (lv_at hl 0 rfl) ?_
            refine lv_bipush (v := 61) hx hb dX9_one_53 (by decide) ?_
            refine lv_icmp_eq (tgt := 60) hx hb dX9_one_55 (by decide) (fun c51 => ?_) (fun c51 => ?_)
            · have g52 := z_f_eq rfl z_l61 c51
              refine lv_aload_n hx hb dX9_one_60 rfl (lv_at hl 1 rfl) ?_
              refine z_cv hW hS hA (va_runV (As := []) (rest := []) ⟨hx, hb, hml, hown, hts⟩ (sx_X9_step l G ad c I11 ⟨(by show 0 ≤ (I11 12 1).toInt ∧ (I11 12 1).toInt ≤ 500; exact hI11R.1), (by show 0 ≤ (I11 12 5).toInt ∧ (I11 12 5).toInt ≤ 501; exact hI11R.2.1), (by show (-1) ≤ (I11 12 6).toInt ∧ (I11 12 6).toInt ≤ 1000000; exact hI11R.2.2.1), (by show 0 ≤ (I11 12 9).toInt ∧ (I11 12 9).toInt ≤ 500; exact hI11R.2.2.2.1), (by show 0 ≤ (I11 12 13).toInt ∧ (I11 12 13).toInt ≤ 24; exact hI11R.2.2.2.2)⟩   (by show (I11 12 6).toInt ≤ 500; first | omega | decide) _) (cwV 0 hts gX9_one_X9_step rfl rfl rfl (by decide +kernel) ⟨Nat.le_of_ble_eq_true rfl, Nat.le_of_ble_eq_true rfl⟩) (z_preV (i := 12) hK hW rfl rfl) rfl rfl hl.1 rfl (lv_room (Nat.le_of_ble_eq_true rfl)) dX9_one_61 ⟨Nat.le_of_ble_eq_true rfl, Nat.le_of_ble_eq_true rfl⟩) (fun u1 H locs hp hW hS => ?_)
              obtain ⟨I53, e9, hI53R, hI53T, fI53⟩ := hp
              rw [e9] at hW
              have f54 := z_fr_sub (L := L_X9_one_1) f12 fI53 (by decide)
              have k55 : (I53 12 6).toInt ≤ 501 ∧ ((I53 12 7).toInt = 401 ∨ (I53 12 6).toInt ≤ 500) := hI53T
              refine lv_aload_n hx hb dX9_one_64 rfl (lv_at hl 1 rfl) ?_
              refine lv_iload_n hx hb dX9_one_65 rfl (lv_at hl 2 rfl) ?_
              refine z_ci hW hS hA (va_runV (As := [.int 1]) (rest := []) ⟨hx, hb, hml, hown, hts⟩ (sx_X9_sum_1 l G ad c I53 ⟨(by show 0 ≤ (I53 12 1).toInt ∧ (I53 12 1).toInt ≤ 500; exact hI53R.1), (by show 0 ≤ (I53 12 5).toInt ∧ (I53 12 5).toInt ≤ 501; exact hI53R.2.1), (by show (-1) ≤ (I53 12 6).toInt ∧ (I53 12 6).toInt ≤ 1000000; exact hI53R.2.2.1), (by show 0 ≤ (I53 12 9).toInt ∧ (I53 12 9).toInt ≤ 500; exact hI53R.2.2.2.1), (by show 0 ≤ (I53 12 13).toInt ∧ (I53 12 13).toInt ≤ 24; exact hI53R.2.2.2.2)⟩ (by show (I53 12 6).toInt ≤ 501 ∧ ((I53 12 7).toInt = 401 ∨ (I53 12 6).toInt ≤ 500); first | omega | decide) _) (cwV 1 hts gX9_one_X9_sum rfl rfl rfl (by decide +kernel) ⟨Nat.le_of_ble_eq_true rfl, Nat.le_of_ble_eq_true rfl⟩) (z_preV (i := 12) hK hW rfl rfl) rfl rfl hl.1 rfl (lv_room (Nat.le_of_ble_eq_true rfl)) dX9_one_66 ⟨Nat.le_of_ble_eq_true rfl, Nat.le_of_ble_eq_true rfl⟩) (fun r u1 H locs hp hW hS => ?_)
              obtain ⟨I56, e9, hI56R, hI56T, fI56, hp⟩ := hp
              rw [e9] at hW
              have f57 := z_fr_sub (L := L_X9_one_1) f54 fI56 (by decide)
              have k58 : (I56 12 6).toInt ≤ 501 ∧ ((I56 12 7).toInt = 401 ∨ (I56 12 6).toInt ≤ 500) := hI56T
              rcases hp with rfl | rfl
              · refine lv_if_ne (tgt := 74) hx hb dX9_one_69 (by decide) (fun c59 => ?_) (fun c59 => absurd c59 (by decide))
                refine lv_aload_n hx hb dX9_one_74 rfl (lv_at hl 1 rfl) ?_
                refine lv_iload_n hx hb dX9_one_75 rfl (lv_at hl 0 rfl) ?_
                refine lv_bipush (v := 60) hx hb dX9_one_76 (by decide) ?_
                refine lv_icmp_ne (tgt := 86) hx hb dX9_one_78 (by decide) (fun c60 => ?_) (fun c60 => (by have g := z_f_eq rfl z_l60 c60; omega))
                have g61 := z_f_ne rfl z_l60 c60
                refine lv_iload_n hx hb dX9_one_86 rfl (lv_at hl 0 rfl) ?_
                refine lv_bipush (v := 62) hx hb dX9_one_87 (by decide) ?_
                refine lv_icmp_ne (tgt := 97) hx hb dX9_one_89 (by decide) (fun c62 => ?_) (fun c62 => (by have g := z_f_eq rfl z_l62 c62; omega))
                have g63 := z_f_ne rfl z_l62 c62
                refine lv_bipush (v := (-9)) hx hb dX9_one_97 (by decide) ?_
                refine z_cv hW hS hA (va_runV (As := [.int (-9)]) (rest := []) ⟨hx, hb, hml, hown, hts⟩ (sx_X9_emit l G ad c I56 ⟨(by show 0 ≤ (I56 12 1).toInt ∧ (I56 12 1).toInt ≤ 500; exact hI56R.1), (by show 0 ≤ (I56 12 5).toInt ∧ (I56 12 5).toInt ≤ 501; exact hI56R.2.1), (by show (-1) ≤ (I56 12 6).toInt ∧ (I56 12 6).toInt ≤ 1000000; exact hI56R.2.2.1), (by show 0 ≤ (I56 12 9).toInt ∧ (I56 12 9).toInt ≤ 500; exact hI56R.2.2.2.1), (by show 0 ≤ (I56 12 13).toInt ∧ (I56 12 13).toInt ≤ 24; exact hI56R.2.2.2.2)⟩ (-9) _) (cwV 1 hts gX9_one_X9_emit rfl rfl rfl (by decide +kernel) ⟨Nat.le_of_ble_eq_true rfl, Nat.le_of_ble_eq_true rfl⟩) (z_preV (i := 12) hK hW rfl rfl) rfl rfl hl.1 rfl (lv_room (Nat.le_of_ble_eq_true rfl)) dX9_one_99 ⟨Nat.le_of_ble_eq_true rfl, Nat.le_of_ble_eq_true rfl⟩) (fun u1 H locs hp hW hS => ?_)
                obtain ⟨I64, e9, hI64R, fI64⟩ := hp
                rw [e9] at hW
                have f65 := z_fr_sub (L := L_X9_one_1) f57 fI64 (by decide)
                have k66 : (I64 12 6).toInt ≤ 501 ∧ ((I64 12 7).toInt = 401 ∨ (I64 12 6).toInt ≤ 500) := (by have q0 : (I64 12 6) = (I56 12 6) := (by rw [fI64 12 6 (by decide)]); have q1 : (I64 12 7) = (I56 12 7) := (by rw [fI64 12 7 (by decide)]); show (I64 12 6).toInt ≤ 501 ∧ ((I64 12 7).toInt = 401 ∨ (I64 12 6).toInt ≤ 500); rw [q0, q1]; first | omega | decide)
                refine lv_iconst (v := 1) hx hb dX9_one_102 (by decide) ?_
                exact z_zret hx hb hr (by decide) hK hS (Nat.le_of_ble_eq_true rfl) (Nat.le_of_ble_eq_true rfl) hlocks dX9_one_103 (shC c, ad, I64, JX, PC c ad) hW ⟨I64, rfl, ⟨(by show 0 ≤ (I64 12 1).toInt ∧ (I64 12 1).toInt ≤ 500; exact hI64R.1), (by show 0 ≤ (I64 12 5).toInt ∧ (I64 12 5).toInt ≤ 501; exact hI64R.2.1), (by show (-1) ≤ (I64 12 6).toInt ∧ (I64 12 6).toInt ≤ 1000000; exact hI64R.2.2.1), (by show 0 ≤ (I64 12 9).toInt ∧ (I64 12 9).toInt ≤ 500; exact hI64R.2.2.2.1), (by show 0 ≤ (I64 12 13).toInt ∧ (I64 12 13).toInt ≤ 24; exact hI64R.2.2.2.2)⟩, (by show (I64 12 6).toInt ≤ 501 ∧ ((I64 12 7).toInt = 401 ∨ (I64 12 6).toInt ≤ 500); first | omega | decide), f65, Or.inl rfl⟩
              · refine lv_if_ne (tgt := 74) hx hb dX9_one_69 (by decide) (fun c67 => absurd (by decide) c67) (fun c67 => ?_)
                refine lv_iconst (v := 0) hx hb dX9_one_72 (by decide) ?_
                exact z_zret hx hb hr (by decide) hK hS (Nat.le_of_ble_eq_true rfl) (Nat.le_of_ble_eq_true rfl) hlocks dX9_one_73 (shC c, ad, I56, JX, PC c ad) hW ⟨I56, rfl, ⟨(by show 0 ≤ (I56 12 1).toInt ∧ (I56 12 1).toInt ≤ 500; exact hI56R.1), (by show 0 ≤ (I56 12 5).toInt ∧ (I56 12 5).toInt ≤ 501; exact hI56R.2.1), (by show (-1) ≤ (I56 12 6).toInt ∧ (I56 12 6).toInt ≤ 1000000; exact hI56R.2.2.1), (by show 0 ≤ (I56 12 9).toInt ∧ (I56 12 9).toInt ≤ 500; exact hI56R.2.2.2.1), (by show 0 ≤ (I56 12 13).toInt ∧ (I56 12 13).toInt ≤ 24; exact hI56R.2.2.2.2)⟩, (by show (I56 12 6).toInt ≤ 501 ∧ ((I56 12 7).toInt = 401 ∨ (I56 12 6).toInt ≤ 500); first | omega | decide), f57, Or.inr rfl⟩
            · have g68 := z_f_ne rfl z_l61 c51
              refine lv_iconst (v := 0) hx hb dX9_one_58 (by decide) ?_
              exact z_zret hx hb hr (by decide) hK hS (Nat.le_of_ble_eq_true rfl) (Nat.le_of_ble_eq_true rfl) hlocks dX9_one_59 (shC c, ad, I11, JX, PC c ad) hW ⟨I11, rfl, ⟨(by show 0 ≤ (I11 12 1).toInt ∧ (I11 12 1).toInt ≤ 500; exact hI11R.1), (by show 0 ≤ (I11 12 5).toInt ∧ (I11 12 5).toInt ≤ 501; exact hI11R.2.1), (by show (-1) ≤ (I11 12 6).toInt ∧ (I11 12 6).toInt ≤ 1000000; exact hI11R.2.2.1), (by show 0 ≤ (I11 12 9).toInt ∧ (I11 12 9).toInt ≤ 500; exact hI11R.2.2.2.1), (by show 0 ≤ (I11 12 13).toInt ∧ (I11 12 13).toInt ≤ 24; exact hI11R.2.2.2.2)⟩, (by show (I11 12 6).toInt ≤ 501 ∧ ((I11 12 7).toInt = 401 ∨ (I11 12 6).toInt ≤ 500); first | omega | decide), f12, Or.inr rfl⟩
      · refine lv_if_ne (tgt := 35) hx hb dX9_one_30 (by decide) (fun c69 => absurd (by decide) c69) (fun c69 => ?_)
        refine lv_iconst (v := 0) hx hb dX9_one_33 (by decide) ?_
        exact z_zret hx hb hr (by decide) hK hS (Nat.le_of_ble_eq_true rfl) (Nat.le_of_ble_eq_true rfl) hlocks dX9_one_34 (shC c, ad, I11, JX, PC c ad) hW ⟨I11, rfl, ⟨(by show 0 ≤ (I11 12 1).toInt ∧ (I11 12 1).toInt ≤ 500; exact hI11R.1), (by show 0 ≤ (I11 12 5).toInt ∧ (I11 12 5).toInt ≤ 501; exact hI11R.2.1), (by show (-1) ≤ (I11 12 6).toInt ∧ (I11 12 6).toInt ≤ 1000000; exact hI11R.2.2.1), (by show 0 ≤ (I11 12 9).toInt ∧ (I11 12 9).toInt ≤ 500; exact hI11R.2.2.2.1), (by show 0 ≤ (I11 12 13).toInt ∧ (I11 12 13).toInt ≤ 24; exact hI11R.2.2.2.2)⟩, (by show (I11 12 6).toInt ≤ 501 ∧ ((I11 12 7).toInt = 401 ∨ (I11 12 6).toInt ≤ 500); first | omega | decide), f12, Or.inr rfl⟩
    · have g70 := z_f_eq rfl z_l123 c9
      refine lv_aload_n hx hb dX9_one_19 rfl (lv_at hl 0 rfl) ?_
      refine lv_iload_n hx hb dX9_one_20 rfl (lv_at hl 1 rfl) ?_
      refine z_ci hW hS hA (va_runV (As := [.int 1]) (rest := []) ⟨hx, hb, hml, hown, hts⟩ (sx_X9_opened_1 l G ad c I ⟨(by show 0 ≤ (I 12 1).toInt ∧ (I 12 1).toInt ≤ 500; exact hR.1), (by show 0 ≤ (I 12 5).toInt ∧ (I 12 5).toInt ≤ 501; exact hR.2.1), (by show (-1) ≤ (I 12 6).toInt ∧ (I 12 6).toInt ≤ 1000000; exact hR.2.2.1), (by show 0 ≤ (I 12 9).toInt ∧ (I 12 9).toInt ≤ 500; exact hR.2.2.2.1), (by show 0 ≤ (I 12 13).toInt ∧ (I 12 13).toInt ≤ 24; exact hR.2.2.2.2)⟩ (by show (I 12 6).toInt ≤ 501 ∧ ((I 12 7).toInt = 401 ∨ (I 12 6).toInt ≤ 500); first | omega | decide) _) (cwV 1 hts gX9_one_X9_opened rfl rfl rfl (by decide +kernel) ⟨Nat.le_of_ble_eq_true rfl, Nat.le_of_ble_eq_true rfl⟩) (z_preV (i := 12) hK hW rfl rfl) rfl rfl hl.1 rfl (lv_room (Nat.le_of_ble_eq_true rfl)) dX9_one_21 ⟨Nat.le_of_ble_eq_true rfl, Nat.le_of_ble_eq_true rfl⟩) (fun r u1 H locs hp hW hS => ?_)
      obtain ⟨I71, e9, hI71R, hI71T, fI71, hp⟩ := hp
      rw [e9] at hW
      have f72 := z_fr_sub (L := L_X9_one_1) z_fr_0 fI71 (by decide)
      have k73 : (I71 12 6).toInt ≤ 501 ∧ ((I71 12 7).toInt = 401 ∨ (I71 12 6).toInt ≤ 500) := hI71T
      rcases hp with rfl | rfl
      · exact z_zret hx hb hr (by decide) hK hS (Nat.le_of_ble_eq_true rfl) (Nat.le_of_ble_eq_true rfl) hlocks dX9_one_24 (shC c, ad, I71, JX, PC c ad) hW ⟨I71, rfl, ⟨(by show 0 ≤ (I71 12 1).toInt ∧ (I71 12 1).toInt ≤ 500; exact hI71R.1), (by show 0 ≤ (I71 12 5).toInt ∧ (I71 12 5).toInt ≤ 501; exact hI71R.2.1), (by show (-1) ≤ (I71 12 6).toInt ∧ (I71 12 6).toInt ≤ 1000000; exact hI71R.2.2.1), (by show 0 ≤ (I71 12 9).toInt ∧ (I71 12 9).toInt ≤ 500; exact hI71R.2.2.2.1), (by show 0 ≤ (I71 12 13).toInt ∧ (I71 12 13).toInt ≤ 24; exact hI71R.2.2.2.2)⟩, (by show (I71 12 6).toInt ≤ 501 ∧ ((I71 12 7).toInt = 401 ∨ (I71 12 6).toInt ≤ 500); first | omega | decide), f72, Or.inl rfl⟩
      · exact z_zret hx hb hr (by decide) hK hS (Nat.le_of_ble_eq_true rfl) (Nat.le_of_ble_eq_true rfl) hlocks dX9_one_24 (shC c, ad, I71, JX, PC c ad) hW ⟨I71, rfl, ⟨(by show 0 ≤ (I71 12 1).toInt ∧ (I71 12 1).toInt ≤ 500; exact hI71R.1), (by show 0 ≤ (I71 12 5).toInt ∧ (I71 12 5).toInt ≤ 501; exact hI71R.2.1), (by show (-1) ≤ (I71 12 6).toInt ∧ (I71 12 6).toInt ≤ 1000000; exact hI71R.2.2.1), (by show 0 ≤ (I71 12 9).toInt ∧ (I71 12 9).toInt ≤ 500; exact hI71R.2.2.2.1), (by show 0 ≤ (I71 12 13).toInt ∧ (I71 12 13).toInt ≤ 24; exact hI71R.2.2.2.2)⟩, (by show (I71 12 6).toInt ≤ 501 ∧ ((I71 12 7).toInt = 401 ∨ (I71 12 6).toInt ≤ 500); first | omega | decide), f72, Or.inr rfl⟩
def L_X9_all_1 : z_L := [(12, 6), (12, 7), (17, 999), (12, 9)]
set_option maxHeartbeats 8000000 in
set_option maxRecDepth 100000 in
theorem sx_X9_all_1 (l : Launch) (G : z_G) (ad : Nat → Nat) (c : z_C) (I : z_I) (hR : z_iR I) (hT : z_iT I) : z_M l yX9_all wsX9_all { frames := 39, cells := 0, slots := 0, locals := 847 } [.ref (ad 12), .int 1] G (shC c, ad, I, JX, PC c ad) (fun r u1 => ∃ I1 : z_I, u1 = (shC c, ad, I1, JX, PC c ad) ∧ z_iR I1 ∧ z_iT I1 ∧ z_fr L_X9_all_1 I1 I ∧ (r = 1 ∨ r = 0)) 0 0 := by
  intro sz
  refine z_headQ (cc := cX9_all) (maxL := 3) (ret := (some .boolean)) (by decide) rfl (Nat.le_of_ble_eq_true rfl) ?_
  intro p e s m below meth c0 ls hIn hK hsz hW hl
  obtain ⟨hx, hb, hr, hml, hown, hts, hlocks, hname⟩ := hIn
  subst hsz
  have hown : s.vm.findClass RX9 = some m.cls := hown
  have hA : ∀ q : Nat, s.heap.size ≤ q → z_A (shC c, ad, I, JX, PC c ad) s.heap.size q := fun q h => Or.inr h
  generalize hAe : z_A (shC c, ad, I, JX, PC c ad) s.heap.size = A at *
  have hS : va_S A s.heap s.heap [] := va_S.rf
  have hl : lv_has ls 3 [(0, .ref (ad 12)), (1, .int 1)] := hl
  have kT : (I 12 6).toInt ≤ 501 ∧ ((I 12 7).toInt = 401 ∨ (I 12 6).toInt ≤ 500) := hT
  refine lv_aload_n hx hb dX9_all_0 rfl (lv_at hl 0 rfl) ?_
  refine lv_iload_n hx hb dX9_all_1 rfl (lv_at hl 1 rfl) ?_
  refine z_ci hW hS hA (va_runV (As := [.int 1]) (rest := []) ⟨hx, hb, hml, hown, hts⟩ (sx_X9_one_1 l G ad c I ⟨(by show 0 ≤ (I 12 1).toInt ∧ (I 12 1).toInt ≤ 500; exact hR.1), (by show 0 ≤ (I 12 5).toInt ∧ (I 12 5).toInt ≤ 501; exact hR.2.1), (by show (-1) ≤ (I 12 6).toInt ∧ (I 12 6).toInt ≤ 1000000; exact hR.2.2.1), (by show 0 ≤ (I 12 9).toInt ∧ (I 12 9).toInt ≤ 500; exact hR.2.2.2.1), (by show 0 ≤ (I 12 13).toInt ∧ (I 12 13).toInt ≤ 24; exact hR.2.2.2.2)⟩ (by show (I 12 6).toInt ≤ 501 ∧ ((I 12 7).toInt = 401 ∨ (I 12 6).toInt ≤ 500); first | omega | decide) _) (cwV 1 hts gX9_all_X9_one rfl rfl rfl (by decide +kernel) ⟨Nat.le_of_ble_eq_true rfl, Nat.le_of_ble_eq_true rfl⟩) (z_preV (i := 12) hK hW rfl rfl) rfl rfl hl.1 rfl (lv_room (Nat.le_of_ble_eq_true rfl)) dX9_all_2 ⟨Nat.le_of_ble_eq_true rfl, Nat.le_of_ble_eq_true rfl⟩) (fun r u1 H locs hp hW hS => ?_)
  obtain ⟨I1, e9, hI1R, hI1T, fI1, hp⟩ := hp
  rw [e9] at hW
  have f2 := z_fr_sub (L := L_X9_all_1) z_fr_0 fI1 (by decide)
  have k3 : (I1 12 6).toInt ≤ 501 ∧ ((I1 12 7).toInt = 401 ∨ (I1 12 6).toInt ≤ 500) := hI1T
  rcases hp with rfl | rfl
  · refine lv_if_ne (tgt := 10) hx hb dX9_all_5 (by decide) (fun c4 => ?_) (fun c4 => absurd c4 (by decide))
    refine lv_iconst (v := 0) hx hb dX9_all_10 (by decide) ?_
    refine lv_istore_n (lv' := [(2, .int 0), (0, .ref (ad 12)), (1, .int 1)]) hx hb dX9_all_11 rfl hl (by decide) rfl (fun ls hl => ?_)
    have lp5 : ∀ (f : Nat) (y6 : Int32) (I7 : z_I) (H : Heap) (locs : List Loc) (ls : Array Slot), (2147483647 < y6.toInt + (f : Int)) → (0 ≤ y6.toInt) → (z_iR I7) → (z_iT I7) → (z_fr L_X9_all_1 I7 I) → z_W G A (shC c, ad, I7, JX, PC c ad) H → va_S A s.heap H locs → lv_has ls 3 [(2, .int y6), (0, .ref (ad 12)), (1, .int 1)] → W p l e (headSpec wsX9_all { frames := 39, cells := 0, slots := 0, locals := 847 }).room s m ([.ref (ad 12), .int 1] : List Value).toArray below meth c0 H locs 0 0 (MQ below (va_Qi (fun (r : Int32) (u1 : z_U) => ∃ I1 : z_I, u1 = (shC c, ad, I1, JX, PC c ad) ∧ z_iR I1 ∧ z_iT I1 ∧ z_fr L_X9_all_1 I1 I ∧ (r = 1 ∨ r = 0)) (z_B G A) A) ([.ref (ad 12), .int 1] : List Value).toArray s 0 0 A) (F0 m 12 ls []) := by
      intro f
      induction f with
      | zero => intro y6 I7  H locs ls lp5m lp5l2 lp5R lp5T lp5fr hW hS hl; exact absurd lp5m (by have := Int32.toInt_lt y6; have := Int32.le_toInt y6; omega)
      | succ f lp5ih =>
        intro y6 I7  H locs ls lp5m lp5l2 lp5R lp5T lp5fr hW hS hl
        have k8 : (I7 12 6).toInt ≤ 501 ∧ ((I7 12 7).toInt = 401 ∨ (I7 12 6).toInt ≤ 500) := lp5T
        refine lv_iload_n hx hb dX9_all_12 rfl (lv_at hl 0 rfl) ?_
        refine lv_sipush (v := 500) hx hb dX9_all_13 (by decide) ?_
        refine lv_icmp_ge (tgt := 55) hx hb dX9_all_16 (by decide) (fun c9 => ?_) (fun c9 => ?_)
        · have g10 := z_f_ge rfl z_l500 c9
          have b11 := Int32.toInt_lt y6
          refine lv_iconst (v := 1) hx hb dX9_all_55 (by decide) ?_
          exact z_zret hx hb hr (by decide) hK hS (Nat.le_of_ble_eq_true rfl) (Nat.le_of_ble_eq_true rfl) hlocks dX9_all_56 (shC c, ad, I7, JX, PC c ad) hW ⟨I7, rfl, ⟨(by show 0 ≤ (I7 12 1).toInt ∧ (I7 12 1).toInt ≤ 500; exact lp5R.1), (by show 0 ≤ (I7 12 5).toInt ∧ (I7 12 5).toInt ≤ 501; exact lp5R.2.1), (by show (-1) ≤ (I7 12 6).toInt ∧ (I7 12 6).toInt ≤ 1000000; exact lp5R.2.2.1), (by show 0 ≤ (I7 12 9).toInt ∧ (I7 12 9).toInt ≤ 500; exact lp5R.2.2.2.1), (by show 0 ≤ (I7 12 13).toInt ∧ (I7 12 13).toInt ≤ 24; exact lp5R.2.2.2.2)⟩, (by show (I7 12 6).toInt ≤ 501 ∧ ((I7 12 7).toInt = 401 ∨ (I7 12 6).toInt ≤ 500); first | omega | decide), lp5fr, Or.inl rfl⟩
        · have g12 := z_f_nge rfl z_l500 c9
          have b13 := Int32.toInt_lt y6
          refine lv_aload_n hx hb dX9_all_19 rfl (lv_at hl 1 rfl) ?_
          refine z_get (T := TX9) (N := 14) (ci := 9) (i := 12) (v := .int (I7 12 7)) hx hb hts zj_X9_all_X9 hown hK hW rfl rfl 7 (by decide) (hts (.fieldLink RX9 62 "PetrolBoard$Reader" "token" "I") (List.mem_of_getElem? (i := 1) rfl)) (fun _ h => h) rfl dX9_all_20 ?_
          refine lv_sipush (v := 310) hx hb dX9_all_23 (by decide) ?_
          refine lv_icmp_ne (tgt := 55) hx hb dX9_all_26 (by decide) (fun c14 => ?_) (fun c14 => ?_)
          · have g15 := z_f_ne rfl z_l310 c14
            have b16 := Int32.toInt_lt (I7 12 7)
            refine lv_iconst (v := 1) hx hb dX9_all_55 (by decide) ?_
            exact z_zret hx hb hr (by decide) hK hS (Nat.le_of_ble_eq_true rfl) (Nat.le_of_ble_eq_true rfl) hlocks dX9_all_56 (shC c, ad, I7, JX, PC c ad) hW ⟨I7, rfl, ⟨(by show 0 ≤ (I7 12 1).toInt ∧ (I7 12 1).toInt ≤ 500; exact lp5R.1), (by show 0 ≤ (I7 12 5).toInt ∧ (I7 12 5).toInt ≤ 501; exact lp5R.2.1), (by show (-1) ≤ (I7 12 6).toInt ∧ (I7 12 6).toInt ≤ 1000000; exact lp5R.2.2.1), (by show 0 ≤ (I7 12 9).toInt ∧ (I7 12 9).toInt ≤ 500; exact lp5R.2.2.2.1), (by show 0 ≤ (I7 12 13).toInt ∧ (I7 12 13).toInt ≤ 24; exact lp5R.2.2.2.2)⟩, (by show (I7 12 6).toInt ≤ 501 ∧ ((I7 12 7).toInt = 401 ∨ (I7 12 6).toInt ≤ 500); first | omega | decide), lp5fr, Or.inl rfl⟩
          · have g17 := z_f_eq rfl z_l310 c14
            have b18 := Int32.toInt_lt (I7 12 7)
            refine lv_aload_n hx hb dX9_all_29 rfl (lv_at hl 1 rfl) ?_
            refine z_cv hW hS hA (va_runV (As := []) (rest := []) ⟨hx, hb, hml, hown, hts⟩ (sx_X9_step l G ad c I7 ⟨(by show 0 ≤ (I7 12 1).toInt ∧ (I7 12 1).toInt ≤ 500; exact lp5R.1), (by show 0 ≤ (I7 12 5).toInt ∧ (I7 12 5).toInt ≤ 501; exact lp5R.2.1), (by show (-1) ≤ (I7 12 6).toInt ∧ (I7 12 6).toInt ≤ 1000000; exact lp5R.2.2.1), (by show 0 ≤ (I7 12 9).toInt ∧ (I7 12 9).toInt ≤ 500; exact lp5R.2.2.2.1), (by show 0 ≤ (I7 12 13).toInt ∧ (I7 12 13).toInt ≤ 24; exact lp5R.2.2.2.2)⟩   (by show (I7 12 6).toInt ≤ 500; first | omega | decide) _) (cwV 0 hts gX9_all_X9_step rfl rfl rfl (by decide +kernel) ⟨Nat.le_of_ble_eq_true rfl, Nat.le_of_ble_eq_true rfl⟩) (z_preV (i := 12) hK hW rfl rfl) rfl rfl hl.1 rfl (lv_room (Nat.le_of_ble_eq_true rfl)) dX9_all_30 ⟨Nat.le_of_ble_eq_true rfl, Nat.le_of_ble_eq_true rfl⟩) (fun u1 H locs hp hW hS => ?_)
            obtain ⟨I19, e9, hI19R, hI19T, fI19⟩ := hp
            rw [e9] at hW
            have f20 := z_fr_sub (L := L_X9_all_1) lp5fr fI19 (by decide)
            have k21 : (I19 12 6).toInt ≤ 501 ∧ ((I19 12 7).toInt = 401 ∨ (I19 12 6).toInt ≤ 500) := hI19T
            refine lv_aload_n hx hb dX9_all_33 rfl (lv_at hl 1 rfl) ?_
            refine lv_iload_n hx hb dX9_all_34 rfl (lv_at hl 2 rfl) ?_
            refine z_ci hW hS hA (va_runV (As := [.int 1]) (rest := []) ⟨hx, hb, hml, hown, hts⟩ (sx_X9_one_1 l G ad c I19 ⟨(by show 0 ≤ (I19 12 1).toInt ∧ (I19 12 1).toInt ≤ 500; exact hI19R.1), (by show 0 ≤ (I19 12 5).toInt ∧ (I19 12 5).toInt ≤ 501; exact hI19R.2.1), (by show (-1) ≤ (I19 12 6).toInt ∧ (I19 12 6).toInt ≤ 1000000; exact hI19R.2.2.1), (by show 0 ≤ (I19 12 9).toInt ∧ (I19 12 9).toInt ≤ 500; exact hI19R.2.2.2.1), (by show 0 ≤ (I19 12 13).toInt ∧ (I19 12 13).toInt ≤ 24; exact hI19R.2.2.2.2)⟩ (by show (I19 12 6).toInt ≤ 501 ∧ ((I19 12 7).toInt = 401 ∨ (I19 12 6).toInt ≤ 500); first | omega | decide) _) (cwV 1 hts gX9_all_X9_one rfl rfl rfl (by decide +kernel) ⟨Nat.le_of_ble_eq_true rfl, Nat.le_of_ble_eq_true rfl⟩) (z_preV (i := 12) hK hW rfl rfl) rfl rfl hl.1 rfl (lv_room (Nat.le_of_ble_eq_true rfl)) dX9_all_35 ⟨Nat.le_of_ble_eq_true rfl, Nat.le_of_ble_eq_true rfl⟩) (fun r u1 H locs hp hW hS => ?_)
            obtain ⟨I22, e9, hI22R, hI22T, fI22, hp⟩ := hp
            rw [e9] at hW
            have f23 := z_fr_sub (L := L_X9_all_1) f20 fI22 (by decide)
            have k24 : (I22 12 6).toInt ≤ 501 ∧ ((I22 12 7).toInt = 401 ∨ (I22 12 6).toInt ≤ 500) := hI22T
            rcases hp with rfl | rfl
            · refine lv_if_ne (tgt := 43) hx hb dX9_all_38 (by decide) (fun c25 => ?_) (fun c25 => absurd c25 (by decide))
              refine lv_aload_n hx hb dX9_all_43 rfl (lv_at hl 1 rfl) ?_
              refine lv_bipush (v := (-10)) hx hb dX9_all_44 (by decide) ?_
              refine z_cv hW hS hA (va_runV (As := [.int (-10)]) (rest := []) ⟨hx, hb, hml, hown, hts⟩ (sx_X9_emit l G ad c I22 ⟨(by show 0 ≤ (I22 12 1).toInt ∧ (I22 12 1).toInt ≤ 500; exact hI22R.1), (by show 0 ≤ (I22 12 5).toInt ∧ (I22 12 5).toInt ≤ 501; exact hI22R.2.1), (by show (-1) ≤ (I22 12 6).toInt ∧ (I22 12 6).toInt ≤ 1000000; exact hI22R.2.2.1), (by show 0 ≤ (I22 12 9).toInt ∧ (I22 12 9).toInt ≤ 500; exact hI22R.2.2.2.1), (by show 0 ≤ (I22 12 13).toInt ∧ (I22 12 13).toInt ≤ 24; exact hI22R.2.2.2.2)⟩ (-10) _) (cwV 1 hts gX9_all_X9_emit rfl rfl rfl (by decide +kernel) ⟨Nat.le_of_ble_eq_true rfl, Nat.le_of_ble_eq_true rfl⟩) (z_preV (i := 12) hK hW rfl rfl) rfl rfl hl.1 rfl (lv_room (Nat.le_of_ble_eq_true rfl)) dX9_all_46 ⟨Nat.le_of_ble_eq_true rfl, Nat.le_of_ble_eq_true rfl⟩) (fun u1 H locs hp hW hS => ?_)
              obtain ⟨I26, e9, hI26R, fI26⟩ := hp
              rw [e9] at hW
              have f27 := z_fr_sub (L := L_X9_all_1) f23 fI26 (by decide)
              have k28 : (I26 12 6).toInt ≤ 501 ∧ ((I26 12 7).toInt = 401 ∨ (I26 12 6).toInt ≤ 500) := (by have q0 : (I26 12 6) = (I22 12 6) := (by rw [fI26 12 6 (by decide)]); have q1 : (I26 12 7) = (I22 12 7) := (by rw [fI26 12 7 (by decide)]); show (I26 12 6).toInt ≤ 501 ∧ ((I26 12 7).toInt = 401 ∨ (I26 12 6).toInt ≤ 500); rw [q0, q1]; first | omega | decide)
              obtain ⟨x29, ex29⟩ : ∃ y : Int32, y = y6 + 1 := ⟨_, rfl⟩
              have tx29 : x29.toInt = y6.toInt + 1 := z_tadd ex29 rfl z_l1 (by omega) (by omega)
              refine lv_iinc (v := x29) (lv' := [(2, .int x29), (0, .ref (ad 12)), (1, .int 1)]) hx hb dX9_all_49 hl (k := 0) rfl (by rw [ex29]; rfl) (by decide) rfl (fun ls hl => ?_)
              refine lv_goto (tgt := 12) hx hb dX9_all_52 (by decide) ?_
              exact lp5ih x29 I26  _ _ _ (by omega) (by omega) ⟨(by show 0 ≤ (I26 12 1).toInt ∧ (I26 12 1).toInt ≤ 500; exact hI26R.1), (by show 0 ≤ (I26 12 5).toInt ∧ (I26 12 5).toInt ≤ 501; exact hI26R.2.1), (by show (-1) ≤ (I26 12 6).toInt ∧ (I26 12 6).toInt ≤ 1000000; exact hI26R.2.2.1), (by show 0 ≤ (I26 12 9).toInt ∧ (I26 12 9).toInt ≤ 500; exact hI26R.2.2.2.1), (by show 0 ≤ (I26 12 13).toInt ∧ (I26 12 13).toInt ≤ 24; exact hI26R.2.2.2.2)⟩ (by show (I26 12 6).toInt ≤ 501 ∧ ((I26 12 7).toInt = 401 ∨ (I26 12 6).toInt ≤ 500); first | omega | decide) f27 hW hS (lv_sub hl [0, 1, 2] rfl)
            · refine lv_if_ne (tgt := 43) hx hb dX9_all_38 (by decide) (fun c30 => absurd (by decide) c30) (fun c30 => ?_)
              refine lv_iconst (v := 0) hx hb dX9_all_41 (by decide) ?_
              exact z_zret hx hb hr (by decide) hK hS (Nat.le_of_ble_eq_true rfl) (Nat.le_of_ble_eq_true rfl) hlocks dX9_all_42 (shC c, ad, I22, JX, PC c ad) hW ⟨I22, rfl, ⟨(by show 0 ≤ (I22 12 1).toInt ∧ (I22 12 1).toInt ≤ 500; exact hI22R.1), (by show 0 ≤ (I22 12 5).toInt ∧ (I22 12 5).toInt ≤ 501; exact hI22R.2.1), (by show (-1) ≤ (I22 12 6).toInt ∧ (I22 12 6).toInt ≤ 1000000; exact hI22R.2.2.1), (by show 0 ≤ (I22 12 9).toInt ∧ (I22 12 9).toInt ≤ 500; exact hI22R.2.2.2.1), (by show 0 ≤ (I22 12 13).toInt ∧ (I22 12 13).toInt ≤ 24; exact hI22R.2.2.2.2)⟩, (by show (I22 12 6).toInt ≤ 501 ∧ ((I22 12 7).toInt = 401 ∨ (I22 12 6).toInt ≤ 500); first | omega | decide), f23, Or.inr rfl⟩
    exact lp5 4294967296 (0) I1  _ _ _ (z_m0u _) (by rw [z_l0]; omega) ⟨(by show 0 ≤ (I1 12 1).toInt ∧ (I1 12 1).toInt ≤ 500; exact hI1R.1), (by show 0 ≤ (I1 12 5).toInt ∧ (I1 12 5).toInt ≤ 501; exact hI1R.2.1), (by show (-1) ≤ (I1 12 6).toInt ∧ (I1 12 6).toInt ≤ 1000000; exact hI1R.2.2.1), (by show 0 ≤ (I1 12 9).toInt ∧ (I1 12 9).toInt ≤ 500; exact hI1R.2.2.2.1), (by show 0 ≤ (I1 12 13).toInt ∧ (I1 12 13).toInt ≤ 24; exact hI1R.2.2.2.2)⟩ (by show (I1 12 6).toInt ≤ 501 ∧ ((I1 12 7).toInt = 401 ∨ (I1 12 6).toInt ≤ 500); first | omega | decide) f2 hW hS (lv_sub hl [0, 1, 2] rfl)
  · refine lv_if_ne (tgt := 10) hx hb dX9_all_5 (by decide) (fun c31 => absurd (by decide) c31) (fun c31 => ?_)
    refine lv_iconst (v := 0) hx hb dX9_all_8 (by decide) ?_
    exact z_zret hx hb hr (by decide) hK hS (Nat.le_of_ble_eq_true rfl) (Nat.le_of_ble_eq_true rfl) hlocks dX9_all_9 (shC c, ad, I1, JX, PC c ad) hW ⟨I1, rfl, ⟨(by show 0 ≤ (I1 12 1).toInt ∧ (I1 12 1).toInt ≤ 500; exact hI1R.1), (by show 0 ≤ (I1 12 5).toInt ∧ (I1 12 5).toInt ≤ 501; exact hI1R.2.1), (by show (-1) ≤ (I1 12 6).toInt ∧ (I1 12 6).toInt ≤ 1000000; exact hI1R.2.2.1), (by show 0 ≤ (I1 12 9).toInt ∧ (I1 12 9).toInt ≤ 500; exact hI1R.2.2.2.1), (by show 0 ≤ (I1 12 13).toInt ∧ (I1 12 13).toInt ≤ 24; exact hI1R.2.2.2.2)⟩, (by show (I1 12 6).toInt ≤ 501 ∧ ((I1 12 7).toInt = 401 ∨ (I1 12 6).toInt ≤ 500); first | omega | decide), f2, Or.inr rfl⟩
def L_X9_either_1 : z_L := [(12, 6), (12, 7), (17, 999), (12, 9)]
set_option maxHeartbeats 8000000 in
set_option maxRecDepth 100000 in
theorem sx_X9_either_1 (l : Launch) (G : z_G) (ad : Nat → Nat) (c : z_C) (I : z_I) (hR : z_iR I) (hT : z_iT I) : z_M l yX9_either wsX9_either { frames := 40, cells := 0, slots := 0, locals := 869 } [.ref (ad 12), .int 1] G (shC c, ad, I, JX, PC c ad) (fun r u1 => ∃ I1 : z_I, u1 = (shC c, ad, I1, JX, PC c ad) ∧ z_iR I1 ∧ z_iT I1 ∧ z_fr L_X9_either_1 I1 I ∧ (r = 1 ∨ r = 0)) 0 0 := by
  intro sz
  refine z_headQ (cc := cX9_either) (maxL := 3) (ret := (some .boolean)) (by decide) rfl (Nat.le_of_ble_eq_true rfl) ?_
  intro p e s m below meth c0 ls hIn hK hsz hW hl
  obtain ⟨hx, hb, hr, hml, hown, hts, hlocks, hname⟩ := hIn
  subst hsz
  have hown : s.vm.findClass RX9 = some m.cls := hown
  have hA : ∀ q : Nat, s.heap.size ≤ q → z_A (shC c, ad, I, JX, PC c ad) s.heap.size q := fun q h => Or.inr h
  generalize hAe : z_A (shC c, ad, I, JX, PC c ad) s.heap.size = A at *
  have hS : va_S A s.heap s.heap [] := va_S.rf
  have hl : lv_has ls 3 [(0, .ref (ad 12)), (1, .int 1)] := hl
  have kT : (I 12 6).toInt ≤ 501 ∧ ((I 12 7).toInt = 401 ∨ (I 12 6).toInt ≤ 500) := hT
  refine lv_aload_n hx hb dX9_either_0 rfl (lv_at hl 0 rfl) ?_
  refine lv_iload_n hx hb dX9_either_1 rfl (lv_at hl 1 rfl) ?_
  refine z_ci hW hS hA (va_runV (As := [.int 1]) (rest := []) ⟨hx, hb, hml, hown, hts⟩ (sx_X9_all_1 l G ad c I ⟨(by show 0 ≤ (I 12 1).toInt ∧ (I 12 1).toInt ≤ 500; exact hR.1), (by show 0 ≤ (I 12 5).toInt ∧ (I 12 5).toInt ≤ 501; exact hR.2.1), (by show (-1) ≤ (I 12 6).toInt ∧ (I 12 6).toInt ≤ 1000000; exact hR.2.2.1), (by show 0 ≤ (I 12 9).toInt ∧ (I 12 9).toInt ≤ 500; exact hR.2.2.2.1), (by show 0 ≤ (I 12 13).toInt ∧ (I 12 13).toInt ≤ 24; exact hR.2.2.2.2)⟩ (by show (I 12 6).toInt ≤ 501 ∧ ((I 12 7).toInt = 401 ∨ (I 12 6).toInt ≤ 500); first | omega | decide) _) (cwV 1 hts gX9_either_X9_all rfl rfl rfl (by decide +kernel) ⟨Nat.le_of_ble_eq_true rfl, Nat.le_of_ble_eq_true rfl⟩) (z_preV (i := 12) hK hW rfl rfl) rfl rfl hl.1 rfl (lv_room (Nat.le_of_ble_eq_true rfl)) dX9_either_2 ⟨Nat.le_of_ble_eq_true rfl, Nat.le_of_ble_eq_true rfl⟩) (fun r u1 H locs hp hW hS => ?_)
  obtain ⟨I1, e9, hI1R, hI1T, fI1, hp⟩ := hp
  rw [e9] at hW
  have f2 := z_fr_sub (L := L_X9_either_1) z_fr_0 fI1 (by decide)
  have k3 : (I1 12 6).toInt ≤ 501 ∧ ((I1 12 7).toInt = 401 ∨ (I1 12 6).toInt ≤ 500) := hI1T
  rcases hp with rfl | rfl
  · refine lv_if_ne (tgt := 10) hx hb dX9_either_5 (by decide) (fun c4 => ?_) (fun c4 => absurd c4 (by decide))
    refine lv_iconst (v := 0) hx hb dX9_either_10 (by decide) ?_
    refine lv_istore_n (lv' := [(2, .int 0), (0, .ref (ad 12)), (1, .int 1)]) hx hb dX9_either_11 rfl hl (by decide) rfl (fun ls hl => ?_)
    have lp5 : ∀ (f : Nat) (y6 : Int32) (I7 : z_I) (H : Heap) (locs : List Loc) (ls : Array Slot), (2147483647 < y6.toInt + (f : Int)) → (0 ≤ y6.toInt) → (z_iR I7) → (z_iT I7) → (z_fr L_X9_either_1 I7 I) → z_W G A (shC c, ad, I7, JX, PC c ad) H → va_S A s.heap H locs → lv_has ls 3 [(2, .int y6), (0, .ref (ad 12)), (1, .int 1)] → W p l e (headSpec wsX9_either { frames := 40, cells := 0, slots := 0, locals := 869 }).room s m ([.ref (ad 12), .int 1] : List Value).toArray below meth c0 H locs 0 0 (MQ below (va_Qi (fun (r : Int32) (u1 : z_U) => ∃ I1 : z_I, u1 = (shC c, ad, I1, JX, PC c ad) ∧ z_iR I1 ∧ z_iT I1 ∧ z_fr L_X9_either_1 I1 I ∧ (r = 1 ∨ r = 0)) (z_B G A) A) ([.ref (ad 12), .int 1] : List Value).toArray s 0 0 A) (F0 m 12 ls []) := by
      intro f
      induction f with
      | zero => intro y6 I7  H locs ls lp5m lp5l2 lp5R lp5T lp5fr hW hS hl; exact absurd lp5m (by have := Int32.toInt_lt y6; have := Int32.le_toInt y6; omega)
      | succ f lp5ih =>
        intro y6 I7  H locs ls lp5m lp5l2 lp5R lp5T lp5fr hW hS hl
        have k8 : (I7 12 6).toInt ≤ 501 ∧ ((I7 12 7).toInt = 401 ∨ (I7 12 6).toInt ≤ 500) := lp5T
        refine lv_iload_n hx hb dX9_either_12 rfl (lv_at hl 0 rfl) ?_
        refine lv_sipush (v := 500) hx hb dX9_either_13 (by decide) ?_
        refine lv_icmp_ge (tgt := 55) hx hb dX9_either_16 (by decide) (fun c9 => ?_) (fun c9 => ?_)
        · have g10 := z_f_ge rfl z_l500 c9
          have b11 := Int32.toInt_lt y6
          refine lv_iconst (v := 1) hx hb dX9_either_55 (by decide) ?_
          exact z_zret hx hb hr (by decide) hK hS (Nat.le_of_ble_eq_true rfl) (Nat.le_of_ble_eq_true rfl) hlocks dX9_either_56 (shC c, ad, I7, JX, PC c ad) hW ⟨I7, rfl, ⟨(by show 0 ≤ (I7 12 1).toInt ∧ (I7 12 1).toInt ≤ 500; exact lp5R.1), (by show 0 ≤ (I7 12 5).toInt ∧ (I7 12 5).toInt ≤ 501; exact lp5R.2.1), (by show (-1) ≤ (I7 12 6).toInt ∧ (I7 12 6).toInt ≤ 1000000; exact lp5R.2.2.1), (by show 0 ≤ (I7 12 9).toInt ∧ (I7 12 9).toInt ≤ 500; exact lp5R.2.2.2.1), (by show 0 ≤ (I7 12 13).toInt ∧ (I7 12 13).toInt ≤ 24; exact lp5R.2.2.2.2)⟩, (by show (I7 12 6).toInt ≤ 501 ∧ ((I7 12 7).toInt = 401 ∨ (I7 12 6).toInt ≤ 500); first | omega | decide), lp5fr, Or.inl rfl⟩
        · have g12 := z_f_nge rfl z_l500 c9
          have b13 := Int32.toInt_lt y6
          refine lv_aload_n hx hb dX9_either_19 rfl (lv_at hl 1 rfl) ?_
          refine z_get (T := TX9) (N := 14) (ci := 9) (i := 12) (v := .int (I7 12 7)) hx hb hts zj_X9_either_X9 hown hK hW rfl rfl 7 (by decide) (hts (.fieldLink RX9 62 "PetrolBoard$Reader" "token" "I") (List.mem_of_getElem? (i := 1) rfl)) (fun _ h => h) rfl dX9_either_20 ?_
          refine lv_sipush (v := 309) hx hb dX9_either_23 (by decide) ?_
          refine lv_icmp_ne (tgt := 55) hx hb dX9_either_26 (by decide) (fun c14 => ?_) (fun c14 => ?_)
          · have g15 := z_f_ne rfl z_l309 c14
            have b16 := Int32.toInt_lt (I7 12 7)
            refine lv_iconst (v := 1) hx hb dX9_either_55 (by decide) ?_
            exact z_zret hx hb hr (by decide) hK hS (Nat.le_of_ble_eq_true rfl) (Nat.le_of_ble_eq_true rfl) hlocks dX9_either_56 (shC c, ad, I7, JX, PC c ad) hW ⟨I7, rfl, ⟨(by show 0 ≤ (I7 12 1).toInt ∧ (I7 12 1).toInt ≤ 500; exact lp5R.1), (by show 0 ≤ (I7 12 5).toInt ∧ (I7 12 5).toInt ≤ 501; exact lp5R.2.1), (by show (-1) ≤ (I7 12 6).toInt ∧ (I7 12 6).toInt ≤ 1000000; exact lp5R.2.2.1), (by show 0 ≤ (I7 12 9).toInt ∧ (I7 12 9).toInt ≤ 500; exact lp5R.2.2.2.1), (by show 0 ≤ (I7 12 13).toInt ∧ (I7 12 13).toInt ≤ 24; exact lp5R.2.2.2.2)⟩, (by show (I7 12 6).toInt ≤ 501 ∧ ((I7 12 7).toInt = 401 ∨ (I7 12 6).toInt ≤ 500); first | omega | decide), lp5fr, Or.inl rfl⟩
          · have g17 := z_f_eq rfl z_l309 c14
            have b18 := Int32.toInt_lt (I7 12 7)
            refine lv_aload_n hx hb dX9_either_29 rfl (lv_at hl 1 rfl) ?_
            refine z_cv hW hS hA (va_runV (As := []) (rest := []) ⟨hx, hb, hml, hown, hts⟩ (sx_X9_step l G ad c I7 ⟨(by show 0 ≤ (I7 12 1).toInt ∧ (I7 12 1).toInt ≤ 500; exact lp5R.1), (by show 0 ≤ (I7 12 5).toInt ∧ (I7 12 5).toInt ≤ 501; exact lp5R.2.1), (by show (-1) ≤ (I7 12 6).toInt ∧ (I7 12 6).toInt ≤ 1000000; exact lp5R.2.2.1), (by show 0 ≤ (I7 12 9).toInt ∧ (I7 12 9).toInt ≤ 500; exact lp5R.2.2.2.1), (by show 0 ≤ (I7 12 13).toInt ∧ (I7 12 13).toInt ≤ 24; exact lp5R.2.2.2.2)⟩   (by show (I7 12 6).toInt ≤ 500; first | omega | decide) _) (cwV 0 hts gX9_either_X9_step rfl rfl rfl (by decide +kernel) ⟨Nat.le_of_ble_eq_true rfl, Nat.le_of_ble_eq_true rfl⟩) (z_preV (i := 12) hK hW rfl rfl) rfl rfl hl.1 rfl (lv_room (Nat.le_of_ble_eq_true rfl)) dX9_either_30 ⟨Nat.le_of_ble_eq_true rfl, Nat.le_of_ble_eq_true rfl⟩) (fun u1 H locs hp hW hS => ?_)
            obtain ⟨I19, e9, hI19R, hI19T, fI19⟩ := hp
            rw [e9] at hW
            have f20 := z_fr_sub (L := L_X9_either_1) lp5fr fI19 (by decide)
            have k21 : (I19 12 6).toInt ≤ 501 ∧ ((I19 12 7).toInt = 401 ∨ (I19 12 6).toInt ≤ 500) := hI19T
            refine lv_aload_n hx hb dX9_either_33 rfl (lv_at hl 1 rfl) ?_
            refine lv_iload_n hx hb dX9_either_34 rfl (lv_at hl 2 rfl) ?_
            refine z_ci hW hS hA (va_runV (As := [.int 1]) (rest := []) ⟨hx, hb, hml, hown, hts⟩ (sx_X9_all_1 l G ad c I19 ⟨(by show 0 ≤ (I19 12 1).toInt ∧ (I19 12 1).toInt ≤ 500; exact hI19R.1), (by show 0 ≤ (I19 12 5).toInt ∧ (I19 12 5).toInt ≤ 501; exact hI19R.2.1), (by show (-1) ≤ (I19 12 6).toInt ∧ (I19 12 6).toInt ≤ 1000000; exact hI19R.2.2.1), (by show 0 ≤ (I19 12 9).toInt ∧ (I19 12 9).toInt ≤ 500; exact hI19R.2.2.2.1), (by show 0 ≤ (I19 12 13).toInt ∧ (I19 12 13).toInt ≤ 24; exact hI19R.2.2.2.2)⟩ (by show (I19 12 6).toInt ≤ 501 ∧ ((I19 12 7).toInt = 401 ∨ (I19 12 6).toInt ≤ 500); first | omega | decide) _) (cwV 1 hts gX9_either_X9_all rfl rfl rfl (by decide +kernel) ⟨Nat.le_of_ble_eq_true rfl, Nat.le_of_ble_eq_true rfl⟩) (z_preV (i := 12) hK hW rfl rfl) rfl rfl hl.1 rfl (lv_room (Nat.le_of_ble_eq_true rfl)) dX9_either_35 ⟨Nat.le_of_ble_eq_true rfl, Nat.le_of_ble_eq_true rfl⟩) (fun r u1 H locs hp hW hS => ?_)
            obtain ⟨I22, e9, hI22R, hI22T, fI22, hp⟩ := hp
            rw [e9] at hW
            have f23 := z_fr_sub (L := L_X9_either_1) f20 fI22 (by decide)
            have k24 : (I22 12 6).toInt ≤ 501 ∧ ((I22 12 7).toInt = 401 ∨ (I22 12 6).toInt ≤ 500) := hI22T
            rcases hp with rfl | rfl
            · refine lv_if_ne (tgt := 43) hx hb dX9_either_38 (by decide) (fun c25 => ?_) (fun c25 => absurd c25 (by decide))
              refine lv_aload_n hx hb dX9_either_43 rfl (lv_at hl 1 rfl) ?_
              refine lv_bipush (v := (-11)) hx hb dX9_either_44 (by decide) ?_
              refine z_cv hW hS hA (va_runV (As := [.int (-11)]) (rest := []) ⟨hx, hb, hml, hown, hts⟩ (sx_X9_emit l G ad c I22 ⟨(by show 0 ≤ (I22 12 1).toInt ∧ (I22 12 1).toInt ≤ 500; exact hI22R.1), (by show 0 ≤ (I22 12 5).toInt ∧ (I22 12 5).toInt ≤ 501; exact hI22R.2.1), (by show (-1) ≤ (I22 12 6).toInt ∧ (I22 12 6).toInt ≤ 1000000; exact hI22R.2.2.1), (by show 0 ≤ (I22 12 9).toInt ∧ (I22 12 9).toInt ≤ 500; exact hI22R.2.2.2.1), (by show 0 ≤ (I22 12 13).toInt ∧ (I22 12 13).toInt ≤ 24; exact hI22R.2.2.2.2)⟩ (-11) _) (cwV 1 hts gX9_either_X9_emit rfl rfl rfl (by decide +kernel) ⟨Nat.le_of_ble_eq_true rfl, Nat.le_of_ble_eq_true rfl⟩) (z_preV (i := 12) hK hW rfl rfl) rfl rfl hl.1 rfl (lv_room (Nat.le_of_ble_eq_true rfl)) dX9_either_46 ⟨Nat.le_of_ble_eq_true rfl, Nat.le_of_ble_eq_true rfl⟩) (fun u1 H locs hp hW hS => ?_)
              obtain ⟨I26, e9, hI26R, fI26⟩ := hp
              rw [e9] at hW
              have f27 := z_fr_sub (L := L_X9_either_1) f23 fI26 (by decide)
              have k28 : (I26 12 6).toInt ≤ 501 ∧ ((I26 12 7).toInt = 401 ∨ (I26 12 6).toInt ≤ 500) := (by have q0 : (I26 12 6) = (I22 12 6) := (by rw [fI26 12 6 (by decide)]); have q1 : (I26 12 7) = (I22 12 7) := (by rw [fI26 12 7 (by decide)]); show (I26 12 6).toInt ≤ 501 ∧ ((I26 12 7).toInt = 401 ∨ (I26 12 6).toInt ≤ 500); rw [q0, q1]; first | omega | decide)
              obtain ⟨x29, ex29⟩ : ∃ y : Int32, y = y6 + 1 := ⟨_, rfl⟩
              have tx29 : x29.toInt = y6.toInt + 1 := z_tadd ex29 rfl z_l1 (by omega) (by omega)
              refine lv_iinc (v := x29) (lv' := [(2, .int x29), (0, .ref (ad 12)), (1, .int 1)]) hx hb dX9_either_49 hl (k := 0) rfl (by rw [ex29]; rfl) (by decide) rfl (fun ls hl => ?_)
              refine lv_goto (tgt := 12) hx hb dX9_either_52 (by decide) ?_
              exact lp5ih x29 I26  _ _ _ (by omega) (by omega) ⟨(by show 0 ≤ (I26 12 1).toInt ∧ (I26 12 1).toInt ≤ 500; exact hI26R.1), (by show 0 ≤ (I26 12 5).toInt ∧ (I26 12 5).toInt ≤ 501; exact hI26R.2.1), (by show (-1) ≤ (I26 12 6).toInt ∧ (I26 12 6).toInt ≤ 1000000; exact hI26R.2.2.1), (by show 0 ≤ (I26 12 9).toInt ∧ (I26 12 9).toInt ≤ 500; exact hI26R.2.2.2.1), (by show 0 ≤ (I26 12 13).toInt ∧ (I26 12 13).toInt ≤ 24; exact hI26R.2.2.2.2)⟩ (by show (I26 12 6).toInt ≤ 501 ∧ ((I26 12 7).toInt = 401 ∨ (I26 12 6).toInt ≤ 500); first | omega | decide) f27 hW hS (lv_sub hl [0, 1, 2] rfl)
            · refine lv_if_ne (tgt := 43) hx hb dX9_either_38 (by decide) (fun c30 => absurd (by decide) c30) (fun c30 => ?_)
              refine lv_iconst (v := 0) hx hb dX9_either_41 (by decide) ?_
              exact z_zret hx hb hr (by decide) hK hS (Nat.le_of_ble_eq_true rfl) (Nat.le_of_ble_eq_true rfl) hlocks dX9_either_42 (shC c, ad, I22, JX, PC c ad) hW ⟨I22, rfl, ⟨(by show 0 ≤ (I22 12 1).toInt ∧ (I22 12 1).toInt ≤ 500; exact hI22R.1), (by show 0 ≤ (I22 12 5).toInt ∧ (I22 12 5).toInt ≤ 501; exact hI22R.2.1), (by show (-1) ≤ (I22 12 6).toInt ∧ (I22 12 6).toInt ≤ 1000000; exact hI22R.2.2.1), (by show 0 ≤ (I22 12 9).toInt ∧ (I22 12 9).toInt ≤ 500; exact hI22R.2.2.2.1), (by show 0 ≤ (I22 12 13).toInt ∧ (I22 12 13).toInt ≤ 24; exact hI22R.2.2.2.2)⟩, (by show (I22 12 6).toInt ≤ 501 ∧ ((I22 12 7).toInt = 401 ∨ (I22 12 6).toInt ≤ 500); first | omega | decide), f23, Or.inr rfl⟩
    exact lp5 4294967296 (0) I1  _ _ _ (z_m0u _) (by rw [z_l0]; omega) ⟨(by show 0 ≤ (I1 12 1).toInt ∧ (I1 12 1).toInt ≤ 500; exact hI1R.1), (by show 0 ≤ (I1 12 5).toInt ∧ (I1 12 5).toInt ≤ 501; exact hI1R.2.1), (by show (-1) ≤ (I1 12 6).toInt ∧ (I1 12 6).toInt ≤ 1000000; exact hI1R.2.2.1), (by show 0 ≤ (I1 12 9).toInt ∧ (I1 12 9).toInt ≤ 500; exact hI1R.2.2.2.1), (by show 0 ≤ (I1 12 13).toInt ∧ (I1 12 13).toInt ≤ 24; exact hI1R.2.2.2.2)⟩ (by show (I1 12 6).toInt ≤ 501 ∧ ((I1 12 7).toInt = 401 ∨ (I1 12 6).toInt ≤ 500); first | omega | decide) f2 hW hS (lv_sub hl [0, 1, 2] rfl)
  · refine lv_if_ne (tgt := 10) hx hb dX9_either_5 (by decide) (fun c31 => absurd (by decide) c31) (fun c31 => ?_)
    refine lv_iconst (v := 0) hx hb dX9_either_8 (by decide) ?_
    exact z_zret hx hb hr (by decide) hK hS (Nat.le_of_ble_eq_true rfl) (Nat.le_of_ble_eq_true rfl) hlocks dX9_either_9 (shC c, ad, I1, JX, PC c ad) hW ⟨I1, rfl, ⟨(by show 0 ≤ (I1 12 1).toInt ∧ (I1 12 1).toInt ≤ 500; exact hI1R.1), (by show 0 ≤ (I1 12 5).toInt ∧ (I1 12 5).toInt ≤ 501; exact hI1R.2.1), (by show (-1) ≤ (I1 12 6).toInt ∧ (I1 12 6).toInt ≤ 1000000; exact hI1R.2.2.1), (by show 0 ≤ (I1 12 9).toInt ∧ (I1 12 9).toInt ≤ 500; exact hI1R.2.2.2.1), (by show 0 ≤ (I1 12 13).toInt ∧ (I1 12 13).toInt ≤ 24; exact hI1R.2.2.2.2)⟩, (by show (I1 12 6).toInt ≤ 501 ∧ ((I1 12 7).toInt = 401 ∨ (I1 12 6).toInt ≤ 500); first | omega | decide), f2, Or.inr rfl⟩
def L_X9_atom_0 : z_L := [(12, 6), (12, 7), (17, 999), (12, 9)]
set_option maxHeartbeats 8000000 in
set_option maxRecDepth 100000 in
theorem sx_X9_atom_0 (l : Launch) (G : z_G) (ad : Nat → Nat) (c : z_C) (I : z_I) (hR : z_iR I) (hT : z_iT I) : z_M l yX9_atom wsX9_atom { frames := 30, cells := 0, slots := 0, locals := 665 } [.ref (ad 12), .int 0] G (shC c, ad, I, JX, PC c ad) (fun r u1 => ∃ I1 : z_I, u1 = (shC c, ad, I1, JX, PC c ad) ∧ z_iR I1 ∧ z_iT I1 ∧ z_fr L_X9_atom_0 I1 I ∧ (r = 1 ∨ r = 0)) 0 0 := by
  intro sz
  refine z_headQ (cc := cX9_atom) (maxL := 3) (ret := (some .boolean)) (by decide) rfl (Nat.le_of_ble_eq_true rfl) ?_
  intro p e s m below meth c0 ls hIn hK hsz hW hl
  obtain ⟨hx, hb, hr, hml, hown, hts, hlocks, hname⟩ := hIn
  subst hsz
  have hown : s.vm.findClass RX9 = some m.cls := hown
  have hA : ∀ q : Nat, s.heap.size ≤ q → z_A (shC c, ad, I, JX, PC c ad) s.heap.size q := fun q h => Or.inr h
  generalize hAe : z_A (shC c, ad, I, JX, PC c ad) s.heap.size = A at *
  have hS : va_S A s.heap s.heap [] := va_S.rf
  have hl : lv_has ls 3 [(0, .ref (ad 12)), (1, .int 0)] := hl
  have kT : (I 12 6).toInt ≤ 501 ∧ ((I 12 7).toInt = 401 ∨ (I 12 6).toInt ≤ 500) := hT
  refine lv_aload_n hx hb dX9_atom_0 rfl (lv_at hl 0 rfl) ?_
  refine z_get (T := TX9) (N := 14) (ci := 9) (i := 12) (v := .int (I 12 7)) hx hb hts zj_X9_atom_X9 hown hK hW rfl rfl 7 (by decide) (hts (.fieldLink RX9 62 "PetrolBoard$Reader" "token" "I") (List.mem_of_getElem? (i := 1) rfl)) (fun _ h => h) rfl dX9_atom_1 ?_
  refine lv_sipush (v := 400) hx hb dX9_atom_4 (by decide) ?_
  refine lv_icmp_eq (tgt := 30) hx hb dX9_atom_7 (by decide) (fun c1 => ?_) (fun c1 => ?_)
  · have g2 := z_f_eq rfl z_l400 c1
    have b3 := Int32.toInt_lt (I 12 7)
    refine lv_aload_n hx hb dX9_atom_30 rfl (lv_at hl 0 rfl) ?_
    refine lv_aload_n hx hb dX9_atom_31 rfl (lv_at hl 0 rfl) ?_
    refine z_get (T := TX9) (N := 14) (ci := 9) (i := 12) (v := .int (I 12 7)) hx hb hts zj_X9_atom_X9 hown hK hW rfl rfl 7 (by decide) (hts (.fieldLink RX9 62 "PetrolBoard$Reader" "token" "I") (List.mem_of_getElem? (i := 1) rfl)) (fun _ h => h) rfl dX9_atom_32 ?_
    refine lv_sipush (v := 400) hx hb dX9_atom_35 (by decide) ?_
    refine lv_icmp_ne (tgt := 48) hx hb dX9_atom_38 (by decide) (fun c4 => (by have g := z_f_ne rfl z_l400 c4; omega)) (fun c4 => ?_)
    have g5 := z_f_eq rfl z_l400 c4
    refine lv_aload_n hx hb dX9_atom_41 rfl (lv_at hl 0 rfl) ?_
    refine z_ci hW hS hA (va_runV (As := []) (rest := [.ref (ad 12)]) ⟨hx, hb, hml, hown, hts⟩ (sx_X9_numberHere l G ad c I ⟨(by show 0 ≤ (I 12 1).toInt ∧ (I 12 1).toInt ≤ 500; exact hR.1), (by show 0 ≤ (I 12 5).toInt ∧ (I 12 5).toInt ≤ 501; exact hR.2.1), (by show (-1) ≤ (I 12 6).toInt ∧ (I 12 6).toInt ≤ 1000000; exact hR.2.2.1), (by show 0 ≤ (I 12 9).toInt ∧ (I 12 9).toInt ≤ 500; exact hR.2.2.2.1), (by show 0 ≤ (I 12 13).toInt ∧ (I 12 13).toInt ≤ 24; exact hR.2.2.2.2)⟩  _) (cwV 0 hts gX9_atom_X9_numberHere rfl rfl rfl (by decide +kernel) ⟨Nat.le_of_ble_eq_true rfl, Nat.le_of_ble_eq_true rfl⟩) (z_preV (i := 12) hK hW rfl rfl) rfl rfl hl.1 rfl (lv_room (Nat.le_of_ble_eq_true rfl)) dX9_atom_42 ⟨Nat.le_of_ble_eq_true rfl, Nat.le_of_ble_eq_true rfl⟩) (fun r u1 H locs hp hW hS => ?_)
    rw [hp] at hW
    refine lv_topi (fun x6 ex6 => ?_)
    refine lv_goto (tgt := 59) hx hb dX9_atom_45 (by decide) ?_
    refine z_cv hW hS hA (va_runV (As := [.int x6]) (rest := []) ⟨hx, hb, hml, hown, hts⟩ (sx_X9_emit l G ad c I ⟨(by show 0 ≤ (I 12 1).toInt ∧ (I 12 1).toInt ≤ 500; exact hR.1), (by show 0 ≤ (I 12 5).toInt ∧ (I 12 5).toInt ≤ 501; exact hR.2.1), (by show (-1) ≤ (I 12 6).toInt ∧ (I 12 6).toInt ≤ 1000000; exact hR.2.2.1), (by show 0 ≤ (I 12 9).toInt ∧ (I 12 9).toInt ≤ 500; exact hR.2.2.2.1), (by show 0 ≤ (I 12 13).toInt ∧ (I 12 13).toInt ≤ 24; exact hR.2.2.2.2)⟩ x6 _) (cwV 1 hts gX9_atom_X9_emit rfl rfl rfl (by decide +kernel) ⟨Nat.le_of_ble_eq_true rfl, Nat.le_of_ble_eq_true rfl⟩) (z_preV (i := 12) hK hW rfl rfl) rfl rfl hl.1 rfl (lv_room (Nat.le_of_ble_eq_true rfl)) dX9_atom_59 ⟨Nat.le_of_ble_eq_true rfl, Nat.le_of_ble_eq_true rfl⟩) (fun u1 H locs hp hW hS => ?_)
    obtain ⟨I7, e9, hI7R, fI7⟩ := hp
    rw [e9] at hW
    have f8 := z_fr_sub (L := L_X9_atom_0) z_fr_0 fI7 (by decide)
    have k9 : (I7 12 6).toInt ≤ 501 ∧ ((I7 12 7).toInt = 401 ∨ (I7 12 6).toInt ≤ 500) := (by have q0 : (I7 12 6) = (I 12 6) := (by rw [fI7 12 6 (by decide)]); have q1 : (I7 12 7) = (I 12 7) := (by rw [fI7 12 7 (by decide)]); show (I7 12 6).toInt ≤ 501 ∧ ((I7 12 7).toInt = 401 ∨ (I7 12 6).toInt ≤ 500); rw [q0, q1]; first | omega | decide)
    refine lv_aload_n hx hb dX9_atom_62 rfl (lv_at hl 0 rfl) ?_
    refine z_cv hW hS hA (va_runV (As := []) (rest := []) ⟨hx, hb, hml, hown, hts⟩ (sx_X9_step l G ad c I7 ⟨(by show 0 ≤ (I7 12 1).toInt ∧ (I7 12 1).toInt ≤ 500; exact hI7R.1), (by show 0 ≤ (I7 12 5).toInt ∧ (I7 12 5).toInt ≤ 501; exact hI7R.2.1), (by show (-1) ≤ (I7 12 6).toInt ∧ (I7 12 6).toInt ≤ 1000000; exact hI7R.2.2.1), (by show 0 ≤ (I7 12 9).toInt ∧ (I7 12 9).toInt ≤ 500; exact hI7R.2.2.2.1), (by show 0 ≤ (I7 12 13).toInt ∧ (I7 12 13).toInt ≤ 24; exact hI7R.2.2.2.2)⟩   (by show (I7 12 6).toInt ≤ 500; first | omega | decide) _) (cwV 0 hts gX9_atom_X9_step rfl rfl rfl (by decide +kernel) ⟨Nat.le_of_ble_eq_true rfl, Nat.le_of_ble_eq_true rfl⟩) (z_preV (i := 12) hK hW rfl rfl) rfl rfl hl.1 rfl (lv_room (Nat.le_of_ble_eq_true rfl)) dX9_atom_63 ⟨Nat.le_of_ble_eq_true rfl, Nat.le_of_ble_eq_true rfl⟩) (fun u1 H locs hp hW hS => ?_)
    obtain ⟨I10, e9, hI10R, hI10T, fI10⟩ := hp
    rw [e9] at hW
    have f11 := z_fr_sub (L := L_X9_atom_0) f8 fI10 (by decide)
    have k12 : (I10 12 6).toInt ≤ 501 ∧ ((I10 12 7).toInt = 401 ∨ (I10 12 6).toInt ≤ 500) := hI10T
    refine lv_iconst (v := 1) hx hb dX9_atom_66 (by decide) ?_
    exact z_zret hx hb hr (by decide) hK hS (Nat.le_of_ble_eq_true rfl) (Nat.le_of_ble_eq_true rfl) hlocks dX9_atom_67 (shC c, ad, I10, JX, PC c ad) hW ⟨I10, rfl, ⟨(by show 0 ≤ (I10 12 1).toInt ∧ (I10 12 1).toInt ≤ 500; exact hI10R.1), (by show 0 ≤ (I10 12 5).toInt ∧ (I10 12 5).toInt ≤ 501; exact hI10R.2.1), (by show (-1) ≤ (I10 12 6).toInt ∧ (I10 12 6).toInt ≤ 1000000; exact hI10R.2.2.1), (by show 0 ≤ (I10 12 9).toInt ∧ (I10 12 9).toInt ≤ 500; exact hI10R.2.2.2.1), (by show 0 ≤ (I10 12 13).toInt ∧ (I10 12 13).toInt ≤ 24; exact hI10R.2.2.2.2)⟩, (by show (I10 12 6).toInt ≤ 501 ∧ ((I10 12 7).toInt = 401 ∨ (I10 12 6).toInt ≤ 500); first | omega | decide), f11, Or.inl rfl⟩
  · have g13 := z_f_ne rfl z_l400 c1
    have b14 := Int32.toInt_lt (I 12 7)
    refine lv_aload_n hx hb dX9_atom_10 rfl (lv_at hl 0 rfl) ?_
    refine z_get (T := TX9) (N := 14) (ci := 9) (i := 12) (v := .int (I 12 7)) hx hb hts zj_X9_atom_X9 hown hK hW rfl rfl 7 (by decide) (hts (.fieldLink RX9 62 "PetrolBoard$Reader" "token" "I") (List.mem_of_getElem? (i := 1) rfl)) (fun _ h => h) rfl dX9_atom_11 ?_
    refine lv_sipush (v := 314) hx hb dX9_atom_14 (by decide) ?_
    refine lv_icmp_lt (tgt := 68) hx hb dX9_atom_17 (by decide) (fun c15 => ?_) (fun c15 => ?_)
    · have g16 := z_f_lt rfl z_l314 c15
      refine lv_aload_n hx hb dX9_atom_68 rfl (lv_at hl 0 rfl) ?_
      refine z_get (T := TX9) (N := 14) (ci := 9) (i := 12) (v := .int (I 12 7)) hx hb hts zj_X9_atom_X9 hown hK hW rfl rfl 7 (by decide) (hts (.fieldLink RX9 62 "PetrolBoard$Reader" "token" "I") (List.mem_of_getElem? (i := 1) rfl)) (fun _ h => h) rfl dX9_atom_69 ?_
      refine lv_istore_n (lv' := [(2, .int (I 12 7)), (0, .ref (ad 12)), (1, .int 0)]) hx hb dX9_atom_72 rfl hl (by decide) rfl (fun ls hl => ?_)
      refine lv_iload_n hx hb dX9_atom_73 rfl (lv_at hl 0 rfl) ?_
      refine lv_bipush (v := 40) hx hb dX9_atom_74 (by decide) ?_
      refine lv_icmp_eq (tgt := 93) hx hb dX9_atom_76 (by decide) (fun c17 => ?_) (fun c17 => ?_)
      · have g18 := z_f_eq rfl z_l40 c17
        refine lv_iload_n hx hb dX9_atom_93 rfl (lv_at hl 2 rfl) ?_
        refine lv_bipush (v := 9) hx hb dX9_atom_94 (by decide) ?_
        refine lv_icmp_lt (tgt := 101) hx hb dX9_atom_96 (by decide) (fun c19 => ?_) (fun c19 => absurd (by decide) c19)
        refine lv_aload_n hx hb dX9_atom_101 rfl (lv_at hl 1 rfl) ?_
        refine z_cv hW hS hA (va_runV (As := []) (rest := []) ⟨hx, hb, hml, hown, hts⟩ (sx_X9_step l G ad c I ⟨(by show 0 ≤ (I 12 1).toInt ∧ (I 12 1).toInt ≤ 500; exact hR.1), (by show 0 ≤ (I 12 5).toInt ∧ (I 12 5).toInt ≤ 501; exact hR.2.1), (by show (-1) ≤ (I 12 6).toInt ∧ (I 12 6).toInt ≤ 1000000; exact hR.2.2.1), (by show 0 ≤ (I 12 9).toInt ∧ (I 12 9).toInt ≤ 500; exact hR.2.2.2.1), (by show 0 ≤ (I 12 13).toInt ∧ (I 12 13).toInt ≤ 24; exact hR.2.2.2.2)⟩   (by show (I 12 6).toInt ≤ 500; first | omega | decide) _) (cwV 0 hts gX9_atom_X9_step rfl rfl rfl (by decide +kernel) ⟨Nat.le_of_ble_eq_true rfl, Nat.le_of_ble_eq_true rfl⟩) (z_preV (i := 12) hK hW rfl rfl) rfl rfl hl.1 rfl (lv_room (Nat.le_of_ble_eq_true rfl)) dX9_atom_102 ⟨Nat.le_of_ble_eq_true rfl, Nat.le_of_ble_eq_true rfl⟩) (fun u1 H locs hp hW hS => ?_)
        obtain ⟨I20, e9, hI20R, hI20T, fI20⟩ := hp
        rw [e9] at hW
        have f21 := z_fr_sub (L := L_X9_atom_0) z_fr_0 fI20 (by decide)
        have k22 : (I20 12 6).toInt ≤ 501 ∧ ((I20 12 7).toInt = 401 ∨ (I20 12 6).toInt ≤ 500) := hI20T
        refine lv_iload_n hx hb dX9_atom_105 rfl (lv_at hl 0 rfl) ?_
        refine lv_bipush (v := 40) hx hb dX9_atom_106 (by decide) ?_
        refine lv_icmp_ne (tgt := 136) hx hb dX9_atom_108 (by decide) (fun c23 => (by have g := z_f_ne rfl z_l40 c23; omega)) (fun c23 => ?_)
        have g24 := z_f_eq rfl z_l40 c23
        refine lv_aload_n hx hb dX9_atom_111 rfl (lv_at hl 1 rfl) ?_
        refine lv_iload_n hx hb dX9_atom_112 rfl (lv_at hl 2 rfl) ?_
        refine lv_iconst (v := 1) hx hb dX9_atom_113 (by decide) ?_
        refine lv_iadd hx hb dX9_atom_114 ?_
        refine z_topi (v := 1) (by decide) ?_
        refine z_ci hW hS hA (va_runV (As := [.int 1]) (rest := []) ⟨hx, hb, hml, hown, hts⟩ (sx_X9_sum_1 l G ad c I20 ⟨(by show 0 ≤ (I20 12 1).toInt ∧ (I20 12 1).toInt ≤ 500; exact hI20R.1), (by show 0 ≤ (I20 12 5).toInt ∧ (I20 12 5).toInt ≤ 501; exact hI20R.2.1), (by show (-1) ≤ (I20 12 6).toInt ∧ (I20 12 6).toInt ≤ 1000000; exact hI20R.2.2.1), (by show 0 ≤ (I20 12 9).toInt ∧ (I20 12 9).toInt ≤ 500; exact hI20R.2.2.2.1), (by show 0 ≤ (I20 12 13).toInt ∧ (I20 12 13).toInt ≤ 24; exact hI20R.2.2.2.2)⟩ (by show (I20 12 6).toInt ≤ 501 ∧ ((I20 12 7).toInt = 401 ∨ (I20 12 6).toInt ≤ 500); first | omega | decide) _) (cwV 1 hts gX9_atom_X9_sum rfl rfl rfl (by decide +kernel) ⟨Nat.le_of_ble_eq_true rfl, Nat.le_of_ble_eq_true rfl⟩) (z_preV (i := 12) hK hW rfl rfl) rfl rfl hl.1 rfl (lv_room (Nat.le_of_ble_eq_true rfl)) dX9_atom_115 ⟨Nat.le_of_ble_eq_true rfl, Nat.le_of_ble_eq_true rfl⟩) (fun r u1 H locs hp hW hS => ?_)
        obtain ⟨I25, e9, hI25R, hI25T, fI25, hp⟩ := hp
        rw [e9] at hW
        have f26 := z_fr_sub (L := L_X9_atom_0) f21 fI25 (by decide)
        have k27 : (I25 12 6).toInt ≤ 501 ∧ ((I25 12 7).toInt = 401 ∨ (I25 12 6).toInt ≤ 500) := hI25T
        rcases hp with rfl | rfl
        · refine lv_if_eq (tgt := 134) hx hb dX9_atom_118 (by decide) (fun c28 => absurd c28 (by decide)) (fun c28 => ?_)
          refine lv_aload_n hx hb dX9_atom_121 rfl (lv_at hl 1 rfl) ?_
          refine lv_bipush (v := 41) hx hb dX9_atom_122 (by decide) ?_
          refine z_ci hW hS hA (va_runV (As := [.int 41]) (rest := []) ⟨hx, hb, hml, hown, hts⟩ (sx_X9_taken l G ad c I25 ⟨(by show 0 ≤ (I25 12 1).toInt ∧ (I25 12 1).toInt ≤ 500; exact hI25R.1), (by show 0 ≤ (I25 12 5).toInt ∧ (I25 12 5).toInt ≤ 501; exact hI25R.2.1), (by show (-1) ≤ (I25 12 6).toInt ∧ (I25 12 6).toInt ≤ 1000000; exact hI25R.2.2.1), (by show 0 ≤ (I25 12 9).toInt ∧ (I25 12 9).toInt ≤ 500; exact hI25R.2.2.2.1), (by show 0 ≤ (I25 12 13).toInt ∧ (I25 12 13).toInt ≤ 24; exact hI25R.2.2.2.2)⟩ (by show (I25 12 6).toInt ≤ 501 ∧ ((I25 12 7).toInt = 401 ∨ (I25 12 6).toInt ≤ 500); first | omega | decide) 41 (by first | omega | decide) _) (cwV 1 hts gX9_atom_X9_taken rfl rfl rfl (by decide +kernel) ⟨Nat.le_of_ble_eq_true rfl, Nat.le_of_ble_eq_true rfl⟩) (z_preV (i := 12) hK hW rfl rfl) rfl rfl hl.1 rfl (lv_room (Nat.le_of_ble_eq_true rfl)) dX9_atom_124 ⟨Nat.le_of_ble_eq_true rfl, Nat.le_of_ble_eq_true rfl⟩) (fun r u1 H locs hp hW hS => ?_)
          obtain ⟨I29, e9, hI29R, hI29T, fI29, hp⟩ := hp
          rw [e9] at hW
          have f30 := z_fr_sub (L := L_X9_atom_0) f26 fI29 (by decide)
          have k31 : (I29 12 6).toInt ≤ 501 ∧ ((I29 12 7).toInt = 401 ∨ (I29 12 6).toInt ≤ 500) := hI29T
          rcases hp with rfl | rfl
          · refine lv_if_eq (tgt := 134) hx hb dX9_atom_127 (by decide) (fun c32 => absurd c32 (by decide)) (fun c32 => ?_)
            refine lv_iconst (v := 1) hx hb dX9_atom_130 (by decide) ?_
            refine lv_goto (tgt := 135) hx hb dX9_atom_131 (by decide) ?_
            exact z_zret hx hb hr (by decide) hK hS (Nat.le_of_ble_eq_true rfl) (Nat.le_of_ble_eq_true rfl) hlocks dX9_atom_135 (shC c, ad, I29, JX, PC c ad) hW ⟨I29, rfl, ⟨(by show 0 ≤ (I29 12 1).toInt ∧ (I29 12 1).toInt ≤ 500; exact hI29R.1), (by show 0 ≤ (I29 12 5).toInt ∧ (I29 12 5).toInt ≤ 501; exact hI29R.2.1), (by show (-1) ≤ (I29 12 6).toInt ∧ (I29 12 6).toInt ≤ 1000000; exact hI29R.2.2.1), (by show 0 ≤ (I29 12 9).toInt ∧ (I29 12 9).toInt ≤ 500; exact hI29R.2.2.2.1), (by show 0 ≤ (I29 12 13).toInt ∧ (I29 12 13).toInt ≤ 24; exact hI29R.2.2.2.2)⟩, (by show (I29 12 6).toInt ≤ 501 ∧ ((I29 12 7).toInt = 401 ∨ (I29 12 6).toInt ≤ 500); first | omega | decide), f30, Or.inl rfl⟩
          · refine lv_if_eq (tgt := 134) hx hb dX9_atom_127 (by decide) (fun c33 => ?_) (fun c33 => absurd (by decide) c33)
            refine lv_iconst (v := 0) hx hb dX9_atom_134 (by decide) ?_
            exact z_zret hx hb hr (by decide) hK hS (Nat.le_of_ble_eq_true rfl) (Nat.le_of_ble_eq_true rfl) hlocks dX9_atom_135 (shC c, ad, I29, JX, PC c ad) hW ⟨I29, rfl, ⟨(by show 0 ≤ (I29 12 1).toInt ∧ (I29 12 1).toInt ≤ 500; exact hI29R.1), (by show 0 ≤ (I29 12 5).toInt ∧ (I29 12 5).toInt ≤ 501; exact hI29R.2.1), (by show (-1) ≤ (I29 12 6).toInt ∧ (I29 12 6).toInt ≤ 1000000; exact hI29R.2.2.1), (by show 0 ≤ (I29 12 9).toInt ∧ (I29 12 9).toInt ≤ 500; exact hI29R.2.2.2.1), (by show 0 ≤ (I29 12 13).toInt ∧ (I29 12 13).toInt ≤ 24; exact hI29R.2.2.2.2)⟩, (by show (I29 12 6).toInt ≤ 501 ∧ ((I29 12 7).toInt = 401 ∨ (I29 12 6).toInt ≤ 500); first | omega | decide), f30, Or.inr rfl⟩
        · refine lv_if_eq (tgt := 134) hx hb dX9_atom_118 (by decide) (fun c34 => ?_) (fun c34 => absurd (by decide) c34)
          refine lv_iconst (v := 0) hx hb dX9_atom_134 (by decide) ?_
          exact z_zret hx hb hr (by decide) hK hS (Nat.le_of_ble_eq_true rfl) (Nat.le_of_ble_eq_true rfl) hlocks dX9_atom_135 (shC c, ad, I25, JX, PC c ad) hW ⟨I25, rfl, ⟨(by show 0 ≤ (I25 12 1).toInt ∧ (I25 12 1).toInt ≤ 500; exact hI25R.1), (by show 0 ≤ (I25 12 5).toInt ∧ (I25 12 5).toInt ≤ 501; exact hI25R.2.1), (by show (-1) ≤ (I25 12 6).toInt ∧ (I25 12 6).toInt ≤ 1000000; exact hI25R.2.2.1), (by show 0 ≤ (I25 12 9).toInt ∧ (I25 12 9).toInt ≤ 500; exact hI25R.2.2.2.1), (by show 0 ≤ (I25 12 13).toInt ∧ (I25 12 13).toInt ≤ 24; exact hI25R.2.2.2.2)⟩, (by show (I25 12 6).toInt ≤ 501 ∧ ((I25 12 7).toInt = 401 ∨ (I25 12 6).toInt ≤ 500); first | omega | decide), f26, Or.inr rfl⟩
      · have g35 := z_f_ne rfl z_l40 c17
        refine lv_iload_n hx hb dX9_atom_79 rfl (lv_at hl 0 rfl) ?_
        refine lv_sipush (v := 312) hx hb dX9_atom_80 (by decide) ?_
        refine lv_icmp_eq (tgt := 93) hx hb dX9_atom_83 (by decide) (fun c36 => ?_) (fun c36 => ?_)
        · have g37 := z_f_eq rfl z_l312 c36
          refine lv_iload_n hx hb dX9_atom_93 rfl (lv_at hl 2 rfl) ?_
          refine lv_bipush (v := 9) hx hb dX9_atom_94 (by decide) ?_
          refine lv_icmp_lt (tgt := 101) hx hb dX9_atom_96 (by decide) (fun c38 => ?_) (fun c38 => absurd (by decide) c38)
          refine lv_aload_n hx hb dX9_atom_101 rfl (lv_at hl 1 rfl) ?_
          refine z_cv hW hS hA (va_runV (As := []) (rest := []) ⟨hx, hb, hml, hown, hts⟩ (sx_X9_step l G ad c I ⟨(by show 0 ≤ (I 12 1).toInt ∧ (I 12 1).toInt ≤ 500; exact hR.1), (by show 0 ≤ (I 12 5).toInt ∧ (I 12 5).toInt ≤ 501; exact hR.2.1), (by show (-1) ≤ (I 12 6).toInt ∧ (I 12 6).toInt ≤ 1000000; exact hR.2.2.1), (by show 0 ≤ (I 12 9).toInt ∧ (I 12 9).toInt ≤ 500; exact hR.2.2.2.1), (by show 0 ≤ (I 12 13).toInt ∧ (I 12 13).toInt ≤ 24; exact hR.2.2.2.2)⟩   (by show (I 12 6).toInt ≤ 500; first | omega | decide) _) (cwV 0 hts gX9_atom_X9_step rfl rfl rfl (by decide +kernel) ⟨Nat.le_of_ble_eq_true rfl, Nat.le_of_ble_eq_true rfl⟩) (z_preV (i := 12) hK hW rfl rfl) rfl rfl hl.1 rfl (lv_room (Nat.le_of_ble_eq_true rfl)) dX9_atom_102 ⟨Nat.le_of_ble_eq_true rfl, Nat.le_of_ble_eq_true rfl⟩) (fun u1 H locs hp hW hS => ?_)
          obtain ⟨I39, e9, hI39R, hI39T, fI39⟩ := hp
          rw [e9] at hW
          have f40 := z_fr_sub (L := L_X9_atom_0) z_fr_0 fI39 (by decide)
          have k41 : (I39 12 6).toInt ≤ 501 ∧ ((I39 12 7).toInt = 401 ∨ (I39 12 6).toInt ≤ 500) := hI39T
          refine lv_iload_n hx hb dX9_atom_105 rfl (lv_at hl 0 rfl) ?_
          refine lv_bipush (v := 40) hx hb dX9_atom_106 (by decide) ?_
          refine lv_icmp_ne (tgt := 136) hx hb dX9_atom_108 (by decide) (fun c42 => ?_) (fun c42 => (by have g := z_f_eq rfl z_l40 c42; omega))
          have g43 := z_f_ne rfl z_l40 c42
          refine lv_aload_n hx hb dX9_atom_136 rfl (lv_at hl 1 rfl) ?_
          refine lv_bipush (v := 40) hx hb dX9_atom_137 (by decide) ?_
          refine z_ci hW hS hA (va_runV (As := [.int 40]) (rest := []) ⟨hx, hb, hml, hown, hts⟩ (sx_X9_taken l G ad c I39 ⟨(by show 0 ≤ (I39 12 1).toInt ∧ (I39 12 1).toInt ≤ 500; exact hI39R.1), (by show 0 ≤ (I39 12 5).toInt ∧ (I39 12 5).toInt ≤ 501; exact hI39R.2.1), (by show (-1) ≤ (I39 12 6).toInt ∧ (I39 12 6).toInt ≤ 1000000; exact hI39R.2.2.1), (by show 0 ≤ (I39 12 9).toInt ∧ (I39 12 9).toInt ≤ 500; exact hI39R.2.2.2.1), (by show 0 ≤ (I39 12 13).toInt ∧ (I39 12 13).toInt ≤ 24; exact hI39R.2.2.2.2)⟩ (by show (I39 12 6).toInt ≤ 501 ∧ ((I39 12 7).toInt = 401 ∨ (I39 12 6).toInt ≤ 500); first | omega | decide) 40 (by first | omega | decide) _) (cwV 1 hts gX9_atom_X9_taken rfl rfl rfl (by decide +kernel) ⟨Nat.le_of_ble_eq_true rfl, Nat.le_of_ble_eq_true rfl⟩) (z_preV (i := 12) hK hW rfl rfl) rfl rfl hl.1 rfl (lv_room (Nat.le_of_ble_eq_true rfl)) dX9_atom_139 ⟨Nat.le_of_ble_eq_true rfl, Nat.le_of_ble_eq_true rfl⟩) (fun r u1 H locs hp hW hS => ?_)
          obtain ⟨I44, e9, hI44R, hI44T, fI44, hp⟩ := hp
          rw [e9] at hW
          have f45 := z_fr_sub (L := L_X9_atom_0) f40 fI44 (by decide)
          have k46 : (I44 12 6).toInt ≤ 501 ∧ ((I44 12 7).toInt = 401 ∨ (I44 12 6).toInt ≤ 500) := hI44T
          rcases hp with rfl | rfl
          · refine lv_if_eq (tgt := 183) hx hb dX9_atom_142 (by decide) (fun c47 => absurd c47 (by decide)) (fun c47 => ?_)
            refine lv_aload_n hx hb dX9_atom_145 rfl (lv_at hl 1 rfl) ?_
            refine lv_iload_n hx hb dX9_atom_146 rfl (lv_at hl 2 rfl) ?_
            refine lv_iconst (v := 1) hx hb dX9_atom_147 (by decide) ?_
            refine lv_iadd hx hb dX9_atom_148 ?_
            refine z_topi (v := 1) (by decide) ?_
            refine z_ci hW hS hA (va_runV (As := [.int 1]) (rest := []) ⟨hx, hb, hml, hown, hts⟩ (sx_X9_sum_1 l G ad c I44 ⟨(by show 0 ≤ (I44 12 1).toInt ∧ (I44 12 1).toInt ≤ 500; exact hI44R.1), (by show 0 ≤ (I44 12 5).toInt ∧ (I44 12 5).toInt ≤ 501; exact hI44R.2.1), (by show (-1) ≤ (I44 12 6).toInt ∧ (I44 12 6).toInt ≤ 1000000; exact hI44R.2.2.1), (by show 0 ≤ (I44 12 9).toInt ∧ (I44 12 9).toInt ≤ 500; exact hI44R.2.2.2.1), (by show 0 ≤ (I44 12 13).toInt ∧ (I44 12 13).toInt ≤ 24; exact hI44R.2.2.2.2)⟩ (by show (I44 12 6).toInt ≤ 501 ∧ ((I44 12 7).toInt = 401 ∨ (I44 12 6).toInt ≤ 500); first | omega | decide) _) (cwV 1 hts gX9_atom_X9_sum rfl rfl rfl (by decide +kernel) ⟨Nat.le_of_ble_eq_true rfl, Nat.le_of_ble_eq_true rfl⟩) (z_preV (i := 12) hK hW rfl rfl) rfl rfl hl.1 rfl (lv_room (Nat.le_of_ble_eq_true rfl)) dX9_atom_149 ⟨Nat.le_of_ble_eq_true rfl, Nat.le_of_ble_eq_true rfl⟩) (fun r u1 H locs hp hW hS => ?_)
            obtain ⟨I48, e9, hI48R, hI48T, fI48, hp⟩ := hp
            rw [e9] at hW
            have f49 := z_fr_sub (L := L_X9_atom_0) f45 fI48 (by decide)
            have k50 : (I48 12 6).toInt ≤ 501 ∧ ((I48 12 7).toInt = 401 ∨ (I48 12 6).toInt ≤ 500) := hI48T
            rcases hp with rfl | rfl
            · refine lv_if_eq (tgt := 183) hx hb dX9_atom_152 (by decide) (fun c51 => absurd c51 (by decide)) (fun c51 => ?_)
              refine lv_aload_n hx hb dX9_atom_155 rfl (lv_at hl 1 rfl) ?_
              refine lv_bipush (v := 44) hx hb dX9_atom_156 (by decide) ?_
              refine z_ci hW hS hA (va_runV (As := [.int 44]) (rest := []) ⟨hx, hb, hml, hown, hts⟩ (sx_X9_taken l G ad c I48 ⟨(by show 0 ≤ (I48 12 1).toInt ∧ (I48 12 1).toInt ≤ 500; exact hI48R.1), (by show 0 ≤ (I48 12 5).toInt ∧ (I48 12 5).toInt ≤ 501; exact hI48R.2.1), (by show (-1) ≤ (I48 12 6).toInt ∧ (I48 12 6).toInt ≤ 1000000; exact hI48R.2.2.1), (by show 0 ≤ (I48 12 9).toInt ∧ (I48 12 9).toInt ≤ 500; exact hI48R.2.2.2.1), (by show 0 ≤ (I48 12 13).toInt ∧ (I48 12 13).toInt ≤ 24; exact hI48R.2.2.2.2)⟩ (by show (I48 12 6).toInt ≤ 501 ∧ ((I48 12 7).toInt = 401 ∨ (I48 12 6).toInt ≤ 500); first | omega | decide) 44 (by first | omega | decide) _) (cwV 1 hts gX9_atom_X9_taken rfl rfl rfl (by decide +kernel) ⟨Nat.le_of_ble_eq_true rfl, Nat.le_of_ble_eq_true rfl⟩) (z_preV (i := 12) hK hW rfl rfl) rfl rfl hl.1 rfl (lv_room (Nat.le_of_ble_eq_true rfl)) dX9_atom_158 ⟨Nat.le_of_ble_eq_true rfl, Nat.le_of_ble_eq_true rfl⟩) (fun r u1 H locs hp hW hS => ?_)
              obtain ⟨I52, e9, hI52R, hI52T, fI52, hp⟩ := hp
              rw [e9] at hW
              have f53 := z_fr_sub (L := L_X9_atom_0) f49 fI52 (by decide)
              have k54 : (I52 12 6).toInt ≤ 501 ∧ ((I52 12 7).toInt = 401 ∨ (I52 12 6).toInt ≤ 500) := hI52T
              rcases hp with rfl | rfl
              · refine lv_if_eq (tgt := 183) hx hb dX9_atom_161 (by decide) (fun c55 => absurd c55 (by decide)) (fun c55 => ?_)
                refine lv_aload_n hx hb dX9_atom_164 rfl (lv_at hl 1 rfl) ?_
                refine lv_iload_n hx hb dX9_atom_165 rfl (lv_at hl 2 rfl) ?_
                refine lv_iconst (v := 1) hx hb dX9_atom_166 (by decide) ?_
                refine lv_iadd hx hb dX9_atom_167 ?_
                refine z_topi (v := 1) (by decide) ?_
                refine z_ci hW hS hA (va_runV (As := [.int 1]) (rest := []) ⟨hx, hb, hml, hown, hts⟩ (sx_X9_sum_1 l G ad c I52 ⟨(by show 0 ≤ (I52 12 1).toInt ∧ (I52 12 1).toInt ≤ 500; exact hI52R.1), (by show 0 ≤ (I52 12 5).toInt ∧ (I52 12 5).toInt ≤ 501; exact hI52R.2.1), (by show (-1) ≤ (I52 12 6).toInt ∧ (I52 12 6).toInt ≤ 1000000; exact hI52R.2.2.1), (by show 0 ≤ (I52 12 9).toInt ∧ (I52 12 9).toInt ≤ 500; exact hI52R.2.2.2.1), (by show 0 ≤ (I52 12 13).toInt ∧ (I52 12 13).toInt ≤ 24; exact hI52R.2.2.2.2)⟩ (by show (I52 12 6).toInt ≤ 501 ∧ ((I52 12 7).toInt = 401 ∨ (I52 12 6).toInt ≤ 500); first | omega | decide) _) (cwV 1 hts gX9_atom_X9_sum rfl rfl rfl (by decide +kernel) ⟨Nat.le_of_ble_eq_true rfl, Nat.le_of_ble_eq_true rfl⟩) (z_preV (i := 12) hK hW rfl rfl) rfl rfl hl.1 rfl (lv_room (Nat.le_of_ble_eq_true rfl)) dX9_atom_168 ⟨Nat.le_of_ble_eq_true rfl, Nat.le_of_ble_eq_true rfl⟩) (fun r u1 H locs hp hW hS => ?_)
                obtain ⟨I56, e9, hI56R, hI56T, fI56, hp⟩ := hp
                rw [e9] at hW
                have f57 := z_fr_sub (L := L_X9_atom_0) f53 fI56 (by decide)
                have k58 : (I56 12 6).toInt ≤ 501 ∧ ((I56 12 7).toInt = 401 ∨ (I56 12 6).toInt ≤ 500) := hI56T
                rcases hp with rfl | rfl
                · refine lv_if_eq (tgt := 183) hx hb dX9_atom_171 (by decide) (fun c59 => absurd c59 (by decide)) (fun c59 => ?_)
                  refine lv_aload_n hx hb dX9_atom_174 rfl (lv_at hl 1 rfl) ?_
                  refine lv_bipush (v := 41) hx hb dX9_atom_175 (by decide) ?_
                  refine z_ci hW hS hA (va_runV (As := [.int 41]) (rest := []) ⟨hx, hb, hml, hown, hts⟩ (sx_X9_taken l G ad c I56 ⟨(by show 0 ≤ (I56 12 1).toInt ∧ (I56 12 1).toInt ≤ 500; exact hI56R.1), (by show 0 ≤ (I56 12 5).toInt ∧ (I56 12 5).toInt ≤ 501; exact hI56R.2.1), (by show (-1) ≤ (I56 12 6).toInt ∧ (I56 12 6).toInt ≤ 1000000; exact hI56R.2.2.1), (by show 0 ≤ (I56 12 9).toInt ∧ (I56 12 9).toInt ≤ 500; exact hI56R.2.2.2.1), (by show 0 ≤ (I56 12 13).toInt ∧ (I56 12 13).toInt ≤ 24; exact hI56R.2.2.2.2)⟩ (by show (I56 12 6).toInt ≤ 501 ∧ ((I56 12 7).toInt = 401 ∨ (I56 12 6).toInt ≤ 500); first | omega | decide) 41 (by first | omega | decide) _) (cwV 1 hts gX9_atom_X9_taken rfl rfl rfl (by decide +kernel) ⟨Nat.le_of_ble_eq_true rfl, Nat.le_of_ble_eq_true rfl⟩) (z_preV (i := 12) hK hW rfl rfl) rfl rfl hl.1 rfl (lv_room (Nat.le_of_ble_eq_true rfl)) dX9_atom_177 ⟨Nat.le_of_ble_eq_true rfl, Nat.le_of_ble_eq_true rfl⟩) (fun r u1 H locs hp hW hS => ?_)
                  obtain ⟨I60, e9, hI60R, hI60T, fI60, hp⟩ := hp
                  rw [e9] at hW
                  have f61 := z_fr_sub (L := L_X9_atom_0) f57 fI60 (by decide)
                  have k62 : (I60 12 6).toInt ≤ 501 ∧ ((I60 12 7).toInt = 401 ∨ (I60 12 6).toInt ≤ 500) := hI60T
                  rcases hp with rfl | rfl
                  · refine lv_if_ne (tgt := 185) hx hb dX9_atom_180 (by decide) (fun c63 => ?_) (fun c63 => absurd c63 (by decide))
                    refine lv_aload_n hx hb dX9_atom_185 rfl (lv_at hl 1 rfl) ?_
                    refine lv_iload_n hx hb dX9_atom_186 rfl (lv_at hl 0 rfl) ?_
                    refine lv_sipush (v := 312) hx hb dX9_atom_187 (by decide) ?_
                    refine lv_icmp_ne (tgt := 198) hx hb dX9_atom_190 (by decide) (fun c64 => (by have g := z_f_ne rfl z_l312 c64; omega)) (fun c64 => ?_)
                    have g65 := z_f_eq rfl z_l312 c64
                    refine lv_bipush (v := (-5)) hx hb dX9_atom_193 (by decide) ?_
                    refine lv_goto (tgt := 200) hx hb dX9_atom_195 (by decide) ?_
                    refine z_cv hW hS hA (va_runV (As := [.int (-5)]) (rest := []) ⟨hx, hb, hml, hown, hts⟩ (sx_X9_emit l G ad c I60 ⟨(by show 0 ≤ (I60 12 1).toInt ∧ (I60 12 1).toInt ≤ 500; exact hI60R.1), (by show 0 ≤ (I60 12 5).toInt ∧ (I60 12 5).toInt ≤ 501; exact hI60R.2.1), (by show (-1) ≤ (I60 12 6).toInt ∧ (I60 12 6).toInt ≤ 1000000; exact hI60R.2.2.1), (by show 0 ≤ (I60 12 9).toInt ∧ (I60 12 9).toInt ≤ 500; exact hI60R.2.2.2.1), (by show 0 ≤ (I60 12 13).toInt ∧ (I60 12 13).toInt ≤ 24; exact hI60R.2.2.2.2)⟩ (-5) _) (cwV 1 hts gX9_atom_X9_emit rfl rfl rfl (by decide +kernel) ⟨Nat.le_of_ble_eq_true rfl, Nat.le_of_ble_eq_true rfl⟩) (z_preV (i := 12) hK hW rfl rfl) rfl rfl hl.1 rfl (lv_room (Nat.le_of_ble_eq_true rfl)) dX9_atom_200 ⟨Nat.le_of_ble_eq_true rfl, Nat.le_of_ble_eq_true rfl⟩) (fun u1 H locs hp hW hS => ?_)
                    obtain ⟨I66, e9, hI66R, fI66⟩ := hp
                    rw [e9] at hW
                    have f67 := z_fr_sub (L := L_X9_atom_0) f61 fI66 (by decide)
                    have k68 : (I66 12 6).toInt ≤ 501 ∧ ((I66 12 7).toInt = 401 ∨ (I66 12 6).toInt ≤ 500) := (by have q0 : (I66 12 6) = (I60 12 6) := (by rw [fI66 12 6 (by decide)]); have q1 : (I66 12 7) = (I60 12 7) := (by rw [fI66 12 7 (by decide)]); show (I66 12 6).toInt ≤ 501 ∧ ((I66 12 7).toInt = 401 ∨ (I66 12 6).toInt ≤ 500); rw [q0, q1]; first | omega | decide)
                    refine lv_iconst (v := 1) hx hb dX9_atom_203 (by decide) ?_
                    exact z_zret hx hb hr (by decide) hK hS (Nat.le_of_ble_eq_true rfl) (Nat.le_of_ble_eq_true rfl) hlocks dX9_atom_204 (shC c, ad, I66, JX, PC c ad) hW ⟨I66, rfl, ⟨(by show 0 ≤ (I66 12 1).toInt ∧ (I66 12 1).toInt ≤ 500; exact hI66R.1), (by show 0 ≤ (I66 12 5).toInt ∧ (I66 12 5).toInt ≤ 501; exact hI66R.2.1), (by show (-1) ≤ (I66 12 6).toInt ∧ (I66 12 6).toInt ≤ 1000000; exact hI66R.2.2.1), (by show 0 ≤ (I66 12 9).toInt ∧ (I66 12 9).toInt ≤ 500; exact hI66R.2.2.2.1), (by show 0 ≤ (I66 12 13).toInt ∧ (I66 12 13).toInt ≤ 24; exact hI66R.2.2.2.2)⟩, (by show (I66 12 6).toInt ≤ 501 ∧ ((I66 12 7).toInt = 401 ∨ (I66 12 6).toInt ≤ 500); first | omega | decide), f67, Or.inl rfl⟩
                  · refine lv_if_ne (tgt := 185) hx hb dX9_atom_180 (by decide) (fun c69 => absurd (by decide) c69) (fun c69 => ?_)
                    refine lv_iconst (v := 0) hx hb dX9_atom_183 (by decide) ?_
                    exact z_zret hx hb hr (by decide) hK hS (Nat.le_of_ble_eq_true rfl) (Nat.le_of_ble_eq_true rfl) hlocks dX9_atom_184 (shC c, ad, I60, JX, PC c ad) hW ⟨I60, rfl, ⟨(by show 0 ≤ (I60 12 1).toInt ∧ (I60 12 1).toInt ≤ 500; exact hI60R.1), (by show 0 ≤ (I60 12 5).toInt ∧ (I60 12 5).toInt ≤ 501; exact hI60R.2.1), (by show (-1) ≤ (I60 12 6).toInt ∧ (I60 12 6).toInt ≤ 1000000; exact hI60R.2.2.1), (by show 0 ≤ (I60 12 9).toInt ∧ (I60 12 9).toInt ≤ 500; exact hI60R.2.2.2.1), (by show 0 ≤ (I60 12 13).toInt ∧ (I60 12 13).toInt ≤ 24; exact hI60R.2.2.2.2)⟩, (by show (I60 12 6).toInt ≤ 501 ∧ ((I60 12 7).toInt = 401 ∨ (I60 12 6).toInt ≤ 500); first | omega | decide), f61, Or.inr rfl⟩
                · refine lv_if_eq (tgt := 183) hx hb dX9_atom_171 (by decide) (fun c70 => ?_) (fun c70 => absurd (by decide) c70)
                  refine lv_iconst (v := 0) hx hb dX9_atom_183 (by decide) ?_
                  exact z_zret hx hb hr (by decide) hK hS (Nat.le_of_ble_eq_true rfl) (Nat.le_of_ble_eq_true rfl) hlocks dX9_atom_184 (shC c, ad, I56, JX, PC c ad) hW ⟨I56, rfl, ⟨(by show 0 ≤ (I56 12 1).toInt ∧ (I56 12 1).toInt ≤ 500; exact hI56R.1), (by show 0 ≤ (I56 12 5).toInt ∧ (I56 12 5).toInt ≤ 501; exact hI56R.2.1), (by show (-1) ≤ (I56 12 6).toInt ∧ (I56 12 6).toInt ≤ 1000000; exact hI56R.2.2.1), (by show 0 ≤ (I56 12 9).toInt ∧ (I56 12 9).toInt ≤ 500; exact hI56R.2.2.2.1), (by show 0 ≤ (I56 12 13).toInt ∧ (I56 12 13).toInt ≤ 24; exact hI56R.2.2.2.2)⟩, (by show (I56 12 6).toInt ≤ 501 ∧ ((I56 12 7).toInt = 401 ∨ (I56 12 6).toInt ≤ 500); first | omega | decide), f57, Or.inr rfl⟩
              · refine lv_if_eq (tgt := 183) hx hb dX9_atom_161 (by decide) (fun c71 => ?_) (fun c71 => absurd (by decide) c71)
                refine lv_iconst (v := 0) hx hb dX9_atom_183 (by decide) ?_
                exact z_zret hx hb hr (by decide) hK hS (Nat.le_of_ble_eq_true rfl) (Nat.le_of_ble_eq_true rfl) hlocks dX9_atom_184 (shC c, ad, I52, JX, PC c ad) hW ⟨I52, rfl, ⟨(by show 0 ≤ (I52 12 1).toInt ∧ (I52 12 1).toInt ≤ 500; exact hI52R.1), (by show 0 ≤ (I52 12 5).toInt ∧ (I52 12 5).toInt ≤ 501; exact hI52R.2.1), (by show (-1) ≤ (I52 12 6).toInt ∧ (I52 12 6).toInt ≤ 1000000; exact hI52R.2.2.1), (by show 0 ≤ (I52 12 9).toInt ∧ (I52 12 9).toInt ≤ 500; exact hI52R.2.2.2.1), (by show 0 ≤ (I52 12 13).toInt ∧ (I52 12 13).toInt ≤ 24; exact hI52R.2.2.2.2)⟩, (by show (I52 12 6).toInt ≤ 501 ∧ ((I52 12 7).toInt = 401 ∨ (I52 12 6).toInt ≤ 500); first | omega | decide), f53, Or.inr rfl⟩
            · refine lv_if_eq (tgt := 183) hx hb dX9_atom_152 (by decide) (fun c72 => ?_) (fun c72 => absurd (by decide) c72)
              refine lv_iconst (v := 0) hx hb dX9_atom_183 (by decide) ?_
              exact z_zret hx hb hr (by decide) hK hS (Nat.le_of_ble_eq_true rfl) (Nat.le_of_ble_eq_true rfl) hlocks dX9_atom_184 (shC c, ad, I48, JX, PC c ad) hW ⟨I48, rfl, ⟨(by show 0 ≤ (I48 12 1).toInt ∧ (I48 12 1).toInt ≤ 500; exact hI48R.1), (by show 0 ≤ (I48 12 5).toInt ∧ (I48 12 5).toInt ≤ 501; exact hI48R.2.1), (by show (-1) ≤ (I48 12 6).toInt ∧ (I48 12 6).toInt ≤ 1000000; exact hI48R.2.2.1), (by show 0 ≤ (I48 12 9).toInt ∧ (I48 12 9).toInt ≤ 500; exact hI48R.2.2.2.1), (by show 0 ≤ (I48 12 13).toInt ∧ (I48 12 13).toInt ≤ 24; exact hI48R.2.2.2.2)⟩, (by show (I48 12 6).toInt ≤ 501 ∧ ((I48 12 7).toInt = 401 ∨ (I48 12 6).toInt ≤ 500); first | omega | decide), f49, Or.inr rfl⟩
          · refine lv_if_eq (tgt := 183) hx hb dX9_atom_142 (by decide) (fun c73 => ?_) (fun c73 => absurd (by decide) c73)
            refine lv_iconst (v := 0) hx hb dX9_atom_183 (by decide) ?_
            exact z_zret hx hb hr (by decide) hK hS (Nat.le_of_ble_eq_true rfl) (Nat.le_of_ble_eq_true rfl) hlocks dX9_atom_184 (shC c, ad, I44, JX, PC c ad) hW ⟨I44, rfl, ⟨(by show 0 ≤ (I44 12 1).toInt ∧ (I44 12 1).toInt ≤ 500; exact hI44R.1), (by show 0 ≤ (I44 12 5).toInt ∧ (I44 12 5).toInt ≤ 501; exact hI44R.2.1), (by show (-1) ≤ (I44 12 6).toInt ∧ (I44 12 6).toInt ≤ 1000000; exact hI44R.2.2.1), (by show 0 ≤ (I44 12 9).toInt ∧ (I44 12 9).toInt ≤ 500; exact hI44R.2.2.2.1), (by show 0 ≤ (I44 12 13).toInt ∧ (I44 12 13).toInt ≤ 24; exact hI44R.2.2.2.2)⟩, (by show (I44 12 6).toInt ≤ 501 ∧ ((I44 12 7).toInt = 401 ∨ (I44 12 6).toInt ≤ 500); first | omega | decide), f45, Or.inr rfl⟩
        · have g74 := z_f_ne rfl z_l312 c36
          refine lv_iload_n hx hb dX9_atom_86 rfl (lv_at hl 0 rfl) ?_
          refine lv_sipush (v := 313) hx hb dX9_atom_87 (by decide) ?_
          refine lv_icmp_ne (tgt := 99) hx hb dX9_atom_90 (by decide) (fun c75 => ?_) (fun c75 => ?_)
          · have g76 := z_f_ne rfl z_l313 c75
            refine lv_iconst (v := 0) hx hb dX9_atom_99 (by decide) ?_
            exact z_zret hx hb hr (by decide) hK hS (Nat.le_of_ble_eq_true rfl) (Nat.le_of_ble_eq_true rfl) hlocks dX9_atom_100 (shC c, ad, I, JX, PC c ad) hW ⟨I, rfl, ⟨(by show 0 ≤ (I 12 1).toInt ∧ (I 12 1).toInt ≤ 500; exact hR.1), (by show 0 ≤ (I 12 5).toInt ∧ (I 12 5).toInt ≤ 501; exact hR.2.1), (by show (-1) ≤ (I 12 6).toInt ∧ (I 12 6).toInt ≤ 1000000; exact hR.2.2.1), (by show 0 ≤ (I 12 9).toInt ∧ (I 12 9).toInt ≤ 500; exact hR.2.2.2.1), (by show 0 ≤ (I 12 13).toInt ∧ (I 12 13).toInt ≤ 24; exact hR.2.2.2.2)⟩, (by show (I 12 6).toInt ≤ 501 ∧ ((I 12 7).toInt = 401 ∨ (I 12 6).toInt ≤ 500); first | omega | decide), z_fr_0, Or.inr rfl⟩
          · have g77 := z_f_eq rfl z_l313 c75
            refine lv_iload_n hx hb dX9_atom_93 rfl (lv_at hl 2 rfl) ?_
            refine lv_bipush (v := 9) hx hb dX9_atom_94 (by decide) ?_
            refine lv_icmp_lt (tgt := 101) hx hb dX9_atom_96 (by decide) (fun c78 => ?_) (fun c78 => absurd (by decide) c78)
            refine lv_aload_n hx hb dX9_atom_101 rfl (lv_at hl 1 rfl) ?_
            refine z_cv hW hS hA (va_runV (As := []) (rest := []) ⟨hx, hb, hml, hown, hts⟩ (sx_X9_step l G ad c I ⟨(by show 0 ≤ (I 12 1).toInt ∧ (I 12 1).toInt ≤ 500; exact hR.1), (by show 0 ≤ (I 12 5).toInt ∧ (I 12 5).toInt ≤ 501; exact hR.2.1), (by show (-1) ≤ (I 12 6).toInt ∧ (I 12 6).toInt ≤ 1000000; exact hR.2.2.1), (by show 0 ≤ (I 12 9).toInt ∧ (I 12 9).toInt ≤ 500; exact hR.2.2.2.1), (by show 0 ≤ (I 12 13).toInt ∧ (I 12 13).toInt ≤ 24; exact hR.2.2.2.2)⟩   (by show (I 12 6).toInt ≤ 500; first | omega | decide) _) (cwV 0 hts gX9_atom_X9_step rfl rfl rfl (by decide +kernel) ⟨Nat.le_of_ble_eq_true rfl, Nat.le_of_ble_eq_true rfl⟩) (z_preV (i := 12) hK hW rfl rfl) rfl rfl hl.1 rfl (lv_room (Nat.le_of_ble_eq_true rfl)) dX9_atom_102 ⟨Nat.le_of_ble_eq_true rfl, Nat.le_of_ble_eq_true rfl⟩) (fun u1 H locs hp hW hS => ?_)
            obtain ⟨I79, e9, hI79R, hI79T, fI79⟩ := hp
            rw [e9] at hW
            have f80 := z_fr_sub (L := L_X9_atom_0) z_fr_0 fI79 (by decide)
            have k81 : (I79 12 6).toInt ≤ 501 ∧ ((I79 12 7).toInt = 401 ∨ (I79 12 6).toInt ≤ 500) := hI79T
            refine lv_iload_n hx hb dX9_atom_105 rfl (lv_at hl 0 rfl) ?_
            refine lv_bipush (v := 40) hx hb dX9_atom_106 (by decide) ?_
            refine lv_icmp_ne (tgt := 136) hx hb dX9_atom_108 (by decide) (fun c82 => ?_) (fun c82 => (by have g := z_f_eq rfl z_l40 c82; omega))
            have g83 := z_f_ne rfl z_l40 c82
            refine lv_aload_n hx hb dX9_atom_136 rfl (lv_at hl 1 rfl) ?_
            refine lv_bipush (v := 40) hx hb dX9_atom_137 (by decide) ?_
            refine z_ci hW hS hA (va_runV (As := [.int 40]) (rest := []) ⟨hx, hb, hml, hown, hts⟩ (sx_X9_taken l G ad c I79 ⟨(by show 0 ≤ (I79 12 1).toInt ∧ (I79 12 1).toInt ≤ 500; exact hI79R.1), (by show 0 ≤ (I79 12 5).toInt ∧ (I79 12 5).toInt ≤ 501; exact hI79R.2.1), (by show (-1) ≤ (I79 12 6).toInt ∧ (I79 12 6).toInt ≤ 1000000; exact hI79R.2.2.1), (by show 0 ≤ (I79 12 9).toInt ∧ (I79 12 9).toInt ≤ 500; exact hI79R.2.2.2.1), (by show 0 ≤ (I79 12 13).toInt ∧ (I79 12 13).toInt ≤ 24; exact hI79R.2.2.2.2)⟩ (by show (I79 12 6).toInt ≤ 501 ∧ ((I79 12 7).toInt = 401 ∨ (I79 12 6).toInt ≤ 500); first | omega | decide) 40 (by first | omega | decide) _) (cwV 1 hts gX9_atom_X9_taken rfl rfl rfl (by decide +kernel) ⟨Nat.le_of_ble_eq_true rfl, Nat.le_of_ble_eq_true rfl⟩) (z_preV (i := 12) hK hW rfl rfl) rfl rfl hl.1 rfl (lv_room (Nat.le_of_ble_eq_true rfl)) dX9_atom_139 ⟨Nat.le_of_ble_eq_true rfl, Nat.le_of_ble_eq_true rfl⟩) (fun r u1 H locs hp hW hS => ?_)
            obtain ⟨I84, e9, hI84R, hI84T, fI84, hp⟩ := hp
            rw [e9] at hW
            have f85 := z_fr_sub (L := L_X9_atom_0) f80 fI84 (by decide)
            have k86 : (I84 12 6).toInt ≤ 501 ∧ ((I84 12 7).toInt = 401 ∨ (I84 12 6).toInt ≤ 500) := hI84T
            rcases hp with rfl | rfl
            · refine lv_if_eq (tgt := 183) hx hb dX9_atom_142 (by decide) (fun c87 => absurd c87 (by decide)) (fun c87 => ?_)
              refine lv_aload_n hx hb dX9_atom_145 rfl (lv_at hl 1 rfl) ?_
              refine lv_iload_n hx hb dX9_atom_146 rfl (lv_at hl 2 rfl) ?_
              refine lv_iconst (v := 1) hx hb dX9_atom_147 (by decide) ?_
              refine lv_iadd hx hb dX9_atom_148 ?_
              refine z_topi (v := 1) (by decide) ?_
              refine z_ci hW hS hA (va_runV (As := [.int 1]) (rest := []) ⟨hx, hb, hml, hown, hts⟩ (sx_X9_sum_1 l G ad c I84 ⟨(by show 0 ≤ (I84 12 1).toInt ∧ (I84 12 1).toInt ≤ 500; exact hI84R.1), (by show 0 ≤ (I84 12 5).toInt ∧ (I84 12 5).toInt ≤ 501; exact hI84R.2.1), (by show (-1) ≤ (I84 12 6).toInt ∧ (I84 12 6).toInt ≤ 1000000; exact hI84R.2.2.1), (by show 0 ≤ (I84 12 9).toInt ∧ (I84 12 9).toInt ≤ 500; exact hI84R.2.2.2.1), (by show 0 ≤ (I84 12 13).toInt ∧ (I84 12 13).toInt ≤ 24; exact hI84R.2.2.2.2)⟩ (by show (I84 12 6).toInt ≤ 501 ∧ ((I84 12 7).toInt = 401 ∨ (I84 12 6).toInt ≤ 500); first | omega | decide) _) (cwV 1 hts gX9_atom_X9_sum rfl rfl rfl (by decide +kernel) ⟨Nat.le_of_ble_eq_true rfl, Nat.le_of_ble_eq_true rfl⟩) (z_preV (i := 12) hK hW rfl rfl) rfl rfl hl.1 rfl (lv_room (Nat.le_of_ble_eq_true rfl)) dX9_atom_149 ⟨Nat.le_of_ble_eq_true rfl, Nat.le_of_ble_eq_true rfl⟩) (fun r u1 H locs hp hW hS => ?_)
              obtain ⟨I88, e9, hI88R, hI88T, fI88, hp⟩ := hp
              rw [e9] at hW
              have f89 := z_fr_sub (L := L_X9_atom_0) f85 fI88 (by decide)
              have k90 : (I88 12 6).toInt ≤ 501 ∧ ((I88 12 7).toInt = 401 ∨ (I88 12 6).toInt ≤ 500) := hI88T
              rcases hp with rfl | rfl
              · refine lv_if_eq (tgt := 183) hx hb dX9_atom_152 (by decide) (fun c91 => absurd c91 (by decide)) (fun c91 => ?_)
                refine lv_aload_n hx hb dX9_atom_155 rfl (lv_at hl 1 rfl) ?_
                refine lv_bipush (v := 44) hx hb dX9_atom_156 (by decide) ?_
                refine z_ci hW hS hA (va_runV (As := [.int 44]) (rest := []) ⟨hx, hb, hml, hown, hts⟩ (sx_X9_taken l G ad c I88 ⟨(by show 0 ≤ (I88 12 1).toInt ∧ (I88 12 1).toInt ≤ 500; exact hI88R.1), (by show 0 ≤ (I88 12 5).toInt ∧ (I88 12 5).toInt ≤ 501; exact hI88R.2.1), (by show (-1) ≤ (I88 12 6).toInt ∧ (I88 12 6).toInt ≤ 1000000; exact hI88R.2.2.1), (by show 0 ≤ (I88 12 9).toInt ∧ (I88 12 9).toInt ≤ 500; exact hI88R.2.2.2.1), (by show 0 ≤ (I88 12 13).toInt ∧ (I88 12 13).toInt ≤ 24; exact hI88R.2.2.2.2)⟩ (by show (I88 12 6).toInt ≤ 501 ∧ ((I88 12 7).toInt = 401 ∨ (I88 12 6).toInt ≤ 500); first | omega | decide) 44 (by first | omega | decide) _) (cwV 1 hts gX9_atom_X9_taken rfl rfl rfl (by decide +kernel) ⟨Nat.le_of_ble_eq_true rfl, Nat.le_of_ble_eq_true rfl⟩) (z_preV (i := 12) hK hW rfl rfl) rfl rfl hl.1 rfl (lv_room (Nat.le_of_ble_eq_true rfl)) dX9_atom_158 ⟨Nat.le_of_ble_eq_true rfl, Nat.le_of_ble_eq_true rfl⟩) (fun r u1 H locs hp hW hS => ?_)
                obtain ⟨I92, e9, hI92R, hI92T, fI92, hp⟩ := hp
                rw [e9] at hW
                have f93 := z_fr_sub (L := L_X9_atom_0) f89 fI92 (by decide)
                have k94 : (I92 12 6).toInt ≤ 501 ∧ ((I92 12 7).toInt = 401 ∨ (I92 12 6).toInt ≤ 500) := hI92T
                rcases hp with rfl | rfl
                · refine lv_if_eq (tgt := 183) hx hb dX9_atom_161 (by decide) (fun c95 => absurd c95 (by decide)) (fun c95 => ?_)
                  refine lv_aload_n hx hb dX9_atom_164 rfl (lv_at hl 1 rfl) ?_
                  refine lv_iload_n hx hb dX9_atom_165 rfl (lv_at hl 2 rfl) ?_
                  refine lv_iconst (v := 1) hx hb dX9_atom_166 (by decide) ?_
                  refine lv_iadd hx hb dX9_atom_167 ?_
                  refine z_topi (v := 1) (by decide) ?_
                  refine z_ci hW hS hA (va_runV (As := [.int 1]) (rest := []) ⟨hx, hb, hml, hown, hts⟩ (sx_X9_sum_1 l G ad c I92 ⟨(by show 0 ≤ (I92 12 1).toInt ∧ (I92 12 1).toInt ≤ 500; exact hI92R.1), (by show 0 ≤ (I92 12 5).toInt ∧ (I92 12 5).toInt ≤ 501; exact hI92R.2.1), (by show (-1) ≤ (I92 12 6).toInt ∧ (I92 12 6).toInt ≤ 1000000; exact hI92R.2.2.1), (by show 0 ≤ (I92 12 9).toInt ∧ (I92 12 9).toInt ≤ 500; exact hI92R.2.2.2.1), (by show 0 ≤ (I92 12 13).toInt ∧ (I92 12 13).toInt ≤ 24; exact hI92R.2.2.2.2)⟩ (by show (I92 12 6).toInt ≤ 501 ∧ ((I92 12 7).toInt = 401 ∨ (I92 12 6).toInt ≤ 500); first | omega | decide) _) (cwV 1 hts gX9_atom_X9_sum rfl rfl rfl (by decide +kernel) ⟨Nat.le_of_ble_eq_true rfl, Nat.le_of_ble_eq_true rfl⟩) (z_preV (i := 12) hK hW rfl rfl) rfl rfl hl.1 rfl (lv_room (Nat.le_of_ble_eq_true rfl)) dX9_atom_168 ⟨Nat.le_of_ble_eq_true rfl, Nat.le_of_ble_eq_true rfl⟩) (fun r u1 H locs hp hW hS => ?_)
                  obtain ⟨I96, e9, hI96R, hI96T, fI96, hp⟩ := hp
                  rw [e9] at hW
                  have f97 := z_fr_sub (L := L_X9_atom_0) f93 fI96 (by decide)
                  have k98 : (I96 12 6).toInt ≤ 501 ∧ ((I96 12 7).toInt = 401 ∨ (I96 12 6).toInt ≤ 500) := hI96T
                  rcases hp with rfl | rfl
                  · refine lv_if_eq (tgt := 183) hx hb dX9_atom_171 (by decide) (fun c99 => absurd c99 (by decide)) (fun c99 => ?_)
                    refine lv_aload_n hx hb dX9_atom_174 rfl (lv_at hl 1 rfl) ?_
                    refine lv_bipush (v := 41) hx hb dX9_atom_175 (by decide) ?_
                    refine z_ci hW hS hA (va_runV (As := [.int 41]) (rest := []) ⟨hx, hb, hml, hown, hts⟩ (sx_X9_taken l G ad c I96 ⟨(by show 0 ≤ (I96 12 1).toInt ∧ (I96 12 1).toInt ≤ 500; exact hI96R.1), (by show 0 ≤ (I96 12 5).toInt ∧ (I96 12 5).toInt ≤ 501; exact hI96R.2.1), (by show (-1) ≤ (I96 12 6).toInt ∧ (I96 12 6).toInt ≤ 1000000; exact hI96R.2.2.1), (by show 0 ≤ (I96 12 9).toInt ∧ (I96 12 9).toInt ≤ 500; exact hI96R.2.2.2.1), (by show 0 ≤ (I96 12 13).toInt ∧ (I96 12 13).toInt ≤ 24; exact hI96R.2.2.2.2)⟩ (by show (I96 12 6).toInt ≤ 501 ∧ ((I96 12 7).toInt = 401 ∨ (I96 12 6).toInt ≤ 500); first | omega | decide) 41 (by first | omega | decide) _) (cwV 1 hts gX9_atom_X9_taken rfl rfl rfl (by decide +kernel) ⟨Nat.le_of_ble_eq_true rfl, Nat.le_of_ble_eq_true rfl⟩) (z_preV (i := 12) hK hW rfl rfl) rfl rfl hl.1 rfl (lv_room (Nat.le_of_ble_eq_true rfl)) dX9_atom_177 ⟨Nat.le_of_ble_eq_true rfl, Nat.le_of_ble_eq_true rfl⟩) (fun r u1 H locs hp hW hS => ?_)
                    obtain ⟨I100, e9, hI100R, hI100T, fI100, hp⟩ := hp
                    rw [e9] at hW
                    have f101 := z_fr_sub (L := L_X9_atom_0) f97 fI100 (by decide)
                    have k102 : (I100 12 6).toInt ≤ 501 ∧ ((I100 12 7).toInt = 401 ∨ (I100 12 6).toInt ≤ 500) := hI100T
                    rcases hp with rfl | rfl
                    · refine lv_if_ne (tgt := 185) hx hb dX9_atom_180 (by decide) (fun c103 => ?_) (fun c103 => absurd c103 (by decide))
                      refine lv_aload_n hx hb dX9_atom_185 rfl (lv_at hl 1 rfl) ?_
                      refine lv_iload_n hx hb dX9_atom_186 rfl (lv_at hl 0 rfl) ?_
                      refine lv_sipush (v := 312) hx hb dX9_atom_187 (by decide) ?_
                      refine lv_icmp_ne (tgt := 198) hx hb dX9_atom_190 (by decide) (fun c104 => ?_) (fun c104 => (by have g := z_f_eq rfl z_l312 c104; omega))
                      have g105 := z_f_ne rfl z_l312 c104
                      refine lv_bipush (v := (-6)) hx hb dX9_atom_198 (by decide) ?_
                      refine z_cv hW hS hA (va_runV (As := [.int (-6)]) (rest := []) ⟨hx, hb, hml, hown, hts⟩ (sx_X9_emit l G ad c I100 ⟨(by show 0 ≤ (I100 12 1).toInt ∧ (I100 12 1).toInt ≤ 500; exact hI100R.1), (by show 0 ≤ (I100 12 5).toInt ∧ (I100 12 5).toInt ≤ 501; exact hI100R.2.1), (by show (-1) ≤ (I100 12 6).toInt ∧ (I100 12 6).toInt ≤ 1000000; exact hI100R.2.2.1), (by show 0 ≤ (I100 12 9).toInt ∧ (I100 12 9).toInt ≤ 500; exact hI100R.2.2.2.1), (by show 0 ≤ (I100 12 13).toInt ∧ (I100 12 13).toInt ≤ 24; exact hI100R.2.2.2.2)⟩ (-6) _) (cwV 1 hts gX9_atom_X9_emit rfl rfl rfl (by decide +kernel) ⟨Nat.le_of_ble_eq_true rfl, Nat.le_of_ble_eq_true rfl⟩) (z_preV (i := 12) hK hW rfl rfl) rfl rfl hl.1 rfl (lv_room (Nat.le_of_ble_eq_true rfl)) dX9_atom_200 ⟨Nat.le_of_ble_eq_true rfl, Nat.le_of_ble_eq_true rfl⟩) (fun u1 H locs hp hW hS => ?_)
                      obtain ⟨I106, e9, hI106R, fI106⟩ := hp
                      rw [e9] at hW
                      have f107 := z_fr_sub (L := L_X9_atom_0) f101 fI106 (by decide)
                      have k108 : (I106 12 6).toInt ≤ 501 ∧ ((I106 12 7).toInt = 401 ∨ (I106 12 6).toInt ≤ 500) := (by have q0 : (I106 12 6) = (I100 12 6) := (by rw [fI106 12 6 (by decide)]); have q1 : (I106 12 7) = (I100 12 7) := (by rw [fI106 12 7 (by decide)]); show (I106 12 6).toInt ≤ 501 ∧ ((I106 12 7).toInt = 401 ∨ (I106 12 6).toInt ≤ 500); rw [q0, q1]; first | omega | decide)
                      refine lv_iconst (v := 1) hx hb dX9_atom_203 (by decide) ?_
                      exact z_zret hx hb hr (by decide) hK hS (Nat.le_of_ble_eq_true rfl) (Nat.le_of_ble_eq_true rfl) hlocks dX9_atom_204 (shC c, ad, I106, JX, PC c ad) hW ⟨I106, rfl, ⟨(by show 0 ≤ (I106 12 1).toInt ∧ (I106 12 1).toInt ≤ 500; exact hI106R.1), (by show 0 ≤ (I106 12 5).toInt ∧ (I106 12 5).toInt ≤ 501; exact hI106R.2.1), (by show (-1) ≤ (I106 12 6).toInt ∧ (I106 12 6).toInt ≤ 1000000; exact hI106R.2.2.1), (by show 0 ≤ (I106 12 9).toInt ∧ (I106 12 9).toInt ≤ 500; exact hI106R.2.2.2.1), (by show 0 ≤ (I106 12 13).toInt ∧ (I106 12 13).toInt ≤ 24; exact hI106R.2.2.2.2)⟩, (by show (I106 12 6).toInt ≤ 501 ∧ ((I106 12 7).toInt = 401 ∨ (I106 12 6).toInt ≤ 500); first | omega | decide), f107, Or.inl rfl⟩
                    · refine lv_if_ne (tgt := 185) hx hb dX9_atom_180 (by decide) (fun c109 => absurd (by decide) c109) (fun c109 => ?_)
                      refine lv_iconst (v := 0) hx hb dX9_atom_183 (by decide) ?_
                      exact z_zret hx hb hr (by decide) hK hS (Nat.le_of_ble_eq_true rfl) (Nat.le_of_ble_eq_true rfl) hlocks dX9_atom_184 (shC c, ad, I100, JX, PC c ad) hW ⟨I100, rfl, ⟨(by show 0 ≤ (I100 12 1).toInt ∧ (I100 12 1).toInt ≤ 500; exact hI100R.1), (by show 0 ≤ (I100 12 5).toInt ∧ (I100 12 5).toInt ≤ 501; exact hI100R.2.1), (by show (-1) ≤ (I100 12 6).toInt ∧ (I100 12 6).toInt ≤ 1000000; exact hI100R.2.2.1), (by show 0 ≤ (I100 12 9).toInt ∧ (I100 12 9).toInt ≤ 500; exact hI100R.2.2.2.1), (by show 0 ≤ (I100 12 13).toInt ∧ (I100 12 13).toInt ≤ 24; exact hI100R.2.2.2.2)⟩, (by show (I100 12 6).toInt ≤ 501 ∧ ((I100 12 7).toInt = 401 ∨ (I100 12 6).toInt ≤ 500); first | omega | decide), f101, Or.inr rfl⟩
                  · refine lv_if_eq (tgt := 183) hx hb dX9_atom_171 (by decide) (fun c110 => ?_) (fun c110 => absurd (by decide) c110)
                    refine lv_iconst (v := 0) hx hb dX9_atom_183 (by decide) ?_
                    exact z_zret hx hb hr (by decide) hK hS (Nat.le_of_ble_eq_true rfl) (Nat.le_of_ble_eq_true rfl) hlocks dX9_atom_184 (shC c, ad, I96, JX, PC c ad) hW ⟨I96, rfl, ⟨(by show 0 ≤ (I96 12 1).toInt ∧ (I96 12 1).toInt ≤ 500; exact hI96R.1), (by show 0 ≤ (I96 12 5).toInt ∧ (I96 12 5).toInt ≤ 501; exact hI96R.2.1), (by show (-1) ≤ (I96 12 6).toInt ∧ (I96 12 6).toInt ≤ 1000000; exact hI96R.2.2.1), (by show 0 ≤ (I96 12 9).toInt ∧ (I96 12 9).toInt ≤ 500; exact hI96R.2.2.2.1), (by show 0 ≤ (I96 12 13).toInt ∧ (I96 12 13).toInt ≤ 24; exact hI96R.2.2.2.2)⟩, (by show (I96 12 6).toInt ≤ 501 ∧ ((I96 12 7).toInt = 401 ∨ (I96 12 6).toInt ≤ 500); first | omega | decide), f97, Or.inr rfl⟩
                · refine lv_if_eq (tgt := 183) hx hb dX9_atom_161 (by decide) (fun c111 => ?_) (fun c111 => absurd (by decide) c111)
                  refine lv_iconst (v := 0) hx hb dX9_atom_183 (by decide) ?_
                  exact z_zret hx hb hr (by decide) hK hS (Nat.le_of_ble_eq_true rfl) (Nat.le_of_ble_eq_true rfl) hlocks dX9_atom_184 (shC c, ad, I92, JX, PC c ad) hW ⟨I92, rfl, ⟨(by show 0 ≤ (I92 12 1).toInt ∧ (I92 12 1).toInt ≤ 500; exact hI92R.1), (by show 0 ≤ (I92 12 5).toInt ∧ (I92 12 5).toInt ≤ 501; exact hI92R.2.1), (by show (-1) ≤ (I92 12 6).toInt ∧ (I92 12 6).toInt ≤ 1000000; exact hI92R.2.2.1), (by show 0 ≤ (I92 12 9).toInt ∧ (I92 12 9).toInt ≤ 500; exact hI92R.2.2.2.1), (by show 0 ≤ (I92 12 13).toInt ∧ (I92 12 13).toInt ≤ 24; exact hI92R.2.2.2.2)⟩, (by show (I92 12 6).toInt ≤ 501 ∧ ((I92 12 7).toInt = 401 ∨ (I92 12 6).toInt ≤ 500); first | omega | decide), f93, Or.inr rfl⟩
              · refine lv_if_eq (tgt := 183) hx hb dX9_atom_152 (by decide) (fun c112 => ?_) (fun c112 => absurd (by decide) c112)
                refine lv_iconst (v := 0) hx hb dX9_atom_183 (by decide) ?_
                exact z_zret hx hb hr (by decide) hK hS (Nat.le_of_ble_eq_true rfl) (Nat.le_of_ble_eq_true rfl) hlocks dX9_atom_184 (shC c, ad, I88, JX, PC c ad) hW ⟨I88, rfl, ⟨(by show 0 ≤ (I88 12 1).toInt ∧ (I88 12 1).toInt ≤ 500; exact hI88R.1), (by show 0 ≤ (I88 12 5).toInt ∧ (I88 12 5).toInt ≤ 501; exact hI88R.2.1), (by show (-1) ≤ (I88 12 6).toInt ∧ (I88 12 6).toInt ≤ 1000000; exact hI88R.2.2.1), (by show 0 ≤ (I88 12 9).toInt ∧ (I88 12 9).toInt ≤ 500; exact hI88R.2.2.2.1), (by show 0 ≤ (I88 12 13).toInt ∧ (I88 12 13).toInt ≤ 24; exact hI88R.2.2.2.2)⟩, (by show (I88 12 6).toInt ≤ 501 ∧ ((I88 12 7).toInt = 401 ∨ (I88 12 6).toInt ≤ 500); first | omega | decide), f89, Or.inr rfl⟩
            · refine lv_if_eq (tgt := 183) hx hb dX9_atom_142 (by decide) (fun c113 => ?_) (fun c113 => absurd (by decide) c113)
              refine lv_iconst (v := 0) hx hb dX9_atom_183 (by decide) ?_
              exact z_zret hx hb hr (by decide) hK hS (Nat.le_of_ble_eq_true rfl) (Nat.le_of_ble_eq_true rfl) hlocks dX9_atom_184 (shC c, ad, I84, JX, PC c ad) hW ⟨I84, rfl, ⟨(by show 0 ≤ (I84 12 1).toInt ∧ (I84 12 1).toInt ≤ 500; exact hI84R.1), (by show 0 ≤ (I84 12 5).toInt ∧ (I84 12 5).toInt ≤ 501; exact hI84R.2.1), (by show (-1) ≤ (I84 12 6).toInt ∧ (I84 12 6).toInt ≤ 1000000; exact hI84R.2.2.1), (by show 0 ≤ (I84 12 9).toInt ∧ (I84 12 9).toInt ≤ 500; exact hI84R.2.2.2.1), (by show 0 ≤ (I84 12 13).toInt ∧ (I84 12 13).toInt ≤ 24; exact hI84R.2.2.2.2)⟩, (by show (I84 12 6).toInt ≤ 501 ∧ ((I84 12 7).toInt = 401 ∨ (I84 12 6).toInt ≤ 500); first | omega | decide), f85, Or.inr rfl⟩
    · have g114 := z_f_nlt rfl z_l314 c15
      refine lv_aload_n hx hb dX9_atom_20 rfl (lv_at hl 0 rfl) ?_
      refine z_get (T := TX9) (N := 14) (ci := 9) (i := 12) (v := .int (I 12 7)) hx hb hts zj_X9_atom_X9 hown hK hW rfl rfl 7 (by decide) (hts (.fieldLink RX9 62 "PetrolBoard$Reader" "token" "I") (List.mem_of_getElem? (i := 1) rfl)) (fun _ h => h) rfl dX9_atom_21 ?_
      refine lv_sipush (v := 320) hx hb dX9_atom_24 (by decide) ?_
      refine lv_icmp_gt (tgt := 68) hx hb dX9_atom_27 (by decide) (fun c115 => ?_) (fun c115 => ?_)
      · have g116 := z_f_gt rfl z_l320 c115
        refine lv_aload_n hx hb dX9_atom_68 rfl (lv_at hl 0 rfl) ?_
        refine z_get (T := TX9) (N := 14) (ci := 9) (i := 12) (v := .int (I 12 7)) hx hb hts zj_X9_atom_X9 hown hK hW rfl rfl 7 (by decide) (hts (.fieldLink RX9 62 "PetrolBoard$Reader" "token" "I") (List.mem_of_getElem? (i := 1) rfl)) (fun _ h => h) rfl dX9_atom_69 ?_
        refine lv_istore_n (lv' := [(2, .int (I 12 7)), (0, .ref (ad 12)), (1, .int 0)]) hx hb dX9_atom_72 rfl hl (by decide) rfl (fun ls hl => ?_)
        refine lv_iload_n hx hb dX9_atom_73 rfl (lv_at hl 0 rfl) ?_
        refine lv_bipush (v := 40) hx hb dX9_atom_74 (by decide) ?_
        refine lv_icmp_eq (tgt := 93) hx hb dX9_atom_76 (by decide) (fun c117 => (by have g := z_f_eq rfl z_l40 c117; omega)) (fun c117 => ?_)
        have g118 := z_f_ne rfl z_l40 c117
        refine lv_iload_n hx hb dX9_atom_79 rfl (lv_at hl 0 rfl) ?_
        refine lv_sipush (v := 312) hx hb dX9_atom_80 (by decide) ?_
        refine lv_icmp_eq (tgt := 93) hx hb dX9_atom_83 (by decide) (fun c119 => (by have g := z_f_eq rfl z_l312 c119; omega)) (fun c119 => ?_)
        have g120 := z_f_ne rfl z_l312 c119
        refine lv_iload_n hx hb dX9_atom_86 rfl (lv_at hl 0 rfl) ?_
        refine lv_sipush (v := 313) hx hb dX9_atom_87 (by decide) ?_
        refine lv_icmp_ne (tgt := 99) hx hb dX9_atom_90 (by decide) (fun c121 => ?_) (fun c121 => (by have g := z_f_eq rfl z_l313 c121; omega))
        have g122 := z_f_ne rfl z_l313 c121
        refine lv_iconst (v := 0) hx hb dX9_atom_99 (by decide) ?_
        exact z_zret hx hb hr (by decide) hK hS (Nat.le_of_ble_eq_true rfl) (Nat.le_of_ble_eq_true rfl) hlocks dX9_atom_100 (shC c, ad, I, JX, PC c ad) hW ⟨I, rfl, ⟨(by show 0 ≤ (I 12 1).toInt ∧ (I 12 1).toInt ≤ 500; exact hR.1), (by show 0 ≤ (I 12 5).toInt ∧ (I 12 5).toInt ≤ 501; exact hR.2.1), (by show (-1) ≤ (I 12 6).toInt ∧ (I 12 6).toInt ≤ 1000000; exact hR.2.2.1), (by show 0 ≤ (I 12 9).toInt ∧ (I 12 9).toInt ≤ 500; exact hR.2.2.2.1), (by show 0 ≤ (I 12 13).toInt ∧ (I 12 13).toInt ≤ 24; exact hR.2.2.2.2)⟩, (by show (I 12 6).toInt ≤ 501 ∧ ((I 12 7).toInt = 401 ∨ (I 12 6).toInt ≤ 500); first | omega | decide), z_fr_0, Or.inr rfl⟩
      · have g123 := z_f_ngt rfl z_l320 c115
        refine lv_aload_n hx hb dX9_atom_30 rfl (lv_at hl 0 rfl) ?_
        refine lv_aload_n hx hb dX9_atom_31 rfl (lv_at hl 0 rfl) ?_
        refine z_get (T := TX9) (N := 14) (ci := 9) (i := 12) (v := .int (I 12 7)) hx hb hts zj_X9_atom_X9 hown hK hW rfl rfl 7 (by decide) (hts (.fieldLink RX9 62 "PetrolBoard$Reader" "token" "I") (List.mem_of_getElem? (i := 1) rfl)) (fun _ h => h) rfl dX9_atom_32 ?_
        refine lv_sipush (v := 400) hx hb dX9_atom_35 (by decide) ?_
        refine lv_icmp_ne (tgt := 48) hx hb dX9_atom_38 (by decide) (fun c124 => ?_) (fun c124 => (by have g := z_f_eq rfl z_l400 c124; omega))
        have g125 := z_f_ne rfl z_l400 c124
        refine lv_bipush (v := (-20)) hx hb dX9_atom_48 (by decide) ?_
        refine lv_aload_n hx hb dX9_atom_50 rfl (lv_at hl 0 rfl) ?_
        refine z_get (T := TX9) (N := 14) (ci := 9) (i := 12) (v := .int (I 12 7)) hx hb hts zj_X9_atom_X9 hown hK hW rfl rfl 7 (by decide) (hts (.fieldLink RX9 62 "PetrolBoard$Reader" "token" "I") (List.mem_of_getElem? (i := 1) rfl)) (fun _ h => h) rfl dX9_atom_51 ?_
        refine lv_sipush (v := 314) hx hb dX9_atom_54 (by decide) ?_
        refine lv_isub hx hb dX9_atom_57 ?_
        refine lv_topi (fun x126 ex126 => ?_)
        have tx126 : x126.toInt = (I 12 7).toInt - 314 := z_tsub ex126 rfl z_l314 (by omega) (by omega)
        refine lv_isub hx hb dX9_atom_58 ?_
        refine lv_topi (fun x127 ex127 => ?_)
        have tx127 : x127.toInt = (-20) - x126.toInt := z_tsub ex127 z_lm20 rfl (by omega) (by omega)
        refine z_cv hW hS hA (va_runV (As := [.int x127]) (rest := []) ⟨hx, hb, hml, hown, hts⟩ (sx_X9_emit l G ad c I ⟨(by show 0 ≤ (I 12 1).toInt ∧ (I 12 1).toInt ≤ 500; exact hR.1), (by show 0 ≤ (I 12 5).toInt ∧ (I 12 5).toInt ≤ 501; exact hR.2.1), (by show (-1) ≤ (I 12 6).toInt ∧ (I 12 6).toInt ≤ 1000000; exact hR.2.2.1), (by show 0 ≤ (I 12 9).toInt ∧ (I 12 9).toInt ≤ 500; exact hR.2.2.2.1), (by show 0 ≤ (I 12 13).toInt ∧ (I 12 13).toInt ≤ 24; exact hR.2.2.2.2)⟩ x127 _) (cwV 1 hts gX9_atom_X9_emit rfl rfl rfl (by decide +kernel) ⟨Nat.le_of_ble_eq_true rfl, Nat.le_of_ble_eq_true rfl⟩) (z_preV (i := 12) hK hW rfl rfl) rfl rfl hl.1 rfl (lv_room (Nat.le_of_ble_eq_true rfl)) dX9_atom_59 ⟨Nat.le_of_ble_eq_true rfl, Nat.le_of_ble_eq_true rfl⟩) (fun u1 H locs hp hW hS => ?_)
        obtain ⟨I128, e9, hI128R, fI128⟩ := hp
        rw [e9] at hW
        have f129 := z_fr_sub (L := L_X9_atom_0) z_fr_0 fI128 (by decide)
        have k130 : (I128 12 6).toInt ≤ 501 ∧ ((I128 12 7).toInt = 401 ∨ (I128 12 6).toInt ≤ 500) := (by have q0 : (I128 12 6) = (I 12 6) := (by rw [fI128 12 6 (by decide)]); have q1 : (I128 12 7) = (I 12 7) := (by rw [fI128 12 7 (by decide)]); show (I128 12 6).toInt ≤ 501 ∧ ((I128 12 7).toInt = 401 ∨ (I128 12 6).toInt ≤ 500); rw [q0, q1]; first | omega | decide)
        refine lv_aload_n hx hb dX9_atom_62 rfl (lv_at hl 0 rfl) ?_
        refine z_cv hW hS hA (va_runV (As := []) (rest := []) ⟨hx, hb, hml, hown, hts⟩ (sx_X9_step l G ad c I128 ⟨(by show 0 ≤ (I128 12 1).toInt ∧ (I128 12 1).toInt ≤ 500; exact hI128R.1), (by show 0 ≤ (I128 12 5).toInt ∧ (I128 12 5).toInt ≤ 501; exact hI128R.2.1), (by show (-1) ≤ (I128 12 6).toInt ∧ (I128 12 6).toInt ≤ 1000000; exact hI128R.2.2.1), (by show 0 ≤ (I128 12 9).toInt ∧ (I128 12 9).toInt ≤ 500; exact hI128R.2.2.2.1), (by show 0 ≤ (I128 12 13).toInt ∧ (I128 12 13).toInt ≤ 24; exact hI128R.2.2.2.2)⟩   (by show (I128 12 6).toInt ≤ 500; first | omega | decide) _) (cwV 0 hts gX9_atom_X9_step rfl rfl rfl (by decide +kernel) ⟨Nat.le_of_ble_eq_true rfl, Nat.le_of_ble_eq_true rfl⟩) (z_preV (i := 12) hK hW rfl rfl) rfl rfl hl.1 rfl (lv_room (Nat.le_of_ble_eq_true rfl)) dX9_atom_63 ⟨Nat.le_of_ble_eq_true rfl, Nat.le_of_ble_eq_true rfl⟩) (fun u1 H locs hp hW hS => ?_)
        obtain ⟨I131, e9, hI131R, hI131T, fI131⟩ := hp
        rw [e9] at hW
        have f132 := z_fr_sub (L := L_X9_atom_0) f129 fI131 (by decide)
        have k133 : (I131 12 6).toInt ≤ 501 ∧ ((I131 12 7).toInt = 401 ∨ (I131 12 6).toInt ≤ 500) := hI131T
        refine lv_iconst (v := 1) hx hb dX9_atom_66 (by decide) ?_
        exact z_zret hx hb hr (by decide) hK hS (Nat.le_of_ble_eq_true rfl) (Nat.le_of_ble_eq_true rfl) hlocks dX9_atom_67 (shC c, ad, I131, JX, PC c ad) hW ⟨I131, rfl, ⟨(by show 0 ≤ (I131 12 1).toInt ∧ (I131 12 1).toInt ≤ 500; exact hI131R.1), (by show 0 ≤ (I131 12 5).toInt ∧ (I131 12 5).toInt ≤ 501; exact hI131R.2.1), (by show (-1) ≤ (I131 12 6).toInt ∧ (I131 12 6).toInt ≤ 1000000; exact hI131R.2.2.1), (by show 0 ≤ (I131 12 9).toInt ∧ (I131 12 9).toInt ≤ 500; exact hI131R.2.2.2.1), (by show 0 ≤ (I131 12 13).toInt ∧ (I131 12 13).toInt ≤ 24; exact hI131R.2.2.2.2)⟩, (by show (I131 12 6).toInt ≤ 501 ∧ ((I131 12 7).toInt = 401 ∨ (I131 12 6).toInt ≤ 500); first | omega | decide), f132, Or.inl rfl⟩
def L_X9_product_0 : z_L := [(12, 6), (12, 7), (17, 999), (12, 9)]
set_option maxHeartbeats 8000000 in
set_option maxRecDepth 100000 in
theorem sx_X9_product_0 (l : Launch) (G : z_G) (ad : Nat → Nat) (c : z_C) (I : z_I) (hR : z_iR I) (hT : z_iT I) : z_M l yX9_product wsX9_product { frames := 31, cells := 0, slots := 0, locals := 687 } [.ref (ad 12), .int 0] G (shC c, ad, I, JX, PC c ad) (fun r u1 => ∃ I1 : z_I, u1 = (shC c, ad, I1, JX, PC c ad) ∧ z_iR I1 ∧ z_iT I1 ∧ z_fr L_X9_product_0 I1 I ∧ (r = 1 ∨ r = 0)) 0 0 := by
  intro sz
  refine z_headQ (cc := cX9_product) (maxL := 4) (ret := (some .boolean)) (by decide) rfl (Nat.le_of_ble_eq_true rfl) ?_
  intro p e s m below meth c0 ls hIn hK hsz hW hl
  obtain ⟨hx, hb, hr, hml, hown, hts, hlocks, hname⟩ := hIn
  subst hsz
  have hown : s.vm.findClass RX9 = some m.cls := hown
  have hA : ∀ q : Nat, s.heap.size ≤ q → z_A (shC c, ad, I, JX, PC c ad) s.heap.size q := fun q h => Or.inr h
  generalize hAe : z_A (shC c, ad, I, JX, PC c ad) s.heap.size = A at *
  have hS : va_S A s.heap s.heap [] := va_S.rf
  have hl : lv_has ls 4 [(0, .ref (ad 12)), (1, .int 0)] := hl
  have kT : (I 12 6).toInt ≤ 501 ∧ ((I 12 7).toInt = 401 ∨ (I 12 6).toInt ≤ 500) := hT
  refine lv_aload_n hx hb dX9_product_0 rfl (lv_at hl 0 rfl) ?_
  refine lv_iload_n hx hb dX9_product_1 rfl (lv_at hl 1 rfl) ?_
  refine z_ci hW hS hA (va_runV (As := [.int 0]) (rest := []) ⟨hx, hb, hml, hown, hts⟩ (sx_X9_atom_0 l G ad c I ⟨(by show 0 ≤ (I 12 1).toInt ∧ (I 12 1).toInt ≤ 500; exact hR.1), (by show 0 ≤ (I 12 5).toInt ∧ (I 12 5).toInt ≤ 501; exact hR.2.1), (by show (-1) ≤ (I 12 6).toInt ∧ (I 12 6).toInt ≤ 1000000; exact hR.2.2.1), (by show 0 ≤ (I 12 9).toInt ∧ (I 12 9).toInt ≤ 500; exact hR.2.2.2.1), (by show 0 ≤ (I 12 13).toInt ∧ (I 12 13).toInt ≤ 24; exact hR.2.2.2.2)⟩ (by show (I 12 6).toInt ≤ 501 ∧ ((I 12 7).toInt = 401 ∨ (I 12 6).toInt ≤ 500); first | omega | decide) _) (cwV 1 hts gX9_product_X9_atom rfl rfl rfl (by decide +kernel) ⟨Nat.le_of_ble_eq_true rfl, Nat.le_of_ble_eq_true rfl⟩) (z_preV (i := 12) hK hW rfl rfl) rfl rfl hl.1 rfl (lv_room (Nat.le_of_ble_eq_true rfl)) dX9_product_2 ⟨Nat.le_of_ble_eq_true rfl, Nat.le_of_ble_eq_true rfl⟩) (fun r u1 H locs hp hW hS => ?_)
  obtain ⟨I1, e9, hI1R, hI1T, fI1, hp⟩ := hp
  rw [e9] at hW
  have f2 := z_fr_sub (L := L_X9_product_0) z_fr_0 fI1 (by decide)
  have k3 : (I1 12 6).toInt ≤ 501 ∧ ((I1 12 7).toInt = 401 ∨ (I1 12 6).toInt ≤ 500) := hI1T
  rcases hp with rfl | rfl
  · refine lv_if_ne (tgt := 10) hx hb dX9_product_5 (by decide) (fun c4 => ?_) (fun c4 => absurd c4 (by decide))
    refine lv_iconst (v := 0) hx hb dX9_product_10 (by decide) ?_
    refine lv_istore_n (lv' := [(2, .int 0), (0, .ref (ad 12)), (1, .int 0)]) hx hb dX9_product_11 rfl hl (by decide) rfl (fun ls hl => ?_)
    have lp5 : ∀ (f : Nat) (y6 : Int32) (I7 : z_I) (H : Heap) (locs : List Loc) (ls : Array Slot), (2147483647 < y6.toInt + (f : Int)) → (0 ≤ y6.toInt) → (z_iR I7) → (z_iT I7) → (z_fr L_X9_product_0 I7 I) → z_W G A (shC c, ad, I7, JX, PC c ad) H → va_S A s.heap H locs → lv_has ls 4 [(2, .int y6), (0, .ref (ad 12)), (1, .int 0)] → W p l e (headSpec wsX9_product { frames := 31, cells := 0, slots := 0, locals := 687 }).room s m ([.ref (ad 12), .int 0] : List Value).toArray below meth c0 H locs 0 0 (MQ below (va_Qi (fun (r : Int32) (u1 : z_U) => ∃ I1 : z_I, u1 = (shC c, ad, I1, JX, PC c ad) ∧ z_iR I1 ∧ z_iT I1 ∧ z_fr L_X9_product_0 I1 I ∧ (r = 1 ∨ r = 0)) (z_B G A) A) ([.ref (ad 12), .int 0] : List Value).toArray s 0 0 A) (F0 m 12 ls []) := by
      intro f
      induction f with
      | zero => intro y6 I7  H locs ls lp5m lp5l2 lp5R lp5T lp5fr hW hS hl; exact absurd lp5m (by have := Int32.toInt_lt y6; have := Int32.le_toInt y6; omega)
      | succ f lp5ih =>
        intro y6 I7  H locs ls lp5m lp5l2 lp5R lp5T lp5fr hW hS hl
        have k8 : (I7 12 6).toInt ≤ 501 ∧ ((I7 12 7).toInt = 401 ∨ (I7 12 6).toInt ≤ 500) := lp5T
        refine lv_iload_n hx hb dX9_product_12 rfl (lv_at hl 0 rfl) ?_
        refine lv_sipush (v := 500) hx hb dX9_product_13 (by decide) ?_
        refine lv_icmp_ge (tgt := 79) hx hb dX9_product_16 (by decide) (fun c9 => ?_) (fun c9 => ?_)
        · have g10 := z_f_ge rfl z_l500 c9
          have b11 := Int32.toInt_lt y6
          refine lv_iconst (v := 1) hx hb dX9_product_79 (by decide) ?_
          exact z_zret hx hb hr (by decide) hK hS (Nat.le_of_ble_eq_true rfl) (Nat.le_of_ble_eq_true rfl) hlocks dX9_product_80 (shC c, ad, I7, JX, PC c ad) hW ⟨I7, rfl, ⟨(by show 0 ≤ (I7 12 1).toInt ∧ (I7 12 1).toInt ≤ 500; exact lp5R.1), (by show 0 ≤ (I7 12 5).toInt ∧ (I7 12 5).toInt ≤ 501; exact lp5R.2.1), (by show (-1) ≤ (I7 12 6).toInt ∧ (I7 12 6).toInt ≤ 1000000; exact lp5R.2.2.1), (by show 0 ≤ (I7 12 9).toInt ∧ (I7 12 9).toInt ≤ 500; exact lp5R.2.2.2.1), (by show 0 ≤ (I7 12 13).toInt ∧ (I7 12 13).toInt ≤ 24; exact lp5R.2.2.2.2)⟩, (by show (I7 12 6).toInt ≤ 501 ∧ ((I7 12 7).toInt = 401 ∨ (I7 12 6).toInt ≤ 500); first | omega | decide), lp5fr, Or.inl rfl⟩
        · have g12 := z_f_nge rfl z_l500 c9
          have b13 := Int32.toInt_lt y6
          refine lv_aload_n hx hb dX9_product_19 rfl (lv_at hl 1 rfl) ?_
          refine z_get (T := TX9) (N := 14) (ci := 9) (i := 12) (v := .int (I7 12 7)) hx hb hts zj_X9_product_X9 hown hK hW rfl rfl 7 (by decide) (hts (.fieldLink RX9 62 "PetrolBoard$Reader" "token" "I") (List.mem_of_getElem? (i := 1) rfl)) (fun _ h => h) rfl dX9_product_20 ?_
          refine lv_bipush (v := 42) hx hb dX9_product_23 (by decide) ?_
          refine lv_icmp_eq (tgt := 37) hx hb dX9_product_25 (by decide) (fun c14 => ?_) (fun c14 => ?_)
          · have g15 := z_f_eq rfl z_l42 c14
            have b16 := Int32.toInt_lt (I7 12 7)
            refine lv_aload_n hx hb dX9_product_37 rfl (lv_at hl 1 rfl) ?_
            refine z_get (T := TX9) (N := 14) (ci := 9) (i := 12) (v := .int (I7 12 7)) hx hb hts zj_X9_product_X9 hown hK hW rfl rfl 7 (by decide) (hts (.fieldLink RX9 62 "PetrolBoard$Reader" "token" "I") (List.mem_of_getElem? (i := 1) rfl)) (fun _ h => h) rfl dX9_product_38 ?_
            refine lv_istore_n (lv' := [(3, .int (I7 12 7)), (2, .int y6), (0, .ref (ad 12)), (1, .int 0)]) hx hb dX9_product_41 rfl hl (by decide) rfl (fun ls hl => ?_)
            refine lv_aload_n hx hb dX9_product_42 rfl (lv_at hl 2 rfl) ?_
            refine z_cv hW hS hA (va_runV (As := []) (rest := []) ⟨hx, hb, hml, hown, hts⟩ (sx_X9_step l G ad c I7 ⟨(by show 0 ≤ (I7 12 1).toInt ∧ (I7 12 1).toInt ≤ 500; exact lp5R.1), (by show 0 ≤ (I7 12 5).toInt ∧ (I7 12 5).toInt ≤ 501; exact lp5R.2.1), (by show (-1) ≤ (I7 12 6).toInt ∧ (I7 12 6).toInt ≤ 1000000; exact lp5R.2.2.1), (by show 0 ≤ (I7 12 9).toInt ∧ (I7 12 9).toInt ≤ 500; exact lp5R.2.2.2.1), (by show 0 ≤ (I7 12 13).toInt ∧ (I7 12 13).toInt ≤ 24; exact lp5R.2.2.2.2)⟩   (by show (I7 12 6).toInt ≤ 500; first | omega | decide) _) (cwV 0 hts gX9_product_X9_step rfl rfl rfl (by decide +kernel) ⟨Nat.le_of_ble_eq_true rfl, Nat.le_of_ble_eq_true rfl⟩) (z_preV (i := 12) hK hW rfl rfl) rfl rfl hl.1 rfl (lv_room (Nat.le_of_ble_eq_true rfl)) dX9_product_43 ⟨Nat.le_of_ble_eq_true rfl, Nat.le_of_ble_eq_true rfl⟩) (fun u1 H locs hp hW hS => ?_)
            obtain ⟨I17, e9, hI17R, hI17T, fI17⟩ := hp
            rw [e9] at hW
            have f18 := z_fr_sub (L := L_X9_product_0) lp5fr fI17 (by decide)
            have k19 : (I17 12 6).toInt ≤ 501 ∧ ((I17 12 7).toInt = 401 ∨ (I17 12 6).toInt ≤ 500) := hI17T
            refine lv_aload_n hx hb dX9_product_46 rfl (lv_at hl 2 rfl) ?_
            refine lv_iload_n hx hb dX9_product_47 rfl (lv_at hl 3 rfl) ?_
            refine z_ci hW hS hA (va_runV (As := [.int 0]) (rest := []) ⟨hx, hb, hml, hown, hts⟩ (sx_X9_atom_0 l G ad c I17 ⟨(by show 0 ≤ (I17 12 1).toInt ∧ (I17 12 1).toInt ≤ 500; exact hI17R.1), (by show 0 ≤ (I17 12 5).toInt ∧ (I17 12 5).toInt ≤ 501; exact hI17R.2.1), (by show (-1) ≤ (I17 12 6).toInt ∧ (I17 12 6).toInt ≤ 1000000; exact hI17R.2.2.1), (by show 0 ≤ (I17 12 9).toInt ∧ (I17 12 9).toInt ≤ 500; exact hI17R.2.2.2.1), (by show 0 ≤ (I17 12 13).toInt ∧ (I17 12 13).toInt ≤ 24; exact hI17R.2.2.2.2)⟩ (by show (I17 12 6).toInt ≤ 501 ∧ ((I17 12 7).toInt = 401 ∨ (I17 12 6).toInt ≤ 500); first | omega | decide) _) (cwV 1 hts gX9_product_X9_atom rfl rfl rfl (by decide +kernel) ⟨Nat.le_of_ble_eq_true rfl, Nat.le_of_ble_eq_true rfl⟩) (z_preV (i := 12) hK hW rfl rfl) rfl rfl hl.1 rfl (lv_room (Nat.le_of_ble_eq_true rfl)) dX9_product_48 ⟨Nat.le_of_ble_eq_true rfl, Nat.le_of_ble_eq_true rfl⟩) (fun r u1 H locs hp hW hS => ?_)
            obtain ⟨I20, e9, hI20R, hI20T, fI20, hp⟩ := hp
            rw [e9] at hW
            have f21 := z_fr_sub (L := L_X9_product_0) f18 fI20 (by decide)
            have k22 : (I20 12 6).toInt ≤ 501 ∧ ((I20 12 7).toInt = 401 ∨ (I20 12 6).toInt ≤ 500) := hI20T
            rcases hp with rfl | rfl
            · refine lv_if_ne (tgt := 56) hx hb dX9_product_51 (by decide) (fun c23 => ?_) (fun c23 => absurd c23 (by decide))
              refine lv_aload_n hx hb dX9_product_56 rfl (lv_at hl 2 rfl) ?_
              refine lv_iload_n hx hb dX9_product_57 rfl (lv_at hl 0 rfl) ?_
              refine lv_bipush (v := 42) hx hb dX9_product_58 (by decide) ?_
              refine lv_icmp_ne (tgt := 68) hx hb dX9_product_60 (by decide) (fun c24 => (by have g := z_f_ne rfl z_l42 c24; omega)) (fun c24 => ?_)
              have g25 := z_f_eq rfl z_l42 c24
              refine lv_bipush (v := (-3)) hx hb dX9_product_63 (by decide) ?_
              refine lv_goto (tgt := 70) hx hb dX9_product_65 (by decide) ?_
              refine z_cv hW hS hA (va_runV (As := [.int (-3)]) (rest := []) ⟨hx, hb, hml, hown, hts⟩ (sx_X9_emit l G ad c I20 ⟨(by show 0 ≤ (I20 12 1).toInt ∧ (I20 12 1).toInt ≤ 500; exact hI20R.1), (by show 0 ≤ (I20 12 5).toInt ∧ (I20 12 5).toInt ≤ 501; exact hI20R.2.1), (by show (-1) ≤ (I20 12 6).toInt ∧ (I20 12 6).toInt ≤ 1000000; exact hI20R.2.2.1), (by show 0 ≤ (I20 12 9).toInt ∧ (I20 12 9).toInt ≤ 500; exact hI20R.2.2.2.1), (by show 0 ≤ (I20 12 13).toInt ∧ (I20 12 13).toInt ≤ 24; exact hI20R.2.2.2.2)⟩ (-3) _) (cwV 1 hts gX9_product_X9_emit rfl rfl rfl (by decide +kernel) ⟨Nat.le_of_ble_eq_true rfl, Nat.le_of_ble_eq_true rfl⟩) (z_preV (i := 12) hK hW rfl rfl) rfl rfl hl.1 rfl (lv_room (Nat.le_of_ble_eq_true rfl)) dX9_product_70 ⟨Nat.le_of_ble_eq_true rfl, Nat.le_of_ble_eq_true rfl⟩) (fun u1 H locs hp hW hS => ?_)
              obtain ⟨I26, e9, hI26R, fI26⟩ := hp
              rw [e9] at hW
              have f27 := z_fr_sub (L := L_X9_product_0) f21 fI26 (by decide)
              have k28 : (I26 12 6).toInt ≤ 501 ∧ ((I26 12 7).toInt = 401 ∨ (I26 12 6).toInt ≤ 500) := (by have q0 : (I26 12 6) = (I20 12 6) := (by rw [fI26 12 6 (by decide)]); have q1 : (I26 12 7) = (I20 12 7) := (by rw [fI26 12 7 (by decide)]); show (I26 12 6).toInt ≤ 501 ∧ ((I26 12 7).toInt = 401 ∨ (I26 12 6).toInt ≤ 500); rw [q0, q1]; first | omega | decide)
              obtain ⟨x29, ex29⟩ : ∃ y : Int32, y = y6 + 1 := ⟨_, rfl⟩
              have tx29 : x29.toInt = y6.toInt + 1 := z_tadd ex29 rfl z_l1 (by omega) (by omega)
              refine lv_iinc (v := x29) (lv' := [(2, .int x29), (3, .int (I7 12 7)), (0, .ref (ad 12)), (1, .int 0)]) hx hb dX9_product_73 hl (k := 1) rfl (by rw [ex29]; rfl) (by decide) rfl (fun ls hl => ?_)
              refine lv_goto (tgt := 12) hx hb dX9_product_76 (by decide) ?_
              exact lp5ih x29 I26  _ _ _ (by omega) (by omega) ⟨(by show 0 ≤ (I26 12 1).toInt ∧ (I26 12 1).toInt ≤ 500; exact hI26R.1), (by show 0 ≤ (I26 12 5).toInt ∧ (I26 12 5).toInt ≤ 501; exact hI26R.2.1), (by show (-1) ≤ (I26 12 6).toInt ∧ (I26 12 6).toInt ≤ 1000000; exact hI26R.2.2.1), (by show 0 ≤ (I26 12 9).toInt ∧ (I26 12 9).toInt ≤ 500; exact hI26R.2.2.2.1), (by show 0 ≤ (I26 12 13).toInt ∧ (I26 12 13).toInt ≤ 24; exact hI26R.2.2.2.2)⟩ (by show (I26 12 6).toInt ≤ 501 ∧ ((I26 12 7).toInt = 401 ∨ (I26 12 6).toInt ≤ 500); first | omega | decide) f27 hW hS (lv_sub hl [0, 2, 3] rfl)
            · refine lv_if_ne (tgt := 56) hx hb dX9_product_51 (by decide) (fun c30 => absurd (by decide) c30) (fun c30 => ?_)
              refine lv_iconst (v := 0) hx hb dX9_product_54 (by decide) ?_
              exact z_zret hx hb hr (by decide) hK hS (Nat.le_of_ble_eq_true rfl) (Nat.le_of_ble_eq_true rfl) hlocks dX9_product_55 (shC c, ad, I20, JX, PC c ad) hW ⟨I20, rfl, ⟨(by show 0 ≤ (I20 12 1).toInt ∧ (I20 12 1).toInt ≤ 500; exact hI20R.1), (by show 0 ≤ (I20 12 5).toInt ∧ (I20 12 5).toInt ≤ 501; exact hI20R.2.1), (by show (-1) ≤ (I20 12 6).toInt ∧ (I20 12 6).toInt ≤ 1000000; exact hI20R.2.2.1), (by show 0 ≤ (I20 12 9).toInt ∧ (I20 12 9).toInt ≤ 500; exact hI20R.2.2.2.1), (by show 0 ≤ (I20 12 13).toInt ∧ (I20 12 13).toInt ≤ 24; exact hI20R.2.2.2.2)⟩, (by show (I20 12 6).toInt ≤ 501 ∧ ((I20 12 7).toInt = 401 ∨ (I20 12 6).toInt ≤ 500); first | omega | decide), f21, Or.inr rfl⟩
          · have g31 := z_f_ne rfl z_l42 c14
            have b32 := Int32.toInt_lt (I7 12 7)
            refine lv_aload_n hx hb dX9_product_28 rfl (lv_at hl 1 rfl) ?_
            refine z_get (T := TX9) (N := 14) (ci := 9) (i := 12) (v := .int (I7 12 7)) hx hb hts zj_X9_product_X9 hown hK hW rfl rfl 7 (by decide) (hts (.fieldLink RX9 62 "PetrolBoard$Reader" "token" "I") (List.mem_of_getElem? (i := 1) rfl)) (fun _ h => h) rfl dX9_product_29 ?_
            refine lv_bipush (v := 47) hx hb dX9_product_32 (by decide) ?_
            refine lv_icmp_ne (tgt := 79) hx hb dX9_product_34 (by decide) (fun c33 => ?_) (fun c33 => ?_)
            · have g34 := z_f_ne rfl z_l47 c33
              refine lv_iconst (v := 1) hx hb dX9_product_79 (by decide) ?_
              exact z_zret hx hb hr (by decide) hK hS (Nat.le_of_ble_eq_true rfl) (Nat.le_of_ble_eq_true rfl) hlocks dX9_product_80 (shC c, ad, I7, JX, PC c ad) hW ⟨I7, rfl, ⟨(by show 0 ≤ (I7 12 1).toInt ∧ (I7 12 1).toInt ≤ 500; exact lp5R.1), (by show 0 ≤ (I7 12 5).toInt ∧ (I7 12 5).toInt ≤ 501; exact lp5R.2.1), (by show (-1) ≤ (I7 12 6).toInt ∧ (I7 12 6).toInt ≤ 1000000; exact lp5R.2.2.1), (by show 0 ≤ (I7 12 9).toInt ∧ (I7 12 9).toInt ≤ 500; exact lp5R.2.2.2.1), (by show 0 ≤ (I7 12 13).toInt ∧ (I7 12 13).toInt ≤ 24; exact lp5R.2.2.2.2)⟩, (by show (I7 12 6).toInt ≤ 501 ∧ ((I7 12 7).toInt = 401 ∨ (I7 12 6).toInt ≤ 500); first | omega | decide), lp5fr, Or.inl rfl⟩
            · have g35 := z_f_eq rfl z_l47 c33
              refine lv_aload_n hx hb dX9_product_37 rfl (lv_at hl 1 rfl) ?_
              refine z_get (T := TX9) (N := 14) (ci := 9) (i := 12) (v := .int (I7 12 7)) hx hb hts zj_X9_product_X9 hown hK hW rfl rfl 7 (by decide) (hts (.fieldLink RX9 62 "PetrolBoard$Reader" "token" "I") (List.mem_of_getElem? (i := 1) rfl)) (fun _ h => h) rfl dX9_product_38 ?_
              refine lv_istore_n (lv' := [(3, .int (I7 12 7)), (2, .int y6), (0, .ref (ad 12)), (1, .int 0)]) hx hb dX9_product_41 rfl hl (by decide) rfl (fun ls hl => ?_)
              refine lv_aload_n hx hb dX9_product_42 rfl (lv_at hl 2 rfl) ?_
              refine z_cv hW hS hA (va_runV (As := []) (rest := []) ⟨hx, hb, hml, hown, hts⟩ (sx_X9_step l G ad c I7 ⟨(by show 0 ≤ (I7 12 1).toInt ∧ (I7 12 1).toInt ≤ 500; exact lp5R.1), (by show 0 ≤ (I7 12 5).toInt ∧ (I7 12 5).toInt ≤ 501; exact lp5R.2.1), (by show (-1) ≤ (I7 12 6).toInt ∧ (I7 12 6).toInt ≤ 1000000; exact lp5R.2.2.1), (by show 0 ≤ (I7 12 9).toInt ∧ (I7 12 9).toInt ≤ 500; exact lp5R.2.2.2.1), (by show 0 ≤ (I7 12 13).toInt ∧ (I7 12 13).toInt ≤ 24; exact lp5R.2.2.2.2)⟩   (by show (I7 12 6).toInt ≤ 500; first | omega | decide) _) (cwV 0 hts gX9_product_X9_step rfl rfl rfl (by decide +kernel) ⟨Nat.le_of_ble_eq_true rfl, Nat.le_of_ble_eq_true rfl⟩) (z_preV (i := 12) hK hW rfl rfl) rfl rfl hl.1 rfl (lv_room (Nat.le_of_ble_eq_true rfl)) dX9_product_43 ⟨Nat.le_of_ble_eq_true rfl, Nat.le_of_ble_eq_true rfl⟩) (fun u1 H locs hp hW hS => ?_)
              obtain ⟨I36, e9, hI36R, hI36T, fI36⟩ := hp
              rw [e9] at hW
              have f37 := z_fr_sub (L := L_X9_product_0) lp5fr fI36 (by decide)
              have k38 : (I36 12 6).toInt ≤ 501 ∧ ((I36 12 7).toInt = 401 ∨ (I36 12 6).toInt ≤ 500) := hI36T
              refine lv_aload_n hx hb dX9_product_46 rfl (lv_at hl 2 rfl) ?_
              refine lv_iload_n hx hb dX9_product_47 rfl (lv_at hl 3 rfl) ?_
              refine z_ci hW hS hA (va_runV (As := [.int 0]) (rest := []) ⟨hx, hb, hml, hown, hts⟩ (sx_X9_atom_0 l G ad c I36 ⟨(by show 0 ≤ (I36 12 1).toInt ∧ (I36 12 1).toInt ≤ 500; exact hI36R.1), (by show 0 ≤ (I36 12 5).toInt ∧ (I36 12 5).toInt ≤ 501; exact hI36R.2.1), (by show (-1) ≤ (I36 12 6).toInt ∧ (I36 12 6).toInt ≤ 1000000; exact hI36R.2.2.1), (by show 0 ≤ (I36 12 9).toInt ∧ (I36 12 9).toInt ≤ 500; exact hI36R.2.2.2.1), (by show 0 ≤ (I36 12 13).toInt ∧ (I36 12 13).toInt ≤ 24; exact hI36R.2.2.2.2)⟩ (by show (I36 12 6).toInt ≤ 501 ∧ ((I36 12 7).toInt = 401 ∨ (I36 12 6).toInt ≤ 500); first | omega | decide) _) (cwV 1 hts gX9_product_X9_atom rfl rfl rfl (by decide +kernel) ⟨Nat.le_of_ble_eq_true rfl, Nat.le_of_ble_eq_true rfl⟩) (z_preV (i := 12) hK hW rfl rfl) rfl rfl hl.1 rfl (lv_room (Nat.le_of_ble_eq_true rfl)) dX9_product_48 ⟨Nat.le_of_ble_eq_true rfl, Nat.le_of_ble_eq_true rfl⟩) (fun r u1 H locs hp hW hS => ?_)
              obtain ⟨I39, e9, hI39R, hI39T, fI39, hp⟩ := hp
              rw [e9] at hW
              have f40 := z_fr_sub (L := L_X9_product_0) f37 fI39 (by decide)
              have k41 : (I39 12 6).toInt ≤ 501 ∧ ((I39 12 7).toInt = 401 ∨ (I39 12 6).toInt ≤ 500) := hI39T
              rcases hp with rfl | rfl
              · refine lv_if_ne (tgt := 56) hx hb dX9_product_51 (by decide) (fun c42 => ?_) (fun c42 => absurd c42 (by decide))
                refine lv_aload_n hx hb dX9_product_56 rfl (lv_at hl 2 rfl) ?_
                refine lv_iload_n hx hb dX9_product_57 rfl (lv_at hl 0 rfl) ?_
                refine lv_bipush (v := 42) hx hb dX9_product_58 (by decide) ?_
                refine lv_icmp_ne (tgt := 68) hx hb dX9_product_60 (by decide) (fun c43 => ?_) (fun c43 => (by have g := z_f_eq rfl z_l42 c43; omega))
                have g44 := z_f_ne rfl z_l42 c43
                refine lv_bipush (v := (-4)) hx hb dX9_product_68 (by decide) ?_
                refine z_cv hW hS hA (va_runV (As := [.int (-4)]) (rest := []) ⟨hx, hb, hml, hown, hts⟩ (sx_X9_emit l G ad c I39 ⟨(by show 0 ≤ (I39 12 1).toInt ∧ (I39 12 1).toInt ≤ 500; exact hI39R.1), (by show 0 ≤ (I39 12 5).toInt ∧ (I39 12 5).toInt ≤ 501; exact hI39R.2.1), (by show (-1) ≤ (I39 12 6).toInt ∧ (I39 12 6).toInt ≤ 1000000; exact hI39R.2.2.1), (by show 0 ≤ (I39 12 9).toInt ∧ (I39 12 9).toInt ≤ 500; exact hI39R.2.2.2.1), (by show 0 ≤ (I39 12 13).toInt ∧ (I39 12 13).toInt ≤ 24; exact hI39R.2.2.2.2)⟩ (-4) _) (cwV 1 hts gX9_product_X9_emit rfl rfl rfl (by decide +kernel) ⟨Nat.le_of_ble_eq_true rfl, Nat.le_of_ble_eq_true rfl⟩) (z_preV (i := 12) hK hW rfl rfl) rfl rfl hl.1 rfl (lv_room (Nat.le_of_ble_eq_true rfl)) dX9_product_70 ⟨Nat.le_of_ble_eq_true rfl, Nat.le_of_ble_eq_true rfl⟩) (fun u1 H locs hp hW hS => ?_)
                obtain ⟨I45, e9, hI45R, fI45⟩ := hp
                rw [e9] at hW
                have f46 := z_fr_sub (L := L_X9_product_0) f40 fI45 (by decide)
                have k47 : (I45 12 6).toInt ≤ 501 ∧ ((I45 12 7).toInt = 401 ∨ (I45 12 6).toInt ≤ 500) := (by have q0 : (I45 12 6) = (I39 12 6) := (by rw [fI45 12 6 (by decide)]); have q1 : (I45 12 7) = (I39 12 7) := (by rw [fI45 12 7 (by decide)]); show (I45 12 6).toInt ≤ 501 ∧ ((I45 12 7).toInt = 401 ∨ (I45 12 6).toInt ≤ 500); rw [q0, q1]; first | omega | decide)
                obtain ⟨x48, ex48⟩ : ∃ y : Int32, y = y6 + 1 := ⟨_, rfl⟩
                have tx48 : x48.toInt = y6.toInt + 1 := z_tadd ex48 rfl z_l1 (by omega) (by omega)
                refine lv_iinc (v := x48) (lv' := [(2, .int x48), (3, .int (I7 12 7)), (0, .ref (ad 12)), (1, .int 0)]) hx hb dX9_product_73 hl (k := 1) rfl (by rw [ex48]; rfl) (by decide) rfl (fun ls hl => ?_)
                refine lv_goto (tgt := 12) hx hb dX9_product_76 (by decide) ?_
                exact lp5ih x48 I45  _ _ _ (by omega) (by omega) ⟨(by show 0 ≤ (I45 12 1).toInt ∧ (I45 12 1).toInt ≤ 500; exact hI45R.1), (by show 0 ≤ (I45 12 5).toInt ∧ (I45 12 5).toInt ≤ 501; exact hI45R.2.1), (by show (-1) ≤ (I45 12 6).toInt ∧ (I45 12 6).toInt ≤ 1000000; exact hI45R.2.2.1), (by show 0 ≤ (I45 12 9).toInt ∧ (I45 12 9).toInt ≤ 500; exact hI45R.2.2.2.1), (by show 0 ≤ (I45 12 13).toInt ∧ (I45 12 13).toInt ≤ 24; exact hI45R.2.2.2.2)⟩ (by show (I45 12 6).toInt ≤ 501 ∧ ((I45 12 7).toInt = 401 ∨ (I45 12 6).toInt ≤ 500); first | omega | decide) f46 hW hS (lv_sub hl [0, 2, 3] rfl)
              · refine lv_if_ne (tgt := 56) hx hb dX9_product_51 (by decide) (fun c49 => absurd (by decide) c49) (fun c49 => ?_)
                refine lv_iconst (v := 0) hx hb dX9_product_54 (by decide) ?_
                exact z_zret hx hb hr (by decide) hK hS (Nat.le_of_ble_eq_true rfl) (Nat.le_of_ble_eq_true rfl) hlocks dX9_product_55 (shC c, ad, I39, JX, PC c ad) hW ⟨I39, rfl, ⟨(by show 0 ≤ (I39 12 1).toInt ∧ (I39 12 1).toInt ≤ 500; exact hI39R.1), (by show 0 ≤ (I39 12 5).toInt ∧ (I39 12 5).toInt ≤ 501; exact hI39R.2.1), (by show (-1) ≤ (I39 12 6).toInt ∧ (I39 12 6).toInt ≤ 1000000; exact hI39R.2.2.1), (by show 0 ≤ (I39 12 9).toInt ∧ (I39 12 9).toInt ≤ 500; exact hI39R.2.2.2.1), (by show 0 ≤ (I39 12 13).toInt ∧ (I39 12 13).toInt ≤ 24; exact hI39R.2.2.2.2)⟩, (by show (I39 12 6).toInt ≤ 501 ∧ ((I39 12 7).toInt = 401 ∨ (I39 12 6).toInt ≤ 500); first | omega | decide), f40, Or.inr rfl⟩
    exact lp5 4294967296 (0) I1  _ _ _ (z_m0u _) (by rw [z_l0]; omega) ⟨(by show 0 ≤ (I1 12 1).toInt ∧ (I1 12 1).toInt ≤ 500; exact hI1R.1), (by show 0 ≤ (I1 12 5).toInt ∧ (I1 12 5).toInt ≤ 501; exact hI1R.2.1), (by show (-1) ≤ (I1 12 6).toInt ∧ (I1 12 6).toInt ≤ 1000000; exact hI1R.2.2.1), (by show 0 ≤ (I1 12 9).toInt ∧ (I1 12 9).toInt ≤ 500; exact hI1R.2.2.2.1), (by show 0 ≤ (I1 12 13).toInt ∧ (I1 12 13).toInt ≤ 24; exact hI1R.2.2.2.2)⟩ (by show (I1 12 6).toInt ≤ 501 ∧ ((I1 12 7).toInt = 401 ∨ (I1 12 6).toInt ≤ 500); first | omega | decide) f2 hW hS (lv_sub hl [0, 1, 2] rfl)
  · refine lv_if_ne (tgt := 10) hx hb dX9_product_5 (by decide) (fun c50 => absurd (by decide) c50) (fun c50 => ?_)
    refine lv_iconst (v := 0) hx hb dX9_product_8 (by decide) ?_
    exact z_zret hx hb hr (by decide) hK hS (Nat.le_of_ble_eq_true rfl) (Nat.le_of_ble_eq_true rfl) hlocks dX9_product_9 (shC c, ad, I1, JX, PC c ad) hW ⟨I1, rfl, ⟨(by show 0 ≤ (I1 12 1).toInt ∧ (I1 12 1).toInt ≤ 500; exact hI1R.1), (by show 0 ≤ (I1 12 5).toInt ∧ (I1 12 5).toInt ≤ 501; exact hI1R.2.1), (by show (-1) ≤ (I1 12 6).toInt ∧ (I1 12 6).toInt ≤ 1000000; exact hI1R.2.2.1), (by show 0 ≤ (I1 12 9).toInt ∧ (I1 12 9).toInt ≤ 500; exact hI1R.2.2.2.1), (by show 0 ≤ (I1 12 13).toInt ∧ (I1 12 13).toInt ≤ 24; exact hI1R.2.2.2.2)⟩, (by show (I1 12 6).toInt ≤ 501 ∧ ((I1 12 7).toInt = 401 ∨ (I1 12 6).toInt ≤ 500); first | omega | decide), f2, Or.inr rfl⟩
def L_X9_sum_0 : z_L := [(12, 6), (12, 7), (17, 999), (12, 9)]
set_option maxHeartbeats 8000000 in
set_option maxRecDepth 100000 in
theorem sx_X9_sum_0 (l : Launch) (G : z_G) (ad : Nat → Nat) (c : z_C) (I : z_I) (hR : z_iR I) (hT : z_iT I) : z_M l yX9_sum wsX9_sum { frames := 32, cells := 0, slots := 0, locals := 710 } [.ref (ad 12), .int 0] G (shC c, ad, I, JX, PC c ad) (fun r u1 => ∃ I1 : z_I, u1 = (shC c, ad, I1, JX, PC c ad) ∧ z_iR I1 ∧ z_iT I1 ∧ z_fr L_X9_sum_0 I1 I ∧ (r = 1 ∨ r = 0)) 0 0 := by
  intro sz
  refine z_headQ (cc := cX9_sum) (maxL := 4) (ret := (some .boolean)) (by decide) rfl (Nat.le_of_ble_eq_true rfl) ?_
  intro p e s m below meth c0 ls hIn hK hsz hW hl
  obtain ⟨hx, hb, hr, hml, hown, hts, hlocks, hname⟩ := hIn
  subst hsz
  have hown : s.vm.findClass RX9 = some m.cls := hown
  have hA : ∀ q : Nat, s.heap.size ≤ q → z_A (shC c, ad, I, JX, PC c ad) s.heap.size q := fun q h => Or.inr h
  generalize hAe : z_A (shC c, ad, I, JX, PC c ad) s.heap.size = A at *
  have hS : va_S A s.heap s.heap [] := va_S.rf
  have hl : lv_has ls 4 [(0, .ref (ad 12)), (1, .int 0)] := hl
  have kT : (I 12 6).toInt ≤ 501 ∧ ((I 12 7).toInt = 401 ∨ (I 12 6).toInt ≤ 500) := hT
  refine lv_aload_n hx hb dX9_sum_0 rfl (lv_at hl 0 rfl) ?_
  refine lv_iload_n hx hb dX9_sum_1 rfl (lv_at hl 1 rfl) ?_
  refine z_ci hW hS hA (va_runV (As := [.int 0]) (rest := []) ⟨hx, hb, hml, hown, hts⟩ (sx_X9_product_0 l G ad c I ⟨(by show 0 ≤ (I 12 1).toInt ∧ (I 12 1).toInt ≤ 500; exact hR.1), (by show 0 ≤ (I 12 5).toInt ∧ (I 12 5).toInt ≤ 501; exact hR.2.1), (by show (-1) ≤ (I 12 6).toInt ∧ (I 12 6).toInt ≤ 1000000; exact hR.2.2.1), (by show 0 ≤ (I 12 9).toInt ∧ (I 12 9).toInt ≤ 500; exact hR.2.2.2.1), (by show 0 ≤ (I 12 13).toInt ∧ (I 12 13).toInt ≤ 24; exact hR.2.2.2.2)⟩ (by show (I 12 6).toInt ≤ 501 ∧ ((I 12 7).toInt = 401 ∨ (I 12 6).toInt ≤ 500); first | omega | decide) _) (cwV 1 hts gX9_sum_X9_product rfl rfl rfl (by decide +kernel) ⟨Nat.le_of_ble_eq_true rfl, Nat.le_of_ble_eq_true rfl⟩) (z_preV (i := 12) hK hW rfl rfl) rfl rfl hl.1 rfl (lv_room (Nat.le_of_ble_eq_true rfl)) dX9_sum_2 ⟨Nat.le_of_ble_eq_true rfl, Nat.le_of_ble_eq_true rfl⟩) (fun r u1 H locs hp hW hS => ?_)
  obtain ⟨I1, e9, hI1R, hI1T, fI1, hp⟩ := hp
  rw [e9] at hW
  have f2 := z_fr_sub (L := L_X9_sum_0) z_fr_0 fI1 (by decide)
  have k3 : (I1 12 6).toInt ≤ 501 ∧ ((I1 12 7).toInt = 401 ∨ (I1 12 6).toInt ≤ 500) := hI1T
  rcases hp with rfl | rfl
  · refine lv_if_ne (tgt := 10) hx hb dX9_sum_5 (by decide) (fun c4 => ?_) (fun c4 => absurd c4 (by decide))
    refine lv_iconst (v := 0) hx hb dX9_sum_10 (by decide) ?_
    refine lv_istore_n (lv' := [(2, .int 0), (0, .ref (ad 12)), (1, .int 0)]) hx hb dX9_sum_11 rfl hl (by decide) rfl (fun ls hl => ?_)
    have lp5 : ∀ (f : Nat) (y6 : Int32) (I7 : z_I) (H : Heap) (locs : List Loc) (ls : Array Slot), (2147483647 < y6.toInt + (f : Int)) → (0 ≤ y6.toInt) → (z_iR I7) → (z_iT I7) → (z_fr L_X9_sum_0 I7 I) → z_W G A (shC c, ad, I7, JX, PC c ad) H → va_S A s.heap H locs → lv_has ls 4 [(2, .int y6), (0, .ref (ad 12)), (1, .int 0)] → W p l e (headSpec wsX9_sum { frames := 32, cells := 0, slots := 0, locals := 710 }).room s m ([.ref (ad 12), .int 0] : List Value).toArray below meth c0 H locs 0 0 (MQ below (va_Qi (fun (r : Int32) (u1 : z_U) => ∃ I1 : z_I, u1 = (shC c, ad, I1, JX, PC c ad) ∧ z_iR I1 ∧ z_iT I1 ∧ z_fr L_X9_sum_0 I1 I ∧ (r = 1 ∨ r = 0)) (z_B G A) A) ([.ref (ad 12), .int 0] : List Value).toArray s 0 0 A) (F0 m 12 ls []) := by
      intro f
      induction f with
      | zero => intro y6 I7  H locs ls lp5m lp5l2 lp5R lp5T lp5fr hW hS hl; exact absurd lp5m (by have := Int32.toInt_lt y6; have := Int32.le_toInt y6; omega)
      | succ f lp5ih =>
        intro y6 I7  H locs ls lp5m lp5l2 lp5R lp5T lp5fr hW hS hl
        have k8 : (I7 12 6).toInt ≤ 501 ∧ ((I7 12 7).toInt = 401 ∨ (I7 12 6).toInt ≤ 500) := lp5T
        refine lv_iload_n hx hb dX9_sum_12 rfl (lv_at hl 0 rfl) ?_
        refine lv_sipush (v := 500) hx hb dX9_sum_13 (by decide) ?_
        refine lv_icmp_ge (tgt := 78) hx hb dX9_sum_16 (by decide) (fun c9 => ?_) (fun c9 => ?_)
        · have g10 := z_f_ge rfl z_l500 c9
          have b11 := Int32.toInt_lt y6
          refine lv_iconst (v := 1) hx hb dX9_sum_78 (by decide) ?_
          exact z_zret hx hb hr (by decide) hK hS (Nat.le_of_ble_eq_true rfl) (Nat.le_of_ble_eq_true rfl) hlocks dX9_sum_79 (shC c, ad, I7, JX, PC c ad) hW ⟨I7, rfl, ⟨(by show 0 ≤ (I7 12 1).toInt ∧ (I7 12 1).toInt ≤ 500; exact lp5R.1), (by show 0 ≤ (I7 12 5).toInt ∧ (I7 12 5).toInt ≤ 501; exact lp5R.2.1), (by show (-1) ≤ (I7 12 6).toInt ∧ (I7 12 6).toInt ≤ 1000000; exact lp5R.2.2.1), (by show 0 ≤ (I7 12 9).toInt ∧ (I7 12 9).toInt ≤ 500; exact lp5R.2.2.2.1), (by show 0 ≤ (I7 12 13).toInt ∧ (I7 12 13).toInt ≤ 24; exact lp5R.2.2.2.2)⟩, (by show (I7 12 6).toInt ≤ 501 ∧ ((I7 12 7).toInt = 401 ∨ (I7 12 6).toInt ≤ 500); first | omega | decide), lp5fr, Or.inl rfl⟩
        · have g12 := z_f_nge rfl z_l500 c9
          have b13 := Int32.toInt_lt y6
          refine lv_aload_n hx hb dX9_sum_19 rfl (lv_at hl 1 rfl) ?_
          refine z_get (T := TX9) (N := 14) (ci := 9) (i := 12) (v := .int (I7 12 7)) hx hb hts zj_X9_sum_X9 hown hK hW rfl rfl 7 (by decide) (hts (.fieldLink RX9 62 "PetrolBoard$Reader" "token" "I") (List.mem_of_getElem? (i := 1) rfl)) (fun _ h => h) rfl dX9_sum_20 ?_
          refine lv_bipush (v := 43) hx hb dX9_sum_23 (by decide) ?_
          refine lv_icmp_eq (tgt := 37) hx hb dX9_sum_25 (by decide) (fun c14 => ?_) (fun c14 => ?_)
          · have g15 := z_f_eq rfl z_l43 c14
            have b16 := Int32.toInt_lt (I7 12 7)
            refine lv_aload_n hx hb dX9_sum_37 rfl (lv_at hl 1 rfl) ?_
            refine z_get (T := TX9) (N := 14) (ci := 9) (i := 12) (v := .int (I7 12 7)) hx hb hts zj_X9_sum_X9 hown hK hW rfl rfl 7 (by decide) (hts (.fieldLink RX9 62 "PetrolBoard$Reader" "token" "I") (List.mem_of_getElem? (i := 1) rfl)) (fun _ h => h) rfl dX9_sum_38 ?_
            refine lv_istore_n (lv' := [(3, .int (I7 12 7)), (2, .int y6), (0, .ref (ad 12)), (1, .int 0)]) hx hb dX9_sum_41 rfl hl (by decide) rfl (fun ls hl => ?_)
            refine lv_aload_n hx hb dX9_sum_42 rfl (lv_at hl 2 rfl) ?_
            refine z_cv hW hS hA (va_runV (As := []) (rest := []) ⟨hx, hb, hml, hown, hts⟩ (sx_X9_step l G ad c I7 ⟨(by show 0 ≤ (I7 12 1).toInt ∧ (I7 12 1).toInt ≤ 500; exact lp5R.1), (by show 0 ≤ (I7 12 5).toInt ∧ (I7 12 5).toInt ≤ 501; exact lp5R.2.1), (by show (-1) ≤ (I7 12 6).toInt ∧ (I7 12 6).toInt ≤ 1000000; exact lp5R.2.2.1), (by show 0 ≤ (I7 12 9).toInt ∧ (I7 12 9).toInt ≤ 500; exact lp5R.2.2.2.1), (by show 0 ≤ (I7 12 13).toInt ∧ (I7 12 13).toInt ≤ 24; exact lp5R.2.2.2.2)⟩   (by show (I7 12 6).toInt ≤ 500; first | omega | decide) _) (cwV 0 hts gX9_sum_X9_step rfl rfl rfl (by decide +kernel) ⟨Nat.le_of_ble_eq_true rfl, Nat.le_of_ble_eq_true rfl⟩) (z_preV (i := 12) hK hW rfl rfl) rfl rfl hl.1 rfl (lv_room (Nat.le_of_ble_eq_true rfl)) dX9_sum_43 ⟨Nat.le_of_ble_eq_true rfl, Nat.le_of_ble_eq_true rfl⟩) (fun u1 H locs hp hW hS => ?_)
            obtain ⟨I17, e9, hI17R, hI17T, fI17⟩ := hp
            rw [e9] at hW
            have f18 := z_fr_sub (L := L_X9_sum_0) lp5fr fI17 (by decide)
            have k19 : (I17 12 6).toInt ≤ 501 ∧ ((I17 12 7).toInt = 401 ∨ (I17 12 6).toInt ≤ 500) := hI17T
            refine lv_aload_n hx hb dX9_sum_46 rfl (lv_at hl 2 rfl) ?_
            refine lv_iload_n hx hb dX9_sum_47 rfl (lv_at hl 3 rfl) ?_
            refine z_ci hW hS hA (va_runV (As := [.int 0]) (rest := []) ⟨hx, hb, hml, hown, hts⟩ (sx_X9_product_0 l G ad c I17 ⟨(by show 0 ≤ (I17 12 1).toInt ∧ (I17 12 1).toInt ≤ 500; exact hI17R.1), (by show 0 ≤ (I17 12 5).toInt ∧ (I17 12 5).toInt ≤ 501; exact hI17R.2.1), (by show (-1) ≤ (I17 12 6).toInt ∧ (I17 12 6).toInt ≤ 1000000; exact hI17R.2.2.1), (by show 0 ≤ (I17 12 9).toInt ∧ (I17 12 9).toInt ≤ 500; exact hI17R.2.2.2.1), (by show 0 ≤ (I17 12 13).toInt ∧ (I17 12 13).toInt ≤ 24; exact hI17R.2.2.2.2)⟩ (by show (I17 12 6).toInt ≤ 501 ∧ ((I17 12 7).toInt = 401 ∨ (I17 12 6).toInt ≤ 500); first | omega | decide) _) (cwV 1 hts gX9_sum_X9_product rfl rfl rfl (by decide +kernel) ⟨Nat.le_of_ble_eq_true rfl, Nat.le_of_ble_eq_true rfl⟩) (z_preV (i := 12) hK hW rfl rfl) rfl rfl hl.1 rfl (lv_room (Nat.le_of_ble_eq_true rfl)) dX9_sum_48 ⟨Nat.le_of_ble_eq_true rfl, Nat.le_of_ble_eq_true rfl⟩) (fun r u1 H locs hp hW hS => ?_)
            obtain ⟨I20, e9, hI20R, hI20T, fI20, hp⟩ := hp
            rw [e9] at hW
            have f21 := z_fr_sub (L := L_X9_sum_0) f18 fI20 (by decide)
            have k22 : (I20 12 6).toInt ≤ 501 ∧ ((I20 12 7).toInt = 401 ∨ (I20 12 6).toInt ≤ 500) := hI20T
            rcases hp with rfl | rfl
            · refine lv_if_ne (tgt := 56) hx hb dX9_sum_51 (by decide) (fun c23 => ?_) (fun c23 => absurd c23 (by decide))
              refine lv_aload_n hx hb dX9_sum_56 rfl (lv_at hl 2 rfl) ?_
              refine lv_iload_n hx hb dX9_sum_57 rfl (lv_at hl 0 rfl) ?_
              refine lv_bipush (v := 43) hx hb dX9_sum_58 (by decide) ?_
              refine lv_icmp_ne (tgt := 67) hx hb dX9_sum_60 (by decide) (fun c24 => (by have g := z_f_ne rfl z_l43 c24; omega)) (fun c24 => ?_)
              have g25 := z_f_eq rfl z_l43 c24
              refine lv_iconst (v := (-1)) hx hb dX9_sum_63 (by decide) ?_
              refine lv_goto (tgt := 69) hx hb dX9_sum_64 (by decide) ?_
              refine z_cv hW hS hA (va_runV (As := [.int (-1)]) (rest := []) ⟨hx, hb, hml, hown, hts⟩ (sx_X9_emit l G ad c I20 ⟨(by show 0 ≤ (I20 12 1).toInt ∧ (I20 12 1).toInt ≤ 500; exact hI20R.1), (by show 0 ≤ (I20 12 5).toInt ∧ (I20 12 5).toInt ≤ 501; exact hI20R.2.1), (by show (-1) ≤ (I20 12 6).toInt ∧ (I20 12 6).toInt ≤ 1000000; exact hI20R.2.2.1), (by show 0 ≤ (I20 12 9).toInt ∧ (I20 12 9).toInt ≤ 500; exact hI20R.2.2.2.1), (by show 0 ≤ (I20 12 13).toInt ∧ (I20 12 13).toInt ≤ 24; exact hI20R.2.2.2.2)⟩ (-1) _) (cwV 1 hts gX9_sum_X9_emit rfl rfl rfl (by decide +kernel) ⟨Nat.le_of_ble_eq_true rfl, Nat.le_of_ble_eq_true rfl⟩) (z_preV (i := 12) hK hW rfl rfl) rfl rfl hl.1 rfl (lv_room (Nat.le_of_ble_eq_true rfl)) dX9_sum_69 ⟨Nat.le_of_ble_eq_true rfl, Nat.le_of_ble_eq_true rfl⟩) (fun u1 H locs hp hW hS => ?_)
              obtain ⟨I26, e9, hI26R, fI26⟩ := hp
              rw [e9] at hW
              have f27 := z_fr_sub (L := L_X9_sum_0) f21 fI26 (by decide)
              have k28 : (I26 12 6).toInt ≤ 501 ∧ ((I26 12 7).toInt = 401 ∨ (I26 12 6).toInt ≤ 500) := (by have q0 : (I26 12 6) = (I20 12 6) := (by rw [fI26 12 6 (by decide)]); have q1 : (I26 12 7) = (I20 12 7) := (by rw [fI26 12 7 (by decide)]); show (I26 12 6).toInt ≤ 501 ∧ ((I26 12 7).toInt = 401 ∨ (I26 12 6).toInt ≤ 500); rw [q0, q1]; first | omega | decide)
              obtain ⟨x29, ex29⟩ : ∃ y : Int32, y = y6 + 1 := ⟨_, rfl⟩
              have tx29 : x29.toInt = y6.toInt + 1 := z_tadd ex29 rfl z_l1 (by omega) (by omega)
              refine lv_iinc (v := x29) (lv' := [(2, .int x29), (3, .int (I7 12 7)), (0, .ref (ad 12)), (1, .int 0)]) hx hb dX9_sum_72 hl (k := 1) rfl (by rw [ex29]; rfl) (by decide) rfl (fun ls hl => ?_)
              refine lv_goto (tgt := 12) hx hb dX9_sum_75 (by decide) ?_
              exact lp5ih x29 I26  _ _ _ (by omega) (by omega) ⟨(by show 0 ≤ (I26 12 1).toInt ∧ (I26 12 1).toInt ≤ 500; exact hI26R.1), (by show 0 ≤ (I26 12 5).toInt ∧ (I26 12 5).toInt ≤ 501; exact hI26R.2.1), (by show (-1) ≤ (I26 12 6).toInt ∧ (I26 12 6).toInt ≤ 1000000; exact hI26R.2.2.1), (by show 0 ≤ (I26 12 9).toInt ∧ (I26 12 9).toInt ≤ 500; exact hI26R.2.2.2.1), (by show 0 ≤ (I26 12 13).toInt ∧ (I26 12 13).toInt ≤ 24; exact hI26R.2.2.2.2)⟩ (by show (I26 12 6).toInt ≤ 501 ∧ ((I26 12 7).toInt = 401 ∨ (I26 12 6).toInt ≤ 500); first | omega | decide) f27 hW hS (lv_sub hl [0, 2, 3] rfl)
            · refine lv_if_ne (tgt := 56) hx hb dX9_sum_51 (by decide) (fun c30 => absurd (by decide) c30) (fun c30 => ?_)
              refine lv_iconst (v := 0) hx hb dX9_sum_54 (by decide) ?_
              exact z_zret hx hb hr (by decide) hK hS (Nat.le_of_ble_eq_true rfl) (Nat.le_of_ble_eq_true rfl) hlocks dX9_sum_55 (shC c, ad, I20, JX, PC c ad) hW ⟨I20, rfl, ⟨(by show 0 ≤ (I20 12 1).toInt ∧ (I20 12 1).toInt ≤ 500; exact hI20R.1), (by show 0 ≤ (I20 12 5).toInt ∧ (I20 12 5).toInt ≤ 501; exact hI20R.2.1), (by show (-1) ≤ (I20 12 6).toInt ∧ (I20 12 6).toInt ≤ 1000000; exact hI20R.2.2.1), (by show 0 ≤ (I20 12 9).toInt ∧ (I20 12 9).toInt ≤ 500; exact hI20R.2.2.2.1), (by show 0 ≤ (I20 12 13).toInt ∧ (I20 12 13).toInt ≤ 24; exact hI20R.2.2.2.2)⟩, (by show (I20 12 6).toInt ≤ 501 ∧ ((I20 12 7).toInt = 401 ∨ (I20 12 6).toInt ≤ 500); first | omega | decide), f21, Or.inr rfl⟩
          · have g31 := z_f_ne rfl z_l43 c14
            have b32 := Int32.toInt_lt (I7 12 7)
            refine lv_aload_n hx hb dX9_sum_28 rfl (lv_at hl 1 rfl) ?_
            refine z_get (T := TX9) (N := 14) (ci := 9) (i := 12) (v := .int (I7 12 7)) hx hb hts zj_X9_sum_X9 hown hK hW rfl rfl 7 (by decide) (hts (.fieldLink RX9 62 "PetrolBoard$Reader" "token" "I") (List.mem_of_getElem? (i := 1) rfl)) (fun _ h => h) rfl dX9_sum_29 ?_
            refine lv_bipush (v := 45) hx hb dX9_sum_32 (by decide) ?_
            refine lv_icmp_ne (tgt := 78) hx hb dX9_sum_34 (by decide) (fun c33 => ?_) (fun c33 => ?_)
            · have g34 := z_f_ne rfl z_l45 c33
              refine lv_iconst (v := 1) hx hb dX9_sum_78 (by decide) ?_
              exact z_zret hx hb hr (by decide) hK hS (Nat.le_of_ble_eq_true rfl) (Nat.le_of_ble_eq_true rfl) hlocks dX9_sum_79 (shC c, ad, I7, JX, PC c ad) hW ⟨I7, rfl, ⟨(by show 0 ≤ (I7 12 1).toInt ∧ (I7 12 1).toInt ≤ 500; exact lp5R.1), (by show 0 ≤ (I7 12 5).toInt ∧ (I7 12 5).toInt ≤ 501; exact lp5R.2.1), (by show (-1) ≤ (I7 12 6).toInt ∧ (I7 12 6).toInt ≤ 1000000; exact lp5R.2.2.1), (by show 0 ≤ (I7 12 9).toInt ∧ (I7 12 9).toInt ≤ 500; exact lp5R.2.2.2.1), (by show 0 ≤ (I7 12 13).toInt ∧ (I7 12 13).toInt ≤ 24; exact lp5R.2.2.2.2)⟩, (by show (I7 12 6).toInt ≤ 501 ∧ ((I7 12 7).toInt = 401 ∨ (I7 12 6).toInt ≤ 500); first | omega | decide), lp5fr, Or.inl rfl⟩
            · have g35 := z_f_eq rfl z_l45 c33
              refine lv_aload_n hx hb dX9_sum_37 rfl (lv_at hl 1 rfl) ?_
              refine z_get (T := TX9) (N := 14) (ci := 9) (i := 12) (v := .int (I7 12 7)) hx hb hts zj_X9_sum_X9 hown hK hW rfl rfl 7 (by decide) (hts (.fieldLink RX9 62 "PetrolBoard$Reader" "token" "I") (List.mem_of_getElem? (i := 1) rfl)) (fun _ h => h) rfl dX9_sum_38 ?_
              refine lv_istore_n (lv' := [(3, .int (I7 12 7)), (2, .int y6), (0, .ref (ad 12)), (1, .int 0)]) hx hb dX9_sum_41 rfl hl (by decide) rfl (fun ls hl => ?_)
              refine lv_aload_n hx hb dX9_sum_42 rfl (lv_at hl 2 rfl) ?_
              refine z_cv hW hS hA (va_runV (As := []) (rest := []) ⟨hx, hb, hml, hown, hts⟩ (sx_X9_step l G ad c I7 ⟨(by show 0 ≤ (I7 12 1).toInt ∧ (I7 12 1).toInt ≤ 500; exact lp5R.1), (by show 0 ≤ (I7 12 5).toInt ∧ (I7 12 5).toInt ≤ 501; exact lp5R.2.1), (by show (-1) ≤ (I7 12 6).toInt ∧ (I7 12 6).toInt ≤ 1000000; exact lp5R.2.2.1), (by show 0 ≤ (I7 12 9).toInt ∧ (I7 12 9).toInt ≤ 500; exact lp5R.2.2.2.1), (by show 0 ≤ (I7 12 13).toInt ∧ (I7 12 13).toInt ≤ 24; exact lp5R.2.2.2.2)⟩   (by show (I7 12 6).toInt ≤ 500; first | omega | decide) _) (cwV 0 hts gX9_sum_X9_step rfl rfl rfl (by decide +kernel) ⟨Nat.le_of_ble_eq_true rfl, Nat.le_of_ble_eq_true rfl⟩) (z_preV (i := 12) hK hW rfl rfl) rfl rfl hl.1 rfl (lv_room (Nat.le_of_ble_eq_true rfl)) dX9_sum_43 ⟨Nat.le_of_ble_eq_true rfl, Nat.le_of_ble_eq_true rfl⟩) (fun u1 H locs hp hW hS => ?_)
              obtain ⟨I36, e9, hI36R, hI36T, fI36⟩ := hp
              rw [e9] at hW
              have f37 := z_fr_sub (L := L_X9_sum_0) lp5fr fI36 (by decide)
              have k38 : (I36 12 6).toInt ≤ 501 ∧ ((I36 12 7).toInt = 401 ∨ (I36 12 6).toInt ≤ 500) := hI36T
              refine lv_aload_n hx hb dX9_sum_46 rfl (lv_at hl 2 rfl) ?_
              refine lv_iload_n hx hb dX9_sum_47 rfl (lv_at hl 3 rfl) ?_
              refine z_ci hW hS hA (va_runV (As := [.int 0]) (rest := []) ⟨hx, hb, hml, hown, hts⟩ (sx_X9_product_0 l G ad c I36 ⟨(by show 0 ≤ (I36 12 1).toInt ∧ (I36 12 1).toInt ≤ 500; exact hI36R.1), (by show 0 ≤ (I36 12 5).toInt ∧ (I36 12 5).toInt ≤ 501; exact hI36R.2.1), (by show (-1) ≤ (I36 12 6).toInt ∧ (I36 12 6).toInt ≤ 1000000; exact hI36R.2.2.1), (by show 0 ≤ (I36 12 9).toInt ∧ (I36 12 9).toInt ≤ 500; exact hI36R.2.2.2.1), (by show 0 ≤ (I36 12 13).toInt ∧ (I36 12 13).toInt ≤ 24; exact hI36R.2.2.2.2)⟩ (by show (I36 12 6).toInt ≤ 501 ∧ ((I36 12 7).toInt = 401 ∨ (I36 12 6).toInt ≤ 500); first | omega | decide) _) (cwV 1 hts gX9_sum_X9_product rfl rfl rfl (by decide +kernel) ⟨Nat.le_of_ble_eq_true rfl, Nat.le_of_ble_eq_true rfl⟩) (z_preV (i := 12) hK hW rfl rfl) rfl rfl hl.1 rfl (lv_room (Nat.le_of_ble_eq_true rfl)) dX9_sum_48 ⟨Nat.le_of_ble_eq_true rfl, Nat.le_of_ble_eq_true rfl⟩) (fun r u1 H locs hp hW hS => ?_)
              obtain ⟨I39, e9, hI39R, hI39T, fI39, hp⟩ := hp
              rw [e9] at hW
              have f40 := z_fr_sub (L := L_X9_sum_0) f37 fI39 (by decide)
              have k41 : (I39 12 6).toInt ≤ 501 ∧ ((I39 12 7).toInt = 401 ∨ (I39 12 6).toInt ≤ 500) := hI39T
              rcases hp with rfl | rfl
              · refine lv_if_ne (tgt := 56) hx hb dX9_sum_51 (by decide) (fun c42 => ?_) (fun c42 => absurd c42 (by decide))
                refine lv_aload_n hx hb dX9_sum_56 rfl (lv_at hl 2 rfl) ?_
                refine lv_iload_n hx hb dX9_sum_57 rfl (lv_at hl 0 rfl) ?_
                refine lv_bipush (v := 43) hx hb dX9_sum_58 (by decide) ?_
                refine lv_icmp_ne (tgt := 67) hx hb dX9_sum_60 (by decide) (fun c43 => ?_) (fun c43 => (by have g := z_f_eq rfl z_l43 c43; omega))
                have g44 := z_f_ne rfl z_l43 c43
                refine lv_bipush (v := (-2)) hx hb dX9_sum_67 (by decide) ?_
                refine z_cv hW hS hA (va_runV (As := [.int (-2)]) (rest := []) ⟨hx, hb, hml, hown, hts⟩ (sx_X9_emit l G ad c I39 ⟨(by show 0 ≤ (I39 12 1).toInt ∧ (I39 12 1).toInt ≤ 500; exact hI39R.1), (by show 0 ≤ (I39 12 5).toInt ∧ (I39 12 5).toInt ≤ 501; exact hI39R.2.1), (by show (-1) ≤ (I39 12 6).toInt ∧ (I39 12 6).toInt ≤ 1000000; exact hI39R.2.2.1), (by show 0 ≤ (I39 12 9).toInt ∧ (I39 12 9).toInt ≤ 500; exact hI39R.2.2.2.1), (by show 0 ≤ (I39 12 13).toInt ∧ (I39 12 13).toInt ≤ 24; exact hI39R.2.2.2.2)⟩ (-2) _) (cwV 1 hts gX9_sum_X9_emit rfl rfl rfl (by decide +kernel) ⟨Nat.le_of_ble_eq_true rfl, Nat.le_of_ble_eq_true rfl⟩) (z_preV (i := 12) hK hW rfl rfl) rfl rfl hl.1 rfl (lv_room (Nat.le_of_ble_eq_true rfl)) dX9_sum_69 ⟨Nat.le_of_ble_eq_true rfl, Nat.le_of_ble_eq_true rfl⟩) (fun u1 H locs hp hW hS => ?_)
                obtain ⟨I45, e9, hI45R, fI45⟩ := hp
                rw [e9] at hW
                have f46 := z_fr_sub (L := L_X9_sum_0) f40 fI45 (by decide)
                have k47 : (I45 12 6).toInt ≤ 501 ∧ ((I45 12 7).toInt = 401 ∨ (I45 12 6).toInt ≤ 500) := (by have q0 : (I45 12 6) = (I39 12 6) := (by rw [fI45 12 6 (by decide)]); have q1 : (I45 12 7) = (I39 12 7) := (by rw [fI45 12 7 (by decide)]); show (I45 12 6).toInt ≤ 501 ∧ ((I45 12 7).toInt = 401 ∨ (I45 12 6).toInt ≤ 500); rw [q0, q1]; first | omega | decide)
                obtain ⟨x48, ex48⟩ : ∃ y : Int32, y = y6 + 1 := ⟨_, rfl⟩
                have tx48 : x48.toInt = y6.toInt + 1 := z_tadd ex48 rfl z_l1 (by omega) (by omega)
                refine lv_iinc (v := x48) (lv' := [(2, .int x48), (3, .int (I7 12 7)), (0, .ref (ad 12)), (1, .int 0)]) hx hb dX9_sum_72 hl (k := 1) rfl (by rw [ex48]; rfl) (by decide) rfl (fun ls hl => ?_)
                refine lv_goto (tgt := 12) hx hb dX9_sum_75 (by decide) ?_
                exact lp5ih x48 I45  _ _ _ (by omega) (by omega) ⟨(by show 0 ≤ (I45 12 1).toInt ∧ (I45 12 1).toInt ≤ 500; exact hI45R.1), (by show 0 ≤ (I45 12 5).toInt ∧ (I45 12 5).toInt ≤ 501; exact hI45R.2.1), (by show (-1) ≤ (I45 12 6).toInt ∧ (I45 12 6).toInt ≤ 1000000; exact hI45R.2.2.1), (by show 0 ≤ (I45 12 9).toInt ∧ (I45 12 9).toInt ≤ 500; exact hI45R.2.2.2.1), (by show 0 ≤ (I45 12 13).toInt ∧ (I45 12 13).toInt ≤ 24; exact hI45R.2.2.2.2)⟩ (by show (I45 12 6).toInt ≤ 501 ∧ ((I45 12 7).toInt = 401 ∨ (I45 12 6).toInt ≤ 500); first | omega | decide) f46 hW hS (lv_sub hl [0, 2, 3] rfl)
              · refine lv_if_ne (tgt := 56) hx hb dX9_sum_51 (by decide) (fun c49 => absurd (by decide) c49) (fun c49 => ?_)
                refine lv_iconst (v := 0) hx hb dX9_sum_54 (by decide) ?_
                exact z_zret hx hb hr (by decide) hK hS (Nat.le_of_ble_eq_true rfl) (Nat.le_of_ble_eq_true rfl) hlocks dX9_sum_55 (shC c, ad, I39, JX, PC c ad) hW ⟨I39, rfl, ⟨(by show 0 ≤ (I39 12 1).toInt ∧ (I39 12 1).toInt ≤ 500; exact hI39R.1), (by show 0 ≤ (I39 12 5).toInt ∧ (I39 12 5).toInt ≤ 501; exact hI39R.2.1), (by show (-1) ≤ (I39 12 6).toInt ∧ (I39 12 6).toInt ≤ 1000000; exact hI39R.2.2.1), (by show 0 ≤ (I39 12 9).toInt ∧ (I39 12 9).toInt ≤ 500; exact hI39R.2.2.2.1), (by show 0 ≤ (I39 12 13).toInt ∧ (I39 12 13).toInt ≤ 24; exact hI39R.2.2.2.2)⟩, (by show (I39 12 6).toInt ≤ 501 ∧ ((I39 12 7).toInt = 401 ∨ (I39 12 6).toInt ≤ 500); first | omega | decide), f40, Or.inr rfl⟩
    exact lp5 4294967296 (0) I1  _ _ _ (z_m0u _) (by rw [z_l0]; omega) ⟨(by show 0 ≤ (I1 12 1).toInt ∧ (I1 12 1).toInt ≤ 500; exact hI1R.1), (by show 0 ≤ (I1 12 5).toInt ∧ (I1 12 5).toInt ≤ 501; exact hI1R.2.1), (by show (-1) ≤ (I1 12 6).toInt ∧ (I1 12 6).toInt ≤ 1000000; exact hI1R.2.2.1), (by show 0 ≤ (I1 12 9).toInt ∧ (I1 12 9).toInt ≤ 500; exact hI1R.2.2.2.1), (by show 0 ≤ (I1 12 13).toInt ∧ (I1 12 13).toInt ≤ 24; exact hI1R.2.2.2.2)⟩ (by show (I1 12 6).toInt ≤ 501 ∧ ((I1 12 7).toInt = 401 ∨ (I1 12 6).toInt ≤ 500); first | omega | decide) f2 hW hS (lv_sub hl [0, 1, 2] rfl)
  · refine lv_if_ne (tgt := 10) hx hb dX9_sum_5 (by decide) (fun c50 => absurd (by decide) c50) (fun c50 => ?_)
    refine lv_iconst (v := 0) hx hb dX9_sum_8 (by decide) ?_
    exact z_zret hx hb hr (by decide) hK hS (Nat.le_of_ble_eq_true rfl) (Nat.le_of_ble_eq_true rfl) hlocks dX9_sum_9 (shC c, ad, I1, JX, PC c ad) hW ⟨I1, rfl, ⟨(by show 0 ≤ (I1 12 1).toInt ∧ (I1 12 1).toInt ≤ 500; exact hI1R.1), (by show 0 ≤ (I1 12 5).toInt ∧ (I1 12 5).toInt ≤ 501; exact hI1R.2.1), (by show (-1) ≤ (I1 12 6).toInt ∧ (I1 12 6).toInt ≤ 1000000; exact hI1R.2.2.1), (by show 0 ≤ (I1 12 9).toInt ∧ (I1 12 9).toInt ≤ 500; exact hI1R.2.2.2.1), (by show 0 ≤ (I1 12 13).toInt ∧ (I1 12 13).toInt ≤ 24; exact hI1R.2.2.2.2)⟩, (by show (I1 12 6).toInt ≤ 501 ∧ ((I1 12 7).toInt = 401 ∨ (I1 12 6).toInt ≤ 500); first | omega | decide), f2, Or.inr rfl⟩
def L_X9_opened_0 : z_L := [(12, 6), (12, 7), (17, 999), (12, 9)]
set_option maxHeartbeats 8000000 in
set_option maxRecDepth 100000 in
theorem sx_X9_opened_0 (l : Launch) (G : z_G) (ad : Nat → Nat) (c : z_C) (I : z_I) (hR : z_iR I) (hT : z_iT I) : z_M l yX9_opened wsX9_opened { frames := 41, cells := 0, slots := 0, locals := 891 } [.ref (ad 12), .int 0] G (shC c, ad, I, JX, PC c ad) (fun r u1 => ∃ I1 : z_I, u1 = (shC c, ad, I1, JX, PC c ad) ∧ z_iR I1 ∧ z_iT I1 ∧ z_fr L_X9_opened_0 I1 I ∧ (r = 1 ∨ r = 0)) 0 0 := by
  intro sz
  refine z_headQ (cc := cX9_opened) (maxL := 3) (ret := (some .boolean)) (by decide) rfl (Nat.le_of_ble_eq_true rfl) ?_
  intro p e s m below meth c0 ls hIn hK hsz hW hl
  obtain ⟨hx, hb, hr, hml, hown, hts, hlocks, hname⟩ := hIn
  subst hsz
  have hown : s.vm.findClass RX9 = some m.cls := hown
  have hA : ∀ q : Nat, s.heap.size ≤ q → z_A (shC c, ad, I, JX, PC c ad) s.heap.size q := fun q h => Or.inr h
  generalize hAe : z_A (shC c, ad, I, JX, PC c ad) s.heap.size = A at *
  have hS : va_S A s.heap s.heap [] := va_S.rf
  have hl : lv_has ls 3 [(0, .ref (ad 12)), (1, .int 0)] := hl
  have kT : (I 12 6).toInt ≤ 501 ∧ ((I 12 7).toInt = 401 ∨ (I 12 6).toInt ≤ 500) := hT
  refine lv_iload_n hx hb dX9_opened_0 rfl (lv_at hl 1 rfl) ?_
  refine lv_bipush (v := 9) hx hb dX9_opened_1 (by decide) ?_
  refine lv_icmp_lt (tgt := 8) hx hb dX9_opened_3 (by decide) (fun c1 => ?_) (fun c1 => absurd (by decide) c1)
  refine lv_aload_n hx hb dX9_opened_8 rfl (lv_at hl 0 rfl) ?_
  refine z_get (T := TX9) (N := 14) (ci := 9) (i := 12) (v := .int (I 12 7)) hx hb hts zj_X9_opened_X9 hown hK hW rfl rfl 7 (by decide) (hts (.fieldLink RX9 62 "PetrolBoard$Reader" "token" "I") (List.mem_of_getElem? (i := 1) rfl)) (fun _ h => h) rfl dX9_opened_9 ?_
  refine lv_sipush (v := 311) hx hb dX9_opened_12 (by decide) ?_
  refine lv_icmp_ne (tgt := 22) hx hb dX9_opened_15 (by decide) (fun c2 => ?_) (fun c2 => ?_)
  · have g3 := z_f_ne rfl z_l311 c2
    have b4 := Int32.toInt_lt (I 12 7)
    refine lv_iconst (v := 0) hx hb dX9_opened_22 (by decide) ?_
    refine lv_istore_n (lv' := [(2, .int 0), (0, .ref (ad 12)), (1, .int 0)]) hx hb dX9_opened_23 rfl hl (by decide) rfl (fun ls hl => ?_)
    refine lv_aload_n hx hb dX9_opened_24 rfl (lv_at hl 1 rfl) ?_
    refine z_cv hW hS hA (va_runV (As := []) (rest := []) ⟨hx, hb, hml, hown, hts⟩ (sx_X9_step l G ad c I ⟨(by show 0 ≤ (I 12 1).toInt ∧ (I 12 1).toInt ≤ 500; exact hR.1), (by show 0 ≤ (I 12 5).toInt ∧ (I 12 5).toInt ≤ 501; exact hR.2.1), (by show (-1) ≤ (I 12 6).toInt ∧ (I 12 6).toInt ≤ 1000000; exact hR.2.2.1), (by show 0 ≤ (I 12 9).toInt ∧ (I 12 9).toInt ≤ 500; exact hR.2.2.2.1), (by show 0 ≤ (I 12 13).toInt ∧ (I 12 13).toInt ≤ 24; exact hR.2.2.2.2)⟩   (by show (I 12 6).toInt ≤ 500; first | omega | decide) _) (cwV 0 hts gX9_opened_X9_step rfl rfl rfl (by decide +kernel) ⟨Nat.le_of_ble_eq_true rfl, Nat.le_of_ble_eq_true rfl⟩) (z_preV (i := 12) hK hW rfl rfl) rfl rfl hl.1 rfl (lv_room (Nat.le_of_ble_eq_true rfl)) dX9_opened_25 ⟨Nat.le_of_ble_eq_true rfl, Nat.le_of_ble_eq_true rfl⟩) (fun u1 H locs hp hW hS => ?_)
    obtain ⟨I5, e9, hI5R, hI5T, fI5⟩ := hp
    rw [e9] at hW
    have f6 := z_fr_sub (L := L_X9_opened_0) z_fr_0 fI5 (by decide)
    have k7 : (I5 12 6).toInt ≤ 501 ∧ ((I5 12 7).toInt = 401 ∨ (I5 12 6).toInt ≤ 500) := hI5T
    refine lv_iload_n hx hb dX9_opened_28 rfl (lv_at hl 0 rfl) ?_
    refine lv_if_ne (tgt := 57) hx hb dX9_opened_29 (by decide) (fun c8 => absurd (by decide) c8) (fun c8 => ?_)
    refine lv_aload_n hx hb dX9_opened_32 rfl (lv_at hl 1 rfl) ?_
    refine lv_iload_n hx hb dX9_opened_33 rfl (lv_at hl 2 rfl) ?_
    refine lv_iconst (v := 1) hx hb dX9_opened_34 (by decide) ?_
    refine lv_iadd hx hb dX9_opened_35 ?_
    refine z_topi (v := 1) (by decide) ?_
    refine z_ci hW hS hA (va_runV (As := [.int 1]) (rest := []) ⟨hx, hb, hml, hown, hts⟩ (sx_X9_either_1 l G ad c I5 ⟨(by show 0 ≤ (I5 12 1).toInt ∧ (I5 12 1).toInt ≤ 500; exact hI5R.1), (by show 0 ≤ (I5 12 5).toInt ∧ (I5 12 5).toInt ≤ 501; exact hI5R.2.1), (by show (-1) ≤ (I5 12 6).toInt ∧ (I5 12 6).toInt ≤ 1000000; exact hI5R.2.2.1), (by show 0 ≤ (I5 12 9).toInt ∧ (I5 12 9).toInt ≤ 500; exact hI5R.2.2.2.1), (by show 0 ≤ (I5 12 13).toInt ∧ (I5 12 13).toInt ≤ 24; exact hI5R.2.2.2.2)⟩ (by show (I5 12 6).toInt ≤ 501 ∧ ((I5 12 7).toInt = 401 ∨ (I5 12 6).toInt ≤ 500); first | omega | decide) _) (cwV 1 hts gX9_opened_X9_either rfl rfl rfl (by decide +kernel) ⟨Nat.le_of_ble_eq_true rfl, Nat.le_of_ble_eq_true rfl⟩) (z_preV (i := 12) hK hW rfl rfl) rfl rfl hl.1 rfl (lv_room (Nat.le_of_ble_eq_true rfl)) dX9_opened_36 ⟨Nat.le_of_ble_eq_true rfl, Nat.le_of_ble_eq_true rfl⟩) (fun r u1 H locs hp hW hS => ?_)
    obtain ⟨I9, e9, hI9R, hI9T, fI9, hp⟩ := hp
    rw [e9] at hW
    have f10 := z_fr_sub (L := L_X9_opened_0) f6 fI9 (by decide)
    have k11 : (I9 12 6).toInt ≤ 501 ∧ ((I9 12 7).toInt = 401 ∨ (I9 12 6).toInt ≤ 500) := hI9T
    rcases hp with rfl | rfl
    · refine lv_if_eq (tgt := 55) hx hb dX9_opened_39 (by decide) (fun c12 => absurd c12 (by decide)) (fun c12 => ?_)
      refine lv_aload_n hx hb dX9_opened_42 rfl (lv_at hl 1 rfl) ?_
      refine lv_bipush (v := 125) hx hb dX9_opened_43 (by decide) ?_
      refine z_ci hW hS hA (va_runV (As := [.int 125]) (rest := []) ⟨hx, hb, hml, hown, hts⟩ (sx_X9_taken l G ad c I9 ⟨(by show 0 ≤ (I9 12 1).toInt ∧ (I9 12 1).toInt ≤ 500; exact hI9R.1), (by show 0 ≤ (I9 12 5).toInt ∧ (I9 12 5).toInt ≤ 501; exact hI9R.2.1), (by show (-1) ≤ (I9 12 6).toInt ∧ (I9 12 6).toInt ≤ 1000000; exact hI9R.2.2.1), (by show 0 ≤ (I9 12 9).toInt ∧ (I9 12 9).toInt ≤ 500; exact hI9R.2.2.2.1), (by show 0 ≤ (I9 12 13).toInt ∧ (I9 12 13).toInt ≤ 24; exact hI9R.2.2.2.2)⟩ (by show (I9 12 6).toInt ≤ 501 ∧ ((I9 12 7).toInt = 401 ∨ (I9 12 6).toInt ≤ 500); first | omega | decide) 125 (by first | omega | decide) _) (cwV 1 hts gX9_opened_X9_taken rfl rfl rfl (by decide +kernel) ⟨Nat.le_of_ble_eq_true rfl, Nat.le_of_ble_eq_true rfl⟩) (z_preV (i := 12) hK hW rfl rfl) rfl rfl hl.1 rfl (lv_room (Nat.le_of_ble_eq_true rfl)) dX9_opened_45 ⟨Nat.le_of_ble_eq_true rfl, Nat.le_of_ble_eq_true rfl⟩) (fun r u1 H locs hp hW hS => ?_)
      obtain ⟨I13, e9, hI13R, hI13T, fI13, hp⟩ := hp
      rw [e9] at hW
      have f14 := z_fr_sub (L := L_X9_opened_0) f10 fI13 (by decide)
      have k15 : (I13 12 6).toInt ≤ 501 ∧ ((I13 12 7).toInt = 401 ∨ (I13 12 6).toInt ≤ 500) := hI13T
      rcases hp with rfl | rfl
      · refine lv_if_eq (tgt := 55) hx hb dX9_opened_48 (by decide) (fun c16 => absurd c16 (by decide)) (fun c16 => ?_)
        refine lv_iconst (v := 1) hx hb dX9_opened_51 (by decide) ?_
        refine lv_goto (tgt := 56) hx hb dX9_opened_52 (by decide) ?_
        exact z_zret hx hb hr (by decide) hK hS (Nat.le_of_ble_eq_true rfl) (Nat.le_of_ble_eq_true rfl) hlocks dX9_opened_56 (shC c, ad, I13, JX, PC c ad) hW ⟨I13, rfl, ⟨(by show 0 ≤ (I13 12 1).toInt ∧ (I13 12 1).toInt ≤ 500; exact hI13R.1), (by show 0 ≤ (I13 12 5).toInt ∧ (I13 12 5).toInt ≤ 501; exact hI13R.2.1), (by show (-1) ≤ (I13 12 6).toInt ∧ (I13 12 6).toInt ≤ 1000000; exact hI13R.2.2.1), (by show 0 ≤ (I13 12 9).toInt ∧ (I13 12 9).toInt ≤ 500; exact hI13R.2.2.2.1), (by show 0 ≤ (I13 12 13).toInt ∧ (I13 12 13).toInt ≤ 24; exact hI13R.2.2.2.2)⟩, (by show (I13 12 6).toInt ≤ 501 ∧ ((I13 12 7).toInt = 401 ∨ (I13 12 6).toInt ≤ 500); first | omega | decide), f14, Or.inl rfl⟩
      · refine lv_if_eq (tgt := 55) hx hb dX9_opened_48 (by decide) (fun c17 => ?_) (fun c17 => absurd (by decide) c17)
        refine lv_iconst (v := 0) hx hb dX9_opened_55 (by decide) ?_
        exact z_zret hx hb hr (by decide) hK hS (Nat.le_of_ble_eq_true rfl) (Nat.le_of_ble_eq_true rfl) hlocks dX9_opened_56 (shC c, ad, I13, JX, PC c ad) hW ⟨I13, rfl, ⟨(by show 0 ≤ (I13 12 1).toInt ∧ (I13 12 1).toInt ≤ 500; exact hI13R.1), (by show 0 ≤ (I13 12 5).toInt ∧ (I13 12 5).toInt ≤ 501; exact hI13R.2.1), (by show (-1) ≤ (I13 12 6).toInt ∧ (I13 12 6).toInt ≤ 1000000; exact hI13R.2.2.1), (by show 0 ≤ (I13 12 9).toInt ∧ (I13 12 9).toInt ≤ 500; exact hI13R.2.2.2.1), (by show 0 ≤ (I13 12 13).toInt ∧ (I13 12 13).toInt ≤ 24; exact hI13R.2.2.2.2)⟩, (by show (I13 12 6).toInt ≤ 501 ∧ ((I13 12 7).toInt = 401 ∨ (I13 12 6).toInt ≤ 500); first | omega | decide), f14, Or.inr rfl⟩
    · refine lv_if_eq (tgt := 55) hx hb dX9_opened_39 (by decide) (fun c18 => ?_) (fun c18 => absurd (by decide) c18)
      refine lv_iconst (v := 0) hx hb dX9_opened_55 (by decide) ?_
      exact z_zret hx hb hr (by decide) hK hS (Nat.le_of_ble_eq_true rfl) (Nat.le_of_ble_eq_true rfl) hlocks dX9_opened_56 (shC c, ad, I9, JX, PC c ad) hW ⟨I9, rfl, ⟨(by show 0 ≤ (I9 12 1).toInt ∧ (I9 12 1).toInt ≤ 500; exact hI9R.1), (by show 0 ≤ (I9 12 5).toInt ∧ (I9 12 5).toInt ≤ 501; exact hI9R.2.1), (by show (-1) ≤ (I9 12 6).toInt ∧ (I9 12 6).toInt ≤ 1000000; exact hI9R.2.2.1), (by show 0 ≤ (I9 12 9).toInt ∧ (I9 12 9).toInt ≤ 500; exact hI9R.2.2.2.1), (by show 0 ≤ (I9 12 13).toInt ∧ (I9 12 13).toInt ≤ 24; exact hI9R.2.2.2.2)⟩, (by show (I9 12 6).toInt ≤ 501 ∧ ((I9 12 7).toInt = 401 ∨ (I9 12 6).toInt ≤ 500); first | omega | decide), f10, Or.inr rfl⟩
  · have g19 := z_f_eq rfl z_l311 c2
    have b20 := Int32.toInt_lt (I 12 7)
    refine lv_iconst (v := 1) hx hb dX9_opened_18 (by decide) ?_
    refine lv_goto (tgt := 23) hx hb dX9_opened_19 (by decide) ?_
    refine lv_istore_n (lv' := [(2, .int 1), (0, .ref (ad 12)), (1, .int 0)]) hx hb dX9_opened_23 rfl hl (by decide) rfl (fun ls hl => ?_)
    refine lv_aload_n hx hb dX9_opened_24 rfl (lv_at hl 1 rfl) ?_
    refine z_cv hW hS hA (va_runV (As := []) (rest := []) ⟨hx, hb, hml, hown, hts⟩ (sx_X9_step l G ad c I ⟨(by show 0 ≤ (I 12 1).toInt ∧ (I 12 1).toInt ≤ 500; exact hR.1), (by show 0 ≤ (I 12 5).toInt ∧ (I 12 5).toInt ≤ 501; exact hR.2.1), (by show (-1) ≤ (I 12 6).toInt ∧ (I 12 6).toInt ≤ 1000000; exact hR.2.2.1), (by show 0 ≤ (I 12 9).toInt ∧ (I 12 9).toInt ≤ 500; exact hR.2.2.2.1), (by show 0 ≤ (I 12 13).toInt ∧ (I 12 13).toInt ≤ 24; exact hR.2.2.2.2)⟩   (by show (I 12 6).toInt ≤ 500; first | omega | decide) _) (cwV 0 hts gX9_opened_X9_step rfl rfl rfl (by decide +kernel) ⟨Nat.le_of_ble_eq_true rfl, Nat.le_of_ble_eq_true rfl⟩) (z_preV (i := 12) hK hW rfl rfl) rfl rfl hl.1 rfl (lv_room (Nat.le_of_ble_eq_true rfl)) dX9_opened_25 ⟨Nat.le_of_ble_eq_true rfl, Nat.le_of_ble_eq_true rfl⟩) (fun u1 H locs hp hW hS => ?_)
    obtain ⟨I21, e9, hI21R, hI21T, fI21⟩ := hp
    rw [e9] at hW
    have f22 := z_fr_sub (L := L_X9_opened_0) z_fr_0 fI21 (by decide)
    have k23 : (I21 12 6).toInt ≤ 501 ∧ ((I21 12 7).toInt = 401 ∨ (I21 12 6).toInt ≤ 500) := hI21T
    refine lv_iload_n hx hb dX9_opened_28 rfl (lv_at hl 0 rfl) ?_
    refine lv_if_ne (tgt := 57) hx hb dX9_opened_29 (by decide) (fun c24 => ?_) (fun c24 => absurd c24 (by decide))
    refine lv_aload_n hx hb dX9_opened_57 rfl (lv_at hl 1 rfl) ?_
    refine lv_iload_n hx hb dX9_opened_58 rfl (lv_at hl 2 rfl) ?_
    refine lv_iconst (v := 1) hx hb dX9_opened_59 (by decide) ?_
    refine lv_iadd hx hb dX9_opened_60 ?_
    refine z_topi (v := 1) (by decide) ?_
    refine z_ci hW hS hA (va_runV (As := [.int 1]) (rest := []) ⟨hx, hb, hml, hown, hts⟩ (sx_X9_one_1 l G ad c I21 ⟨(by show 0 ≤ (I21 12 1).toInt ∧ (I21 12 1).toInt ≤ 500; exact hI21R.1), (by show 0 ≤ (I21 12 5).toInt ∧ (I21 12 5).toInt ≤ 501; exact hI21R.2.1), (by show (-1) ≤ (I21 12 6).toInt ∧ (I21 12 6).toInt ≤ 1000000; exact hI21R.2.2.1), (by show 0 ≤ (I21 12 9).toInt ∧ (I21 12 9).toInt ≤ 500; exact hI21R.2.2.2.1), (by show 0 ≤ (I21 12 13).toInt ∧ (I21 12 13).toInt ≤ 24; exact hI21R.2.2.2.2)⟩ (by show (I21 12 6).toInt ≤ 501 ∧ ((I21 12 7).toInt = 401 ∨ (I21 12 6).toInt ≤ 500); first | omega | decide) _) (cwV 1 hts gX9_opened_X9_one rfl rfl rfl (by decide +kernel) ⟨Nat.le_of_ble_eq_true rfl, Nat.le_of_ble_eq_true rfl⟩) (z_preV (i := 12) hK hW rfl rfl) rfl rfl hl.1 rfl (lv_room (Nat.le_of_ble_eq_true rfl)) dX9_opened_61 ⟨Nat.le_of_ble_eq_true rfl, Nat.le_of_ble_eq_true rfl⟩) (fun r u1 H locs hp hW hS => ?_)
    obtain ⟨I25, e9, hI25R, hI25T, fI25, hp⟩ := hp
    rw [e9] at hW
    have f26 := z_fr_sub (L := L_X9_opened_0) f22 fI25 (by decide)
    have k27 : (I25 12 6).toInt ≤ 501 ∧ ((I25 12 7).toInt = 401 ∨ (I25 12 6).toInt ≤ 500) := hI25T
    rcases hp with rfl | rfl
    · refine lv_if_ne (tgt := 69) hx hb dX9_opened_64 (by decide) (fun c28 => ?_) (fun c28 => absurd c28 (by decide))
      refine lv_aload_n hx hb dX9_opened_69 rfl (lv_at hl 1 rfl) ?_
      refine lv_bipush (v := (-12)) hx hb dX9_opened_70 (by decide) ?_
      refine z_cv hW hS hA (va_runV (As := [.int (-12)]) (rest := []) ⟨hx, hb, hml, hown, hts⟩ (sx_X9_emit l G ad c I25 ⟨(by show 0 ≤ (I25 12 1).toInt ∧ (I25 12 1).toInt ≤ 500; exact hI25R.1), (by show 0 ≤ (I25 12 5).toInt ∧ (I25 12 5).toInt ≤ 501; exact hI25R.2.1), (by show (-1) ≤ (I25 12 6).toInt ∧ (I25 12 6).toInt ≤ 1000000; exact hI25R.2.2.1), (by show 0 ≤ (I25 12 9).toInt ∧ (I25 12 9).toInt ≤ 500; exact hI25R.2.2.2.1), (by show 0 ≤ (I25 12 13).toInt ∧ (I25 12 13).toInt ≤ 24; exact hI25R.2.2.2.2)⟩ (-12) _) (cwV 1 hts gX9_opened_X9_emit rfl rfl rfl (by decide +kernel) ⟨Nat.le_of_ble_eq_true rfl, Nat.le_of_ble_eq_true rfl⟩) (z_preV (i := 12) hK hW rfl rfl) rfl rfl hl.1 rfl (lv_room (Nat.le_of_ble_eq_true rfl)) dX9_opened_72 ⟨Nat.le_of_ble_eq_true rfl, Nat.le_of_ble_eq_true rfl⟩) (fun u1 H locs hp hW hS => ?_)
      obtain ⟨I29, e9, hI29R, fI29⟩ := hp
      rw [e9] at hW
      have f30 := z_fr_sub (L := L_X9_opened_0) f26 fI29 (by decide)
      have k31 : (I29 12 6).toInt ≤ 501 ∧ ((I29 12 7).toInt = 401 ∨ (I29 12 6).toInt ≤ 500) := (by have q0 : (I29 12 6) = (I25 12 6) := (by rw [fI29 12 6 (by decide)]); have q1 : (I29 12 7) = (I25 12 7) := (by rw [fI29 12 7 (by decide)]); show (I29 12 6).toInt ≤ 501 ∧ ((I29 12 7).toInt = 401 ∨ (I29 12 6).toInt ≤ 500); rw [q0, q1]; first | omega | decide)
      refine lv_iconst (v := 1) hx hb dX9_opened_75 (by decide) ?_
      exact z_zret hx hb hr (by decide) hK hS (Nat.le_of_ble_eq_true rfl) (Nat.le_of_ble_eq_true rfl) hlocks dX9_opened_76 (shC c, ad, I29, JX, PC c ad) hW ⟨I29, rfl, ⟨(by show 0 ≤ (I29 12 1).toInt ∧ (I29 12 1).toInt ≤ 500; exact hI29R.1), (by show 0 ≤ (I29 12 5).toInt ∧ (I29 12 5).toInt ≤ 501; exact hI29R.2.1), (by show (-1) ≤ (I29 12 6).toInt ∧ (I29 12 6).toInt ≤ 1000000; exact hI29R.2.2.1), (by show 0 ≤ (I29 12 9).toInt ∧ (I29 12 9).toInt ≤ 500; exact hI29R.2.2.2.1), (by show 0 ≤ (I29 12 13).toInt ∧ (I29 12 13).toInt ≤ 24; exact hI29R.2.2.2.2)⟩, (by show (I29 12 6).toInt ≤ 501 ∧ ((I29 12 7).toInt = 401 ∨ (I29 12 6).toInt ≤ 500); first | omega | decide), f30, Or.inl rfl⟩
    · refine lv_if_ne (tgt := 69) hx hb dX9_opened_64 (by decide) (fun c32 => absurd (by decide) c32) (fun c32 => ?_)
      refine lv_iconst (v := 0) hx hb dX9_opened_67 (by decide) ?_
      exact z_zret hx hb hr (by decide) hK hS (Nat.le_of_ble_eq_true rfl) (Nat.le_of_ble_eq_true rfl) hlocks dX9_opened_68 (shC c, ad, I25, JX, PC c ad) hW ⟨I25, rfl, ⟨(by show 0 ≤ (I25 12 1).toInt ∧ (I25 12 1).toInt ≤ 500; exact hI25R.1), (by show 0 ≤ (I25 12 5).toInt ∧ (I25 12 5).toInt ≤ 501; exact hI25R.2.1), (by show (-1) ≤ (I25 12 6).toInt ∧ (I25 12 6).toInt ≤ 1000000; exact hI25R.2.2.1), (by show 0 ≤ (I25 12 9).toInt ∧ (I25 12 9).toInt ≤ 500; exact hI25R.2.2.2.1), (by show 0 ≤ (I25 12 13).toInt ∧ (I25 12 13).toInt ≤ 24; exact hI25R.2.2.2.2)⟩, (by show (I25 12 6).toInt ≤ 501 ∧ ((I25 12 7).toInt = 401 ∨ (I25 12 6).toInt ≤ 500); first | omega | decide), f26, Or.inr rfl⟩
def L_X9_one_0 : z_L := [(12, 6), (12, 7), (17, 999), (12, 9)]
set_option maxHeartbeats 8000000 in
set_option maxRecDepth 100000 in
theorem sx_X9_one_0 (l : Launch) (G : z_G) (ad : Nat → Nat) (c : z_C) (I : z_I) (hR : z_iR I) (hT : z_iT I) : z_M l yX9_one wsX9_one { frames := 42, cells := 0, slots := 0, locals := 913 } [.ref (ad 12), .int 0] G (shC c, ad, I, JX, PC c ad) (fun r u1 => ∃ I1 : z_I, u1 = (shC c, ad, I1, JX, PC c ad) ∧ z_iR I1 ∧ z_iT I1 ∧ z_fr L_X9_one_0 I1 I ∧ (r = 1 ∨ r = 0)) 0 0 := by
  intro sz
  refine z_headQ (cc := cX9_one) (maxL := 3) (ret := (some .boolean)) (by decide) rfl (Nat.le_of_ble_eq_true rfl) ?_
  intro p e s m below meth c0 ls hIn hK hsz hW hl
  obtain ⟨hx, hb, hr, hml, hown, hts, hlocks, hname⟩ := hIn
  subst hsz
  have hown : s.vm.findClass RX9 = some m.cls := hown
  have hA : ∀ q : Nat, s.heap.size ≤ q → z_A (shC c, ad, I, JX, PC c ad) s.heap.size q := fun q h => Or.inr h
  generalize hAe : z_A (shC c, ad, I, JX, PC c ad) s.heap.size = A at *
  have hS : va_S A s.heap s.heap [] := va_S.rf
  have hl : lv_has ls 3 [(0, .ref (ad 12)), (1, .int 0)] := hl
  have kT : (I 12 6).toInt ≤ 501 ∧ ((I 12 7).toInt = 401 ∨ (I 12 6).toInt ≤ 500) := hT
  refine lv_aload_n hx hb dX9_one_0 rfl (lv_at hl 0 rfl) ?_
  refine z_get (T := TX9) (N := 14) (ci := 9) (i := 12) (v := .int (I 12 7)) hx hb hts zj_X9_one_X9 hown hK hW rfl rfl 7 (by decide) (hts (.fieldLink RX9 62 "PetrolBoard$Reader" "token" "I") (List.mem_of_getElem? (i := 1) rfl)) (fun _ h => h) rfl dX9_one_1 ?_
  refine lv_sipush (v := 311) hx hb dX9_one_4 (by decide) ?_
  refine lv_icmp_eq (tgt := 19) hx hb dX9_one_7 (by decide) (fun c1 => ?_) (fun c1 => ?_)
  · have g2 := z_f_eq rfl z_l311 c1
    have b3 := Int32.toInt_lt (I 12 7)
    refine lv_aload_n hx hb dX9_one_19 rfl (lv_at hl 0 rfl) ?_
    refine lv_iload_n hx hb dX9_one_20 rfl (lv_at hl 1 rfl) ?_
    refine z_ci hW hS hA (va_runV (As := [.int 0]) (rest := []) ⟨hx, hb, hml, hown, hts⟩ (sx_X9_opened_0 l G ad c I ⟨(by show 0 ≤ (I 12 1).toInt ∧ (I 12 1).toInt ≤ 500; exact hR.1), (by show 0 ≤ (I 12 5).toInt ∧ (I 12 5).toInt ≤ 501; exact hR.2.1), (by show (-1) ≤ (I 12 6).toInt ∧ (I 12 6).toInt ≤ 1000000; exact hR.2.2.1), (by show 0 ≤ (I 12 9).toInt ∧ (I 12 9).toInt ≤ 500; exact hR.2.2.2.1), (by show 0 ≤ (I 12 13).toInt ∧ (I 12 13).toInt ≤ 24; exact hR.2.2.2.2)⟩ (by show (I 12 6).toInt ≤ 501 ∧ ((I 12 7).toInt = 401 ∨ (I 12 6).toInt ≤ 500); first | omega | decide) _) (cwV 1 hts gX9_one_X9_opened rfl rfl rfl (by decide +kernel) ⟨Nat.le_of_ble_eq_true rfl, Nat.le_of_ble_eq_true rfl⟩) (z_preV (i := 12) hK hW rfl rfl) rfl rfl hl.1 rfl (lv_room (Nat.le_of_ble_eq_true rfl)) dX9_one_21 ⟨Nat.le_of_ble_eq_true rfl, Nat.le_of_ble_eq_true rfl⟩) (fun r u1 H locs hp hW hS => ?_)
    obtain ⟨I4, e9, hI4R, hI4T, fI4, hp⟩ := hp
    rw [e9] at hW
    have f5 := z_fr_sub (L := L_X9_one_0) z_fr_0 fI4 (by decide)
    have k6 : (I4 12 6).toInt ≤ 501 ∧ ((I4 12 7).toInt = 401 ∨ (I4 12 6).toInt ≤ 500) := hI4T
    rcases hp with rfl | rfl
    · exact z_zret hx hb hr (by decide) hK hS (Nat.le_of_ble_eq_true rfl) (Nat.le_of_ble_eq_true rfl) hlocks dX9_one_24 (shC c, ad, I4, JX, PC c ad) hW ⟨I4, rfl, ⟨(by show 0 ≤ (I4 12 1).toInt ∧ (I4 12 1).toInt ≤ 500; exact hI4R.1), (by show 0 ≤ (I4 12 5).toInt ∧ (I4 12 5).toInt ≤ 501; exact hI4R.2.1), (by show (-1) ≤ (I4 12 6).toInt ∧ (I4 12 6).toInt ≤ 1000000; exact hI4R.2.2.1), (by show 0 ≤ (I4 12 9).toInt ∧ (I4 12 9).toInt ≤ 500; exact hI4R.2.2.2.1), (by show 0 ≤ (I4 12 13).toInt ∧ (I4 12 13).toInt ≤ 24; exact hI4R.2.2.2.2)⟩, (by show (I4 12 6).toInt ≤ 501 ∧ ((I4 12 7).toInt = 401 ∨ (I4 12 6).toInt ≤ 500); first | omega | decide), f5, Or.inl rfl⟩
    · exact z_zret hx hb hr (by decide) hK hS (Nat.le_of_ble_eq_true rfl) (Nat.le_of_ble_eq_true rfl) hlocks dX9_one_24 (shC c, ad, I4, JX, PC c ad) hW ⟨I4, rfl, ⟨(by show 0 ≤ (I4 12 1).toInt ∧ (I4 12 1).toInt ≤ 500; exact hI4R.1), (by show 0 ≤ (I4 12 5).toInt ∧ (I4 12 5).toInt ≤ 501; exact hI4R.2.1), (by show (-1) ≤ (I4 12 6).toInt ∧ (I4 12 6).toInt ≤ 1000000; exact hI4R.2.2.1), (by show 0 ≤ (I4 12 9).toInt ∧ (I4 12 9).toInt ≤ 500; exact hI4R.2.2.2.1), (by show 0 ≤ (I4 12 13).toInt ∧ (I4 12 13).toInt ≤ 24; exact hI4R.2.2.2.2)⟩, (by show (I4 12 6).toInt ≤ 501 ∧ ((I4 12 7).toInt = 401 ∨ (I4 12 6).toInt ≤ 500); first | omega | decide), f5, Or.inr rfl⟩
  · have g7 := z_f_ne rfl z_l311 c1
    have b8 := Int32.toInt_lt (I 12 7)
    refine lv_aload_n hx hb dX9_one_10 rfl (lv_at hl 0 rfl) ?_
    refine z_get (T := TX9) (N := 14) (ci := 9) (i := 12) (v := .int (I 12 7)) hx hb hts zj_X9_one_X9 hown hK hW rfl rfl 7 (by decide) (hts (.fieldLink RX9 62 "PetrolBoard$Reader" "token" "I") (List.mem_of_getElem? (i := 1) rfl)) (fun _ h => h) rfl dX9_one_11 ?_
    refine lv_bipush (v := 123) hx hb dX9_one_14 (by decide) ?_
    refine lv_icmp_ne (tgt := 25) hx hb dX9_one_16 (by decide) (fun c9 => ?_) (fun c9 => ?_)
    · have g10 := z_f_ne rfl z_l123 c9
      refine lv_aload_n hx hb dX9_one_25 rfl (lv_at hl 0 rfl) ?_
      refine lv_iload_n hx hb dX9_one_26 rfl (lv_at hl 1 rfl) ?_
      refine z_ci hW hS hA (va_runV (As := [.int 0]) (rest := []) ⟨hx, hb, hml, hown, hts⟩ (sx_X9_sum_0 l G ad c I ⟨(by show 0 ≤ (I 12 1).toInt ∧ (I 12 1).toInt ≤ 500; exact hR.1), (by show 0 ≤ (I 12 5).toInt ∧ (I 12 5).toInt ≤ 501; exact hR.2.1), (by show (-1) ≤ (I 12 6).toInt ∧ (I 12 6).toInt ≤ 1000000; exact hR.2.2.1), (by show 0 ≤ (I 12 9).toInt ∧ (I 12 9).toInt ≤ 500; exact hR.2.2.2.1), (by show 0 ≤ (I 12 13).toInt ∧ (I 12 13).toInt ≤ 24; exact hR.2.2.2.2)⟩ (by show (I 12 6).toInt ≤ 501 ∧ ((I 12 7).toInt = 401 ∨ (I 12 6).toInt ≤ 500); first | omega | decide) _) (cwV 1 hts gX9_one_X9_sum rfl rfl rfl (by decide +kernel) ⟨Nat.le_of_ble_eq_true rfl, Nat.le_of_ble_eq_true rfl⟩) (z_preV (i := 12) hK hW rfl rfl) rfl rfl hl.1 rfl (lv_room (Nat.le_of_ble_eq_true rfl)) dX9_one_27 ⟨Nat.le_of_ble_eq_true rfl, Nat.le_of_ble_eq_true rfl⟩) (fun r u1 H locs hp hW hS => ?_)
      obtain ⟨I11, e9, hI11R, hI11T, fI11, hp⟩ := hp
      rw [e9] at hW
      have f12 := z_fr_sub (L := L_X9_one_0) z_fr_0 fI11 (by decide)
      have k13 : (I11 12 6).toInt ≤ 501 ∧ ((I11 12 7).toInt = 401 ∨ (I11 12 6).toInt ≤ 500) := hI11T
      rcases hp with rfl | rfl
      · refine lv_if_ne (tgt := 35) hx hb dX9_one_30 (by decide) (fun c14 => ?_) (fun c14 => absurd c14 (by decide))
        refine lv_aload_n hx hb dX9_one_35 rfl (lv_at hl 0 rfl) ?_
        refine z_get (T := TX9) (N := 14) (ci := 9) (i := 12) (v := .int (I11 12 7)) hx hb hts zj_X9_one_X9 hown hK hW rfl rfl 7 (by decide) (hts (.fieldLink RX9 62 "PetrolBoard$Reader" "token" "I") (List.mem_of_getElem? (i := 1) rfl)) (fun _ h => h) rfl dX9_one_36 ?_
        refine lv_istore_n (lv' := [(2, .int (I11 12 7)), (0, .ref (ad 12)), (1, .int 0)]) hx hb dX9_one_39 rfl hl (by decide) rfl (fun ls hl => ?_)
        refine lv_iload_n hx hb dX9_one_40 rfl (lv_at hl 0 rfl) ?_
        refine lv_bipush (v := 60) hx hb dX9_one_41 (by decide) ?_
        refine lv_icmp_eq (tgt := 60) hx hb dX9_one_43 (by decide) (fun c15 => ?_) (fun c15 => ?_)
        · have g16 := z_f_eq rfl z_l60 c15
          have b17 := Int32.toInt_lt (I11 12 7)
          refine lv_aload_n hx hb dX9_one_60 rfl (lv_at hl 1 rfl) ?_
          refine z_cv hW hS hA (va_runV (As := []) (rest := []) ⟨hx, hb, hml, hown, hts⟩ (sx_X9_step l G ad c I11 ⟨(by show 0 ≤ (I11 12 1).toInt ∧ (I11 12 1).toInt ≤ 500; exact hI11R.1), (by show 0 ≤ (I11 12 5).toInt ∧ (I11 12 5).toInt ≤ 501; exact hI11R.2.1), (by show (-1) ≤ (I11 12 6).toInt ∧ (I11 12 6).toInt ≤ 1000000; exact hI11R.2.2.1), (by show 0 ≤ (I11 12 9).toInt ∧ (I11 12 9).toInt ≤ 500; exact hI11R.2.2.2.1), (by show 0 ≤ (I11 12 13).toInt ∧ (I11 12 13).toInt ≤ 24; exact hI11R.2.2.2.2)⟩   (by show (I11 12 6).toInt ≤ 500; first | omega | decide) _) (cwV 0 hts gX9_one_X9_step rfl rfl rfl (by decide +kernel) ⟨Nat.le_of_ble_eq_true rfl, Nat.le_of_ble_eq_true rfl⟩) (z_preV (i := 12) hK hW rfl rfl) rfl rfl hl.1 rfl (lv_room (Nat.le_of_ble_eq_true rfl)) dX9_one_61 ⟨Nat.le_of_ble_eq_true rfl, Nat.le_of_ble_eq_true rfl⟩) (fun u1 H locs hp hW hS => ?_)
          obtain ⟨I18, e9, hI18R, hI18T, fI18⟩ := hp
          rw [e9] at hW
          have f19 := z_fr_sub (L := L_X9_one_0) f12 fI18 (by decide)
          have k20 : (I18 12 6).toInt ≤ 501 ∧ ((I18 12 7).toInt = 401 ∨ (I18 12 6).toInt ≤ 500) := hI18T
          refine lv_aload_n hx hb dX9_one_64 rfl (lv_at hl 1 rfl) ?_
          refine lv_iload_n hx hb dX9_one_65 rfl (lv_at hl 2 rfl) ?_
          refine z_ci hW hS hA (va_runV (As := [.int 0]) (rest := []) ⟨hx, hb, hml, hown, hts⟩ (sx_X9_sum_0 l G ad c I18 ⟨(by show 0 ≤ (I18 12 1).toInt ∧ (I18 12 1).toInt ≤ 500; exact hI18R.1), (by show 0 ≤ (I18 12 5).toInt ∧ (I18 12 5).toInt ≤ 501; exact hI18R.2.1), (by show (-1) ≤ (I18 12 6).toInt ∧ (I18 12 6).toInt ≤ 1000000; exact hI18R.2.2.1), (by show 0 ≤ (I18 12 9).toInt ∧ (I18 12 9).toInt ≤ 500; exact hI18R.2.2.2.1), (by show 0 ≤ (I18 12 13).toInt ∧ (I18 12 13).toInt ≤ 24; exact hI18R.2.2.2.2)⟩ (by show (I18 12 6).toInt ≤ 501 ∧ ((I18 12 7).toInt = 401 ∨ (I18 12 6).toInt ≤ 500); first | omega | decide) _) (cwV 1 hts gX9_one_X9_sum rfl rfl rfl (by decide +kernel) ⟨Nat.le_of_ble_eq_true rfl, Nat.le_of_ble_eq_true rfl⟩) (z_preV (i := 12) hK hW rfl rfl) rfl rfl hl.1 rfl (lv_room (Nat.le_of_ble_eq_true rfl)) dX9_one_66 ⟨Nat.le_of_ble_eq_true rfl, Nat.le_of_ble_eq_true rfl⟩) (fun r u1 H locs hp hW hS => ?_)
          obtain ⟨I21, e9, hI21R, hI21T, fI21, hp⟩ := hp
          rw [e9] at hW
          have f22 := z_fr_sub (L := L_X9_one_0) f19 fI21 (by decide)
          have k23 : (I21 12 6).toInt ≤ 501 ∧ ((I21 12 7).toInt = 401 ∨ (I21 12 6).toInt ≤ 500) := hI21T
          rcases hp with rfl | rfl
          · refine lv_if_ne (tgt := 74) hx hb dX9_one_69 (by decide) (fun c24 => ?_) (fun c24 => absurd c24 (by decide))
            refine lv_aload_n hx hb dX9_one_74 rfl (lv_at hl 1 rfl) ?_
            refine lv_iload_n hx hb dX9_one_75 rfl (lv_at hl 0 rfl) ?_
            refine lv_bipush (v := 60) hx hb dX9_one_76 (by decide) ?_
            refine lv_icmp_ne (tgt := 86) hx hb dX9_one_78 (by decide) (fun c25 => (by have g := z_f_ne rfl z_l60 c25; omega)) (fun c25 => ?_)
            have g26 := z_f_eq rfl z_l60 c25
            refine lv_bipush (v := (-7)) hx hb dX9_one_81 (by decide) ?_
            refine lv_goto (tgt := 99) hx hb dX9_one_83 (by decide) ?_
            refine z_cv hW hS hA (va_runV (As := [.int (-7)]) (rest := []) ⟨hx, hb, hml, hown, hts⟩ (sx_X9_emit l G ad c I21 ⟨(by show 0 ≤ (I21 12 1).toInt ∧ (I21 12 1).toInt ≤ 500; exact hI21R.1), (by show 0 ≤ (I21 12 5).toInt ∧ (I21 12 5).toInt ≤ 501; exact hI21R.2.1), (by show (-1) ≤ (I21 12 6).toInt ∧ (I21 12 6).toInt ≤ 1000000; exact hI21R.2.2.1), (by show 0 ≤ (I21 12 9).toInt ∧ (I21 12 9).toInt ≤ 500; exact hI21R.2.2.2.1), (by show 0 ≤ (I21 12 13).toInt ∧ (I21 12 13).toInt ≤ 24; exact hI21R.2.2.2.2)⟩ (-7) _) (cwV 1 hts gX9_one_X9_emit rfl rfl rfl (by decide +kernel) ⟨Nat.le_of_ble_eq_true rfl, Nat.le_of_ble_eq_true rfl⟩) (z_preV (i := 12) hK hW rfl rfl) rfl rfl hl.1 rfl (lv_room (Nat.le_of_ble_eq_true rfl)) dX9_one_99 ⟨Nat.le_of_ble_eq_true rfl, Nat.le_of_ble_eq_true rfl⟩) (fun u1 H locs hp hW hS => ?_)
            obtain ⟨I27, e9, hI27R, fI27⟩ := hp
            rw [e9] at hW
            have f28 := z_fr_sub (L := L_X9_one_0) f22 fI27 (by decide)
            have k29 : (I27 12 6).toInt ≤ 501 ∧ ((I27 12 7).toInt = 401 ∨ (I27 12 6).toInt ≤ 500) := (by have q0 : (I27 12 6) = (I21 12 6) := (by rw [fI27 12 6 (by decide)]); have q1 : (I27 12 7) = (I21 12 7) := (by rw [fI27 12 7 (by decide)]); show (I27 12 6).toInt ≤ 501 ∧ ((I27 12 7).toInt = 401 ∨ (I27 12 6).toInt ≤ 500); rw [q0, q1]; first | omega | decide)
            refine lv_iconst (v := 1) hx hb dX9_one_102 (by decide) ?_
            exact z_zret hx hb hr (by decide) hK hS (Nat.le_of_ble_eq_true rfl) (Nat.le_of_ble_eq_true rfl) hlocks dX9_one_103 (shC c, ad, I27, JX, PC c ad) hW ⟨I27, rfl, ⟨(by show 0 ≤ (I27 12 1).toInt ∧ (I27 12 1).toInt ≤ 500; exact hI27R.1), (by show 0 ≤ (I27 12 5).toInt ∧ (I27 12 5).toInt ≤ 501; exact hI27R.2.1), (by show (-1) ≤ (I27 12 6).toInt ∧ (I27 12 6).toInt ≤ 1000000; exact hI27R.2.2.1), (by show 0 ≤ (I27 12 9).toInt ∧ (I27 12 9).toInt ≤ 500; exact hI27R.2.2.2.1), (by show 0 ≤ (I27 12 13).toInt ∧ (I27 12 13).toInt ≤ 24; exact hI27R.2.2.2.2)⟩, (by show (I27 12 6).toInt ≤ 501 ∧ ((I27 12 7).toInt = 401 ∨ (I27 12 6).toInt ≤ 500); first | omega | decide), f28, Or.inl rfl⟩
          · refine lv_if_ne (tgt := 74) hx hb dX9_one_69 (by decide) (fun c30 => absurd (by decide) c30) (fun c30 => ?_)
            refine lv_iconst (v := 0) hx hb dX9_one_72 (by decide) ?_
            exact z_zret hx hb hr (by decide) hK hS (Nat.le_of_ble_eq_true rfl) (Nat.le_of_ble_eq_true rfl) hlocks dX9_one_73 (shC c, ad, I21, JX, PC c ad) hW ⟨I21, rfl, ⟨(by show 0 ≤ (I21 12 1).toInt ∧ (I21 12 1).toInt ≤ 500; exact hI21R.1), (by show 0 ≤ (I21 12 5).toInt ∧ (I21 12 5).toInt ≤ 501; exact hI21R.2.1), (by show (-1) ≤ (I21 12 6).toInt ∧ (I21 12 6).toInt ≤ 1000000; exact hI21R.2.2.1), (by show 0 ≤ (I21 12 9).toInt ∧ (I21 12 9).toInt ≤ 500; exact hI21R.2.2.2.1), (by show 0 ≤ (I21 12 13).toInt ∧ (I21 12 13).toInt ≤ 24; exact hI21R.2.2.2.2)⟩, (by show (I21 12 6).toInt ≤ 501 ∧ ((I21 12 7).toInt = 401 ∨ (I21 12 6).toInt ≤ 500); first | omega | decide), f22, Or.inr rfl⟩
        · have g31 := z_f_ne rfl z_l60 c15
          have b32 := Int32.toInt_lt (I11 12 7)
          refine lv_iload_n hx hb dX9_one_46 rfl (lv_at hl 0 rfl) ?_
          refine lv_bipush (v := 62) hx hb dX9_one_47 (by decide) ?_
          refine lv_icmp_eq (tgt := 60) hx hb dX9_one_49 (by decide) (fun c33 => ?_) (fun c33 => ?_)
          · have g34 := z_f_eq rfl z_l62 c33
            refine lv_aload_n hx hb dX9_one_60 rfl (lv_at hl 1 rfl) ?_
            refine z_cv hW hS hA (va_runV (As := []) (rest := []) ⟨hx, hb, hml, hown, hts⟩ (sx_X9_step l G ad c I11 ⟨(by show 0 ≤ (I11 12 1).toInt ∧ (I11 12 1).toInt ≤ 500; exact hI11R.1), (by show 0 ≤ (I11 12 5).toInt ∧ (I11 12 5).toInt ≤ 501; exact hI11R.2.1), (by show (-1) ≤ (I11 12 6).toInt ∧ (I11 12 6).toInt ≤ 1000000; exact hI11R.2.2.1), (by show 0 ≤ (I11 12 9).toInt ∧ (I11 12 9).toInt ≤ 500; exact hI11R.2.2.2.1), (by show 0 ≤ (I11 12 13).toInt ∧ (I11 12 13).toInt ≤ 24; exact hI11R.2.2.2.2)⟩   (by show (I11 12 6).toInt ≤ 500; first | omega | decide) _) (cwV 0 hts gX9_one_X9_step rfl rfl rfl (by decide +kernel) ⟨Nat.le_of_ble_eq_true rfl, Nat.le_of_ble_eq_true rfl⟩) (z_preV (i := 12) hK hW rfl rfl) rfl rfl hl.1 rfl (lv_room (Nat.le_of_ble_eq_true rfl)) dX9_one_61 ⟨Nat.le_of_ble_eq_true rfl, Nat.le_of_ble_eq_true rfl⟩) (fun u1 H locs hp hW hS => ?_)
            obtain ⟨I35, e9, hI35R, hI35T, fI35⟩ := hp
            rw [e9] at hW
            have f36 := z_fr_sub (L := L_X9_one_0) f12 fI35 (by decide)
            have k37 : (I35 12 6).toInt ≤ 501 ∧ ((I35 12 7).toInt = 401 ∨ (I35 12 6).toInt ≤ 500) := hI35T
            refine lv_aload_n hx hb dX9_one_64 rfl (lv_at hl 1 rfl) ?_
            refine lv_iload_n hx hb dX9_one_65 rfl (lv_at hl 2 rfl) ?_
            refine z_ci hW hS hA (va_runV (As := [.int 0]) (rest := []) ⟨hx, hb, hml, hown, hts⟩ (sx_X9_sum_0 l G ad c I35 ⟨(by show 0 ≤ (I35 12 1).toInt ∧ (I35 12 1).toInt ≤ 500; exact hI35R.1), (by show 0 ≤ (I35 12 5).toInt ∧ (I35 12 5).toInt ≤ 501; exact hI35R.2.1), (by show (-1) ≤ (I35 12 6).toInt ∧ (I35 12 6).toInt ≤ 1000000; exact hI35R.2.2.1), (by show 0 ≤ (I35 12 9).toInt ∧ (I35 12 9).toInt ≤ 500; exact hI35R.2.2.2.1), (by show 0 ≤ (I35 12 13).toInt ∧ (I35 12 13).toInt ≤ 24; exact hI35R.2.2.2.2)⟩ (by show (I35 12 6).toInt ≤ 501 ∧ ((I35 12 7).toInt = 401 ∨ (I35 12 6).toInt ≤ 500); first | omega | decide) _) (cwV 1 hts gX9_one_X9_sum rfl rfl rfl (by decide +kernel) ⟨Nat.le_of_ble_eq_true rfl, Nat.le_of_ble_eq_true rfl⟩) (z_preV (i := 12) hK hW rfl rfl) rfl rfl hl.1 rfl (lv_room (Nat.le_of_ble_eq_true rfl)) dX9_one_66 ⟨Nat.le_of_ble_eq_true rfl, Nat.le_of_ble_eq_true rfl⟩) (fun r u1 H locs hp hW hS => ?_)
            obtain ⟨I38, e9, hI38R, hI38T, fI38, hp⟩ := hp
            rw [e9] at hW
            have f39 := z_fr_sub (L := L_X9_one_0) f36 fI38 (by decide)
            have k40 : (I38 12 6).toInt ≤ 501 ∧ ((I38 12 7).toInt = 401 ∨ (I38 12 6).toInt ≤ 500) := hI38T
            rcases hp with rfl | rfl
            · refine lv_if_ne (tgt := 74) hx hb dX9_one_69 (by decide) (fun c41 => ?_) (fun c41 => absurd c41 (by decide))
              refine lv_aload_n hx hb dX9_one_74 rfl (lv_at hl 1 rfl) ?_
              refine lv_iload_n hx hb dX9_one_75 rfl (lv_at hl 0 rfl) ?_
              refine lv_bipush (v := 60) hx hb dX9_one_76 (by decide) ?_
              refine lv_icmp_ne (tgt := 86) hx hb dX9_one_78 (by decide) (fun c42 => ?_) (fun c42 => (by have g := z_f_eq rfl z_l60 c42; omega))
              have g43 := z_f_ne rfl z_l60 c42
              refine lv_iload_n hx hb dX9_one_86 rfl (lv_at hl 0 rfl) ?_
              refine lv_bipush (v := 62) hx hb dX9_one_87 (by decide) ?_
              refine lv_icmp_ne (tgt := 97) hx hb dX9_one_89 (by decide) (fun c44 => (by have g := z_f_ne rfl z_l62 c44; omega)) (fun c44 => ?_)
              have g45 := z_f_eq rfl z_l62 c44
              refine lv_bipush (v := (-8)) hx hb dX9_one_92 (by decide) ?_
              refine lv_goto (tgt := 99) hx hb dX9_one_94 (by decide) ?_
              refine z_cv hW hS hA (va_runV (As := [.int (-8)]) (rest := []) ⟨hx, hb, hml, hown, hts⟩ (sx_X9_emit l G ad c I38 ⟨(by show 0 ≤ (I38 12 1).toInt ∧ (I38 12 1).toInt ≤ 500; exact hI38R.1), (by show 0 ≤ (I38 12 5).toInt ∧ (I38 12 5).toInt ≤ 501; exact hI38R.2.1), (by show (-1) ≤ (I38 12 6).toInt ∧ (I38 12 6).toInt ≤ 1000000; exact hI38R.2.2.1), (by show 0 ≤ (I38 12 9).toInt ∧ (I38 12 9).toInt ≤ 500; exact hI38R.2.2.2.1), (by show 0 ≤ (I38 12 13).toInt ∧ (I38 12 13).toInt ≤ 24; exact hI38R.2.2.2.2)⟩ (-8) _) (cwV 1 hts gX9_one_X9_emit rfl rfl rfl (by decide +kernel) ⟨Nat.le_of_ble_eq_true rfl, Nat.le_of_ble_eq_true rfl⟩) (z_preV (i := 12) hK hW rfl rfl) rfl rfl hl.1 rfl (lv_room (Nat.le_of_ble_eq_true rfl)) dX9_one_99 ⟨Nat.le_of_ble_eq_true rfl, Nat.le_of_ble_eq_true rfl⟩) (fun u1 H locs hp hW hS => ?_)
              obtain ⟨I46, e9, hI46R, fI46⟩ := hp
              rw [e9] at hW
              have f47 := z_fr_sub (L := L_X9_one_0) f39 fI46 (by decide)
              have k48 : (I46 12 6).toInt ≤ 501 ∧ ((I46 12 7).toInt = 401 ∨ (I46 12 6).toInt ≤ 500) := (by have q0 : (I46 12 6) = (I38 12 6) := (by rw [fI46 12 6 (by decide)]); have q1 : (I46 12 7) = (I38 12 7) := (by rw [fI46 12 7 (by decide)]); show (I46 12 6).toInt ≤ 501 ∧ ((I46 12 7).toInt = 401 ∨ (I46 12 6).toInt ≤ 500); rw [q0, q1]; first | omega | decide)
              refine lv_iconst (v := 1) hx hb dX9_one_102 (by decide) ?_
              exact z_zret hx hb hr (by decide) hK hS (Nat.le_of_ble_eq_true rfl) (Nat.le_of_ble_eq_true rfl) hlocks dX9_one_103 (shC c, ad, I46, JX, PC c ad) hW ⟨I46, rfl, ⟨(by show 0 ≤ (I46 12 1).toInt ∧ (I46 12 1).toInt ≤ 500; exact hI46R.1), (by show 0 ≤ (I46 12 5).toInt ∧ (I46 12 5).toInt ≤ 501; exact hI46R.2.1), (by show (-1) ≤ (I46 12 6).toInt ∧ (I46 12 6).toInt ≤ 1000000; exact hI46R.2.2.1), (by show 0 ≤ (I46 12 9).toInt ∧ (I46 12 9).toInt ≤ 500; exact hI46R.2.2.2.1), (by show 0 ≤ (I46 12 13).toInt ∧ (I46 12 13).toInt ≤ 24; exact hI46R.2.2.2.2)⟩, (by show (I46 12 6).toInt ≤ 501 ∧ ((I46 12 7).toInt = 401 ∨ (I46 12 6).toInt ≤ 500); first | omega | decide), f47, Or.inl rfl⟩
            · refine lv_if_ne (tgt := 74) hx hb dX9_one_69 (by decide) (fun c49 => absurd (by decide) c49) (fun c49 => ?_)
              refine lv_iconst (v := 0) hx hb dX9_one_72 (by decide) ?_
              exact z_zret hx hb hr (by decide) hK hS (Nat.le_of_ble_eq_true rfl) (Nat.le_of_ble_eq_true rfl) hlocks dX9_one_73 (shC c, ad, I38, JX, PC c ad) hW ⟨I38, rfl, ⟨(by show 0 ≤ (I38 12 1).toInt ∧ (I38 12 1).toInt ≤ 500; exact hI38R.1), (by show 0 ≤ (I38 12 5).toInt ∧ (I38 12 5).toInt ≤ 501; exact hI38R.2.1), (by show (-1) ≤ (I38 12 6).toInt ∧ (I38 12 6).toInt ≤ 1000000; exact hI38R.2.2.1), (by show 0 ≤ (I38 12 9).toInt ∧ (I38 12 9).toInt ≤ 500; exact hI38R.2.2.2.1), (by show 0 ≤ (I38 12 13).toInt ∧ (I38 12 13).toInt ≤ 24; exact hI38R.2.2.2.2)⟩, (by show (I38 12 6).toInt ≤ 501 ∧ ((I38 12 7).toInt = 401 ∨ (I38 12 6).toInt ≤ 500); first | omega | decide), f39, Or.inr rfl⟩
          · have g50 := z_f_ne rfl z_l62 c33
            refine lv_iload_n hx hb dX9_one_52 rfl (lv_at hl 0 rfl) ?_
            refine lv_bipush (v := 61) hx hb dX9_one_53 (by decide) ?_
            refine lv_icmp_eq (tgt := 60) hx hb dX9_one_55 (by decide) (fun c51 => ?_) (fun c51 => ?_)
            · have g52 := z_f_eq rfl z_l61 c51
              refine lv_aload_n hx hb dX9_one_60 rfl (lv_at hl 1 rfl) ?_
              refine z_cv hW hS hA (va_runV (As := []) (rest := []) ⟨hx, hb, hml, hown, hts⟩ (sx_X9_step l G ad c I11 ⟨(by show 0 ≤ (I11 12 1).toInt ∧ (I11 12 1).toInt ≤ 500; exact hI11R.1), (by show 0 ≤ (I11 12 5).toInt ∧ (I11 12 5).toInt ≤ 501; exact hI11R.2.1), (by show (-1) ≤ (I11 12 6).toInt ∧ (I11 12 6).toInt ≤ 1000000; exact hI11R.2.2.1), (by show 0 ≤ (I11 12 9).toInt ∧ (I11 12 9).toInt ≤ 500; exact hI11R.2.2.2.1), (by show 0 ≤ (I11 12 13).toInt ∧ (I11 12 13).toInt ≤ 24; exact hI11R.2.2.2.2)⟩   (by show (I11 12 6).toInt ≤ 500; first | omega | decide) _) (cwV 0 hts gX9_one_X9_step rfl rfl rfl (by decide +kernel) ⟨Nat.le_of_ble_eq_true rfl, Nat.le_of_ble_eq_true rfl⟩) (z_preV (i := 12) hK hW rfl rfl) rfl rfl hl.1 rfl (lv_room (Nat.le_of_ble_eq_true rfl)) dX9_one_61 ⟨Nat.le_of_ble_eq_true rfl, Nat.le_of_ble_eq_true rfl⟩) (fun u1 H locs hp hW hS => ?_)
              obtain ⟨I53, e9, hI53R, hI53T, fI53⟩ := hp
              rw [e9] at hW
              have f54 := z_fr_sub (L := L_X9_one_0) f12 fI53 (by decide)
              have k55 : (I53 12 6).toInt ≤ 501 ∧ ((I53 12 7).toInt = 401 ∨ (I53 12 6).toInt ≤ 500) := hI53T
              refine lv_aload_n hx hb dX9_one_64 rfl (lv_at hl 1 rfl) ?_
              refine lv_iload_n hx hb dX9_one_65 rfl (lv_at hl 2 rfl) ?_
              refine z_ci hW hS hA (va_runV (As := [.int 0]) (rest := []) ⟨hx, hb, hml, hown, hts⟩ (sx_X9_sum_0 l G ad c I53 ⟨(by show 0 ≤ (I53 12 1).toInt ∧ (I53 12 1).toInt ≤ 500; exact hI53R.1), (by show 0 ≤ (I53 12 5).toInt ∧ (I53 12 5).toInt ≤ 501; exact hI53R.2.1), (by show (-1) ≤ (I53 12 6).toInt ∧ (I53 12 6).toInt ≤ 1000000; exact hI53R.2.2.1), (by show 0 ≤ (I53 12 9).toInt ∧ (I53 12 9).toInt ≤ 500; exact hI53R.2.2.2.1), (by show 0 ≤ (I53 12 13).toInt ∧ (I53 12 13).toInt ≤ 24; exact hI53R.2.2.2.2)⟩ (by show (I53 12 6).toInt ≤ 501 ∧ ((I53 12 7).toInt = 401 ∨ (I53 12 6).toInt ≤ 500); first | omega | decide) _) (cwV 1 hts gX9_one_X9_sum rfl rfl rfl (by decide +kernel) ⟨Nat.le_of_ble_eq_true rfl, Nat.le_of_ble_eq_true rfl⟩) (z_preV (i := 12) hK hW rfl rfl) rfl rfl hl.1 rfl (lv_room (Nat.le_of_ble_eq_true rfl)) dX9_one_66 ⟨Nat.le_of_ble_eq_true rfl, Nat.le_of_ble_eq_true rfl⟩) (fun r u1 H locs hp hW hS => ?_)
              obtain ⟨I56, e9, hI56R, hI56T, fI56, hp⟩ := hp
              rw [e9] at hW
              have f57 := z_fr_sub (L := L_X9_one_0) f54 fI56 (by decide)
              have k58 : (I56 12 6).toInt ≤ 501 ∧ ((I56 12 7).toInt = 401 ∨ (I56 12 6).toInt ≤ 500) := hI56T
              rcases hp with rfl | rfl
              · refine lv_if_ne (tgt := 74) hx hb dX9_one_69 (by decide) (fun c59 => ?_) (fun c59 => absurd c59 (by decide))
                refine lv_aload_n hx hb dX9_one_74 rfl (lv_at hl 1 rfl) ?_
                refine lv_iload_n hx hb dX9_one_75 rfl (lv_at hl 0 rfl) ?_
                refine lv_bipush (v := 60) hx hb dX9_one_76 (by decide) ?_
                refine lv_icmp_ne (tgt := 86) hx hb dX9_one_78 (by decide) (fun c60 => ?_) (fun c60 => (by have g := z_f_eq rfl z_l60 c60; omega))
                have g61 := z_f_ne rfl z_l60 c60
                refine lv_iload_n hx hb dX9_one_86 rfl (lv_at hl 0 rfl) ?_
                refine lv_bipush (v := 62) hx hb dX9_one_87 (by decide) ?_
                refine lv_icmp_ne (tgt := 97) hx hb dX9_one_89 (by decide) (fun c62 => ?_) (fun c62 => (by have g := z_f_eq rfl z_l62 c62; omega))
                have g63 := z_f_ne rfl z_l62 c62
                refine lv_bipush (v := (-9)) hx hb dX9_one_97 (by decide) ?_
                refine z_cv hW hS hA (va_runV (As := [.int (-9)]) (rest := []) ⟨hx, hb, hml, hown, hts⟩ (sx_X9_emit l G ad c I56 ⟨(by show 0 ≤ (I56 12 1).toInt ∧ (I56 12 1).toInt ≤ 500; exact hI56R.1), (by show 0 ≤ (I56 12 5).toInt ∧ (I56 12 5).toInt ≤ 501; exact hI56R.2.1), (by show (-1) ≤ (I56 12 6).toInt ∧ (I56 12 6).toInt ≤ 1000000; exact hI56R.2.2.1), (by show 0 ≤ (I56 12 9).toInt ∧ (I56 12 9).toInt ≤ 500; exact hI56R.2.2.2.1), (by show 0 ≤ (I56 12 13).toInt ∧ (I56 12 13).toInt ≤ 24; exact hI56R.2.2.2.2)⟩ (-9) _) (cwV 1 hts gX9_one_X9_emit rfl rfl rfl (by decide +kernel) ⟨Nat.le_of_ble_eq_true rfl, Nat.le_of_ble_eq_true rfl⟩) (z_preV (i := 12) hK hW rfl rfl) rfl rfl hl.1 rfl (lv_room (Nat.le_of_ble_eq_true rfl)) dX9_one_99 ⟨Nat.le_of_ble_eq_true rfl, Nat.le_of_ble_eq_true rfl⟩) (fun u1 H locs hp hW hS => ?_)
                obtain ⟨I64, e9, hI64R, fI64⟩ := hp
                rw [e9] at hW
                have f65 := z_fr_sub (L := L_X9_one_0) f57 fI64 (by decide)
                have k66 : (I64 12 6).toInt ≤ 501 ∧ ((I64 12 7).toInt = 401 ∨ (I64 12 6).toInt ≤ 500) := (by have q0 : (I64 12 6) = (I56 12 6) := (by rw [fI64 12 6 (by decide)]); have q1 : (I64 12 7) = (I56 12 7) := (by rw [fI64 12 7 (by decide)]); show (I64 12 6).toInt ≤ 501 ∧ ((I64 12 7).toInt = 401 ∨ (I64 12 6).toInt ≤ 500); rw [q0, q1]; first | omega | decide)
                refine lv_iconst (v := 1) hx hb dX9_one_102 (by decide) ?_
                exact z_zret hx hb hr (by decide) hK hS (Nat.le_of_ble_eq_true rfl) (Nat.le_of_ble_eq_true rfl) hlocks dX9_one_103 (shC c, ad, I64, JX, PC c ad) hW ⟨I64, rfl, ⟨(by show 0 ≤ (I64 12 1).toInt ∧ (I64 12 1).toInt ≤ 500; exact hI64R.1), (by show 0 ≤ (I64 12 5).toInt ∧ (I64 12 5).toInt ≤ 501; exact hI64R.2.1), (by show (-1) ≤ (I64 12 6).toInt ∧ (I64 12 6).toInt ≤ 1000000; exact hI64R.2.2.1), (by show 0 ≤ (I64 12 9).toInt ∧ (I64 12 9).toInt ≤ 500; exact hI64R.2.2.2.1), (by show 0 ≤ (I64 12 13).toInt ∧ (I64 12 13).toInt ≤ 24; exact hI64R.2.2.2.2)⟩, (by show (I64 12 6).toInt ≤ 501 ∧ ((I64 12 7).toInt = 401 ∨ (I64 12 6).toInt ≤ 500); first | omega | decide), f65, Or.inl rfl⟩
              · refine lv_if_ne (tgt := 74) hx hb dX9_one_69 (by decide) (fun c67 => absurd (by decide) c67) (fun c67 => ?_)
                refine lv_iconst (v := 0) hx hb dX9_one_72 (by decide) ?_
                exact z_zret hx hb hr (by decide) hK hS (Nat.le_of_ble_eq_true rfl) (Nat.le_of_ble_eq_true rfl) hlocks dX9_one_73 (shC c, ad, I56, JX, PC c ad) hW ⟨I56, rfl, ⟨(by show 0 ≤ (I56 12 1).toInt ∧ (I56 12 1).toInt ≤ 500; exact hI56R.1), (by show 0 ≤ (I56 12 5).toInt ∧ (I56 12 5).toInt ≤ 501; exact hI56R.2.1), (by show (-1) ≤ (I56 12 6).toInt ∧ (I56 12 6).toInt ≤ 1000000; exact hI56R.2.2.1), (by show 0 ≤ (I56 12 9).toInt ∧ (I56 12 9).toInt ≤ 500; exact hI56R.2.2.2.1), (by show 0 ≤ (I56 12 13).toInt ∧ (I56 12 13).toInt ≤ 24; exact hI56R.2.2.2.2)⟩, (by show (I56 12 6).toInt ≤ 501 ∧ ((I56 12 7).toInt = 401 ∨ (I56 12 6).toInt ≤ 500); first | omega | decide), f57, Or.inr rfl⟩
            · have g68 := z_f_ne rfl z_l61 c51
              refine lv_iconst (v := 0) hx hb dX9_one_58 (by decide) ?_
              exact z_zret hx hb hr (by decide) hK hS (Nat.le_of_ble_eq_true rfl) (Nat.le_of_ble_eq_true rfl) hlocks dX9_one_59 (shC c, ad, I11, JX, PC c ad) hW ⟨I11, rfl, ⟨(by show 0 ≤ (I11 12 1).toInt ∧ (I11 12 1).toInt ≤ 500; exact hI11R.1), (by show 0 ≤ (I11 12 5).toInt ∧ (I11 12 5).toInt ≤ 501; exact hI11R.2.1), (by show (-1) ≤ (I11 12 6).toInt ∧ (I11 12 6).toInt ≤ 1000000; exact hI11R.2.2.1), (by show 0 ≤ (I11 12 9).toInt ∧ (I11 12 9).toInt ≤ 500; exact hI11R.2.2.2.1), (by show 0 ≤ (I11 12 13).toInt ∧ (I11 12 13).toInt ≤ 24; exact hI11R.2.2.2.2)⟩, (by show (I11 12 6).toInt ≤ 501 ∧ ((I11 12 7).toInt = 401 ∨ (I11 12 6).toInt ≤ 500); first | omega | decide), f12, Or.inr rfl⟩
      · refine lv_if_ne (tgt := 35) hx hb dX9_one_30 (by decide) (fun c69 => absurd (by decide) c69) (fun c69 => ?_)
        refine lv_iconst (v := 0) hx hb dX9_one_33 (by decide) ?_
        exact z_zret hx hb hr (by decide) hK hS (Nat.le_of_ble_eq_true rfl) (Nat.le_of_ble_eq_true rfl) hlocks dX9_one_34 (shC c, ad, I11, JX, PC c ad) hW ⟨I11, rfl, ⟨(by show 0 ≤ (I11 12 1).toInt ∧ (I11 12 1).toInt ≤ 500; exact hI11R.1), (by show 0 ≤ (I11 12 5).toInt ∧ (I11 12 5).toInt ≤ 501; exact hI11R.2.1), (by show (-1) ≤ (I11 12 6).toInt ∧ (I11 12 6).toInt ≤ 1000000; exact hI11R.2.2.1), (by show 0 ≤ (I11 12 9).toInt ∧ (I11 12 9).toInt ≤ 500; exact hI11R.2.2.2.1), (by show 0 ≤ (I11 12 13).toInt ∧ (I11 12 13).toInt ≤ 24; exact hI11R.2.2.2.2)⟩, (by show (I11 12 6).toInt ≤ 501 ∧ ((I11 12 7).toInt = 401 ∨ (I11 12 6).toInt ≤ 500); first | omega | decide), f12, Or.inr rfl⟩
    · have g70 := z_f_eq rfl z_l123 c9
      refine lv_aload_n hx hb dX9_one_19 rfl (lv_at hl 0 rfl) ?_
      refine lv_iload_n hx hb dX9_one_20 rfl (lv_at hl 1 rfl) ?_
      refine z_ci hW hS hA (va_runV (As := [.int 0]) (rest := []) ⟨hx, hb, hml, hown, hts⟩ (sx_X9_opened_0 l G ad c I ⟨(by show 0 ≤ (I 12 1).toInt ∧ (I 12 1).toInt ≤ 500; exact hR.1), (by show 0 ≤ (I 12 5).toInt ∧ (I 12 5).toInt ≤ 501; exact hR.2.1), (by show (-1) ≤ (I 12 6).toInt ∧ (I 12 6).toInt ≤ 1000000; exact hR.2.2.1), (by show 0 ≤ (I 12 9).toInt ∧ (I 12 9).toInt ≤ 500; exact hR.2.2.2.1), (by show 0 ≤ (I 12 13).toInt ∧ (I 12 13).toInt ≤ 24; exact hR.2.2.2.2)⟩ (by show (I 12 6).toInt ≤ 501 ∧ ((I 12 7).toInt = 401 ∨ (I 12 6).toInt ≤ 500); first | omega | decide) _) (cwV 1 hts gX9_one_X9_opened rfl rfl rfl (by decide +kernel) ⟨Nat.le_of_ble_eq_true rfl, Nat.le_of_ble_eq_true rfl⟩) (z_preV (i := 12) hK hW rfl rfl) rfl rfl hl.1 rfl (lv_room (Nat.le_of_ble_eq_true rfl)) dX9_one_21 ⟨Nat.le_of_ble_eq_true rfl, Nat.le_of_ble_eq_true rfl⟩) (fun r u1 H locs hp hW hS => ?_)
      obtain ⟨I71, e9, hI71R, hI71T, fI71, hp⟩ := hp
      rw [e9] at hW
      have f72 := z_fr_sub (L := L_X9_one_0) z_fr_0 fI71 (by decide)
      have k73 : (I71 12 6).toInt ≤ 501 ∧ ((I71 12 7).toInt = 401 ∨ (I71 12 6).toInt ≤ 500) := hI71T
      rcases hp with rfl | rfl
      · exact z_zret hx hb hr (by decide) hK hS (Nat.le_of_ble_eq_true rfl) (Nat.le_of_ble_eq_true rfl) hlocks dX9_one_24 (shC c, ad, I71, JX, PC c ad) hW ⟨I71, rfl, ⟨(by show 0 ≤ (I71 12 1).toInt ∧ (I71 12 1).toInt ≤ 500; exact hI71R.1), (by show 0 ≤ (I71 12 5).toInt ∧ (I71 12 5).toInt ≤ 501; exact hI71R.2.1), (by show (-1) ≤ (I71 12 6).toInt ∧ (I71 12 6).toInt ≤ 1000000; exact hI71R.2.2.1), (by show 0 ≤ (I71 12 9).toInt ∧ (I71 12 9).toInt ≤ 500; exact hI71R.2.2.2.1), (by show 0 ≤ (I71 12 13).toInt ∧ (I71 12 13).toInt ≤ 24; exact hI71R.2.2.2.2)⟩, (by show (I71 12 6).toInt ≤ 501 ∧ ((I71 12 7).toInt = 401 ∨ (I71 12 6).toInt ≤ 500); first | omega | decide), f72, Or.inl rfl⟩
      · exact z_zret hx hb hr (by decide) hK hS (Nat.le_of_ble_eq_true rfl) (Nat.le_of_ble_eq_true rfl) hlocks dX9_one_24 (shC c, ad, I71, JX, PC c ad) hW ⟨I71, rfl, ⟨(by show 0 ≤ (I71 12 1).toInt ∧ (I71 12 1).toInt ≤ 500; exact hI71R.1), (by show 0 ≤ (I71 12 5).toInt ∧ (I71 12 5).toInt ≤ 501; exact hI71R.2.1), (by show (-1) ≤ (I71 12 6).toInt ∧ (I71 12 6).toInt ≤ 1000000; exact hI71R.2.2.1), (by show 0 ≤ (I71 12 9).toInt ∧ (I71 12 9).toInt ≤ 500; exact hI71R.2.2.2.1), (by show 0 ≤ (I71 12 13).toInt ∧ (I71 12 13).toInt ≤ 24; exact hI71R.2.2.2.2)⟩, (by show (I71 12 6).toInt ≤ 501 ∧ ((I71 12 7).toInt = 401 ∨ (I71 12 6).toInt ≤ 500); first | omega | decide), f72, Or.inr rfl⟩
def L_X9_all_0 : z_L := [(12, 6), (12, 7), (17, 999), (12, 9)]
set_option maxHeartbeats 8000000 in
set_option maxRecDepth 100000 in
theorem sx_X9_all_0 (l : Launch) (G : z_G) (ad : Nat → Nat) (c : z_C) (I : z_I) (hR : z_iR I) (hT : z_iT I) : z_M l yX9_all wsX9_all { frames := 43, cells := 0, slots := 0, locals := 935 } [.ref (ad 12), .int 0] G (shC c, ad, I, JX, PC c ad) (fun r u1 => ∃ I1 : z_I, u1 = (shC c, ad, I1, JX, PC c ad) ∧ z_iR I1 ∧ z_iT I1 ∧ z_fr L_X9_all_0 I1 I ∧ (r = 1 ∨ r = 0)) 0 0 := by
  intro sz
  refine z_headQ (cc := cX9_all) (maxL := 3) (ret := (some .boolean)) (by decide) rfl (Nat.le_of_ble_eq_true rfl) ?_
  intro p e s m below meth c0 ls hIn hK hsz hW hl
  obtain ⟨hx, hb, hr, hml, hown, hts, hlocks, hname⟩ := hIn
  subst hsz
  have hown : s.vm.findClass RX9 = some m.cls := hown
  have hA : ∀ q : Nat, s.heap.size ≤ q → z_A (shC c, ad, I, JX, PC c ad) s.heap.size q := fun q h => Or.inr h
  generalize hAe : z_A (shC c, ad, I, JX, PC c ad) s.heap.size = A at *
  have hS : va_S A s.heap s.heap [] := va_S.rf
  have hl : lv_has ls 3 [(0, .ref (ad 12)), (1, .int 0)] := hl
  have kT : (I 12 6).toInt ≤ 501 ∧ ((I 12 7).toInt = 401 ∨ (I 12 6).toInt ≤ 500) := hT
  refine lv_aload_n hx hb dX9_all_0 rfl (lv_at hl 0 rfl) ?_
  refine lv_iload_n hx hb dX9_all_1 rfl (lv_at hl 1 rfl) ?_
  refine z_ci hW hS hA (va_runV (As := [.int 0]) (rest := []) ⟨hx, hb, hml, hown, hts⟩ (sx_X9_one_0 l G ad c I ⟨(by show 0 ≤ (I 12 1).toInt ∧ (I 12 1).toInt ≤ 500; exact hR.1), (by show 0 ≤ (I 12 5).toInt ∧ (I 12 5).toInt ≤ 501; exact hR.2.1), (by show (-1) ≤ (I 12 6).toInt ∧ (I 12 6).toInt ≤ 1000000; exact hR.2.2.1), (by show 0 ≤ (I 12 9).toInt ∧ (I 12 9).toInt ≤ 500; exact hR.2.2.2.1), (by show 0 ≤ (I 12 13).toInt ∧ (I 12 13).toInt ≤ 24; exact hR.2.2.2.2)⟩ (by show (I 12 6).toInt ≤ 501 ∧ ((I 12 7).toInt = 401 ∨ (I 12 6).toInt ≤ 500); first | omega | decide) _) (cwV 1 hts gX9_all_X9_one rfl rfl rfl (by decide +kernel) ⟨Nat.le_of_ble_eq_true rfl, Nat.le_of_ble_eq_true rfl⟩) (z_preV (i := 12) hK hW rfl rfl) rfl rfl hl.1 rfl (lv_room (Nat.le_of_ble_eq_true rfl)) dX9_all_2 ⟨Nat.le_of_ble_eq_true rfl, Nat.le_of_ble_eq_true rfl⟩) (fun r u1 H locs hp hW hS => ?_)
  obtain ⟨I1, e9, hI1R, hI1T, fI1, hp⟩ := hp
  rw [e9] at hW
  have f2 := z_fr_sub (L := L_X9_all_0) z_fr_0 fI1 (by decide)
  have k3 : (I1 12 6).toInt ≤ 501 ∧ ((I1 12 7).toInt = 401 ∨ (I1 12 6).toInt ≤ 500) := hI1T
  rcases hp with rfl | rfl
  · refine lv_if_ne (tgt := 10) hx hb dX9_all_5 (by decide) (fun c4 => ?_) (fun c4 => absurd c4 (by decide))
    refine lv_iconst (v := 0) hx hb dX9_all_10 (by decide) ?_
    refine lv_istore_n (lv' := [(2, .int 0), (0, .ref (ad 12)), (1, .int 0)]) hx hb dX9_all_11 rfl hl (by decide) rfl (fun ls hl => ?_)
    have lp5 : ∀ (f : Nat) (y6 : Int32) (I7 : z_I) (H : Heap) (locs : List Loc) (ls : Array Slot), (2147483647 < y6.toInt + (f : Int)) → (0 ≤ y6.toInt) → (z_iR I7) → (z_iT I7) → (z_fr L_X9_all_0 I7 I) → z_W G A (shC c, ad, I7, JX, PC c ad) H → va_S A s.heap H locs → lv_has ls 3 [(2, .int y6), (0, .ref (ad 12)), (1, .int 0)] → W p l e (headSpec wsX9_all { frames := 43, cells := 0, slots := 0, locals := 935 }).room s m ([.ref (ad 12), .int 0] : List Value).toArray below meth c0 H locs 0 0 (MQ below (va_Qi (fun (r : Int32) (u1 : z_U) => ∃ I1 : z_I, u1 = (shC c, ad, I1, JX, PC c ad) ∧ z_iR I1 ∧ z_iT I1 ∧ z_fr L_X9_all_0 I1 I ∧ (r = 1 ∨ r = 0)) (z_B G A) A) ([.ref (ad 12), .int 0] : List Value).toArray s 0 0 A) (F0 m 12 ls []) := by
      intro f
      induction f with
      | zero => intro y6 I7  H locs ls lp5m lp5l2 lp5R lp5T lp5fr hW hS hl; exact absurd lp5m (by have := Int32.toInt_lt y6; have := Int32.le_toInt y6; omega)
      | succ f lp5ih =>
        intro y6 I7  H locs ls lp5m lp5l2 lp5R lp5T lp5fr hW hS hl
        have k8 : (I7 12 6).toInt ≤ 501 ∧ ((I7 12 7).toInt = 401 ∨ (I7 12 6).toInt ≤ 500) := lp5T
        refine lv_iload_n hx hb dX9_all_12 rfl (lv_at hl 0 rfl) ?_
        refine lv_sipush (v := 500) hx hb dX9_all_13 (by decide) ?_
        refine lv_icmp_ge (tgt := 55) hx hb dX9_all_16 (by decide) (fun c9 => ?_) (fun c9 => ?_)
        · have g10 := z_f_ge rfl z_l500 c9
          have b11 := Int32.toInt_lt y6
          refine lv_iconst (v := 1) hx hb dX9_all_55 (by decide) ?_
          exact z_zret hx hb hr (by decide) hK hS (Nat.le_of_ble_eq_true rfl) (Nat.le_of_ble_eq_true rfl) hlocks dX9_all_56 (shC c, ad, I7, JX, PC c ad) hW ⟨I7, rfl, ⟨(by show 0 ≤ (I7 12 1).toInt ∧ (I7 12 1).toInt ≤ 500; exact lp5R.1), (by show 0 ≤ (I7 12 5).toInt ∧ (I7 12 5).toInt ≤ 501; exact lp5R.2.1), (by show (-1) ≤ (I7 12 6).toInt ∧ (I7 12 6).toInt ≤ 1000000; exact lp5R.2.2.1), (by show 0 ≤ (I7 12 9).toInt ∧ (I7 12 9).toInt ≤ 500; exact lp5R.2.2.2.1), (by show 0 ≤ (I7 12 13).toInt ∧ (I7 12 13).toInt ≤ 24; exact lp5R.2.2.2.2)⟩, (by show (I7 12 6).toInt ≤ 501 ∧ ((I7 12 7).toInt = 401 ∨ (I7 12 6).toInt ≤ 500); first | omega | decide), lp5fr, Or.inl rfl⟩
        · have g12 := z_f_nge rfl z_l500 c9
          have b13 := Int32.toInt_lt y6
          refine lv_aload_n hx hb dX9_all_19 rfl (lv_at hl 1 rfl) ?_
          refine z_get (T := TX9) (N := 14) (ci := 9) (i := 12) (v := .int (I7 12 7)) hx hb hts zj_X9_all_X9 hown hK hW rfl rfl 7 (by decide) (hts (.fieldLink RX9 62 "PetrolBoard$Reader" "token" "I") (List.mem_of_getElem? (i := 1) rfl)) (fun _ h => h) rfl dX9_all_20 ?_
          refine lv_sipush (v := 310) hx hb dX9_all_23 (by decide) ?_
          refine lv_icmp_ne (tgt := 55) hx hb dX9_all_26 (by decide) (fun c14 => ?_) (fun c14 => ?_)
          · have g15 := z_f_ne rfl z_l310 c14
            have b16 := Int32.toInt_lt (I7 12 7)
            refine lv_iconst (v := 1) hx hb dX9_all_55 (by decide) ?_
            exact z_zret hx hb hr (by decide) hK hS (Nat.le_of_ble_eq_true rfl) (Nat.le_of_ble_eq_true rfl) hlocks dX9_all_56 (shC c, ad, I7, JX, PC c ad) hW ⟨I7, rfl, ⟨(by show 0 ≤ (I7 12 1).toInt ∧ (I7 12 1).toInt ≤ 500; exact lp5R.1), (by show 0 ≤ (I7 12 5).toInt ∧ (I7 12 5).toInt ≤ 501; exact lp5R.2.1), (by show (-1) ≤ (I7 12 6).toInt ∧ (I7 12 6).toInt ≤ 1000000; exact lp5R.2.2.1), (by show 0 ≤ (I7 12 9).toInt ∧ (I7 12 9).toInt ≤ 500; exact lp5R.2.2.2.1), (by show 0 ≤ (I7 12 13).toInt ∧ (I7 12 13).toInt ≤ 24; exact lp5R.2.2.2.2)⟩, (by show (I7 12 6).toInt ≤ 501 ∧ ((I7 12 7).toInt = 401 ∨ (I7 12 6).toInt ≤ 500); first | omega | decide), lp5fr, Or.inl rfl⟩
          · have g17 := z_f_eq rfl z_l310 c14
            have b18 := Int32.toInt_lt (I7 12 7)
            refine lv_aload_n hx hb dX9_all_29 rfl (lv_at hl 1 rfl) ?_
            refine z_cv hW hS hA (va_runV (As := []) (rest := []) ⟨hx, hb, hml, hown, hts⟩ (sx_X9_step l G ad c I7 ⟨(by show 0 ≤ (I7 12 1).toInt ∧ (I7 12 1).toInt ≤ 500; exact lp5R.1), (by show 0 ≤ (I7 12 5).toInt ∧ (I7 12 5).toInt ≤ 501; exact lp5R.2.1), (by show (-1) ≤ (I7 12 6).toInt ∧ (I7 12 6).toInt ≤ 1000000; exact lp5R.2.2.1), (by show 0 ≤ (I7 12 9).toInt ∧ (I7 12 9).toInt ≤ 500; exact lp5R.2.2.2.1), (by show 0 ≤ (I7 12 13).toInt ∧ (I7 12 13).toInt ≤ 24; exact lp5R.2.2.2.2)⟩   (by show (I7 12 6).toInt ≤ 500; first | omega | decide) _) (cwV 0 hts gX9_all_X9_step rfl rfl rfl (by decide +kernel) ⟨Nat.le_of_ble_eq_true rfl, Nat.le_of_ble_eq_true rfl⟩) (z_preV (i := 12) hK hW rfl rfl) rfl rfl hl.1 rfl (lv_room (Nat.le_of_ble_eq_true rfl)) dX9_all_30 ⟨Nat.le_of_ble_eq_true rfl, Nat.le_of_ble_eq_true rfl⟩) (fun u1 H locs hp hW hS => ?_)
            obtain ⟨I19, e9, hI19R, hI19T, fI19⟩ := hp
            rw [e9] at hW
            have f20 := z_fr_sub (L := L_X9_all_0) lp5fr fI19 (by decide)
            have k21 : (I19 12 6).toInt ≤ 501 ∧ ((I19 12 7).toInt = 401 ∨ (I19 12 6).toInt ≤ 500) := hI19T
            refine lv_aload_n hx hb dX9_all_33 rfl (lv_at hl 1 rfl) ?_
            refine lv_iload_n hx hb dX9_all_34 rfl (lv_at hl 2 rfl) ?_
            refine z_ci hW hS hA (va_runV (As := [.int 0]) (rest := []) ⟨hx, hb, hml, hown, hts⟩ (sx_X9_one_0 l G ad c I19 ⟨(by show 0 ≤ (I19 12 1).toInt ∧ (I19 12 1).toInt ≤ 500; exact hI19R.1), (by show 0 ≤ (I19 12 5).toInt ∧ (I19 12 5).toInt ≤ 501; exact hI19R.2.1), (by show (-1) ≤ (I19 12 6).toInt ∧ (I19 12 6).toInt ≤ 1000000; exact hI19R.2.2.1), (by show 0 ≤ (I19 12 9).toInt ∧ (I19 12 9).toInt ≤ 500; exact hI19R.2.2.2.1), (by show 0 ≤ (I19 12 13).toInt ∧ (I19 12 13).toInt ≤ 24; exact hI19R.2.2.2.2)⟩ (by show (I19 12 6).toInt ≤ 501 ∧ ((I19 12 7).toInt = 401 ∨ (I19 12 6).toInt ≤ 500); first | omega | decide) _) (cwV 1 hts gX9_all_X9_one rfl rfl rfl (by decide +kernel) ⟨Nat.le_of_ble_eq_true rfl, Nat.le_of_ble_eq_true rfl⟩) (z_preV (i := 12) hK hW rfl rfl) rfl rfl hl.1 rfl (lv_room (Nat.le_of_ble_eq_true rfl)) dX9_all_35 ⟨Nat.le_of_ble_eq_true rfl, Nat.le_of_ble_eq_true rfl⟩) (fun r u1 H locs hp hW hS => ?_)
            obtain ⟨I22, e9, hI22R, hI22T, fI22, hp⟩ := hp
            rw [e9] at hW
            have f23 := z_fr_sub (L := L_X9_all_0) f20 fI22 (by decide)
            have k24 : (I22 12 6).toInt ≤ 501 ∧ ((I22 12 7).toInt = 401 ∨ (I22 12 6).toInt ≤ 500) := hI22T
            rcases hp with rfl | rfl
            · refine lv_if_ne (tgt := 43) hx hb dX9_all_38 (by decide) (fun c25 => ?_) (fun c25 => absurd c25 (by decide))
              refine lv_aload_n hx hb dX9_all_43 rfl (lv_at hl 1 rfl) ?_
              refine lv_bipush (v := (-10)) hx hb dX9_all_44 (by decide) ?_
              refine z_cv hW hS hA (va_runV (As := [.int (-10)]) (rest := []) ⟨hx, hb, hml, hown, hts⟩ (sx_X9_emit l G ad c I22 ⟨(by show 0 ≤ (I22 12 1).toInt ∧ (I22 12 1).toInt ≤ 500; exact hI22R.1), (by show 0 ≤ (I22 12 5).toInt ∧ (I22 12 5).toInt ≤ 501; exact hI22R.2.1), (by show (-1) ≤ (I22 12 6).toInt ∧ (I22 12 6).toInt ≤ 1000000; exact hI22R.2.2.1), (by show 0 ≤ (I22 12 9).toInt ∧ (I22 12 9).toInt ≤ 500; exact hI22R.2.2.2.1), (by show 0 ≤ (I22 12 13).toInt ∧ (I22 12 13).toInt ≤ 24; exact hI22R.2.2.2.2)⟩ (-10) _) (cwV 1 hts gX9_all_X9_emit rfl rfl rfl (by decide +kernel) ⟨Nat.le_of_ble_eq_true rfl, Nat.le_of_ble_eq_true rfl⟩) (z_preV (i := 12) hK hW rfl rfl) rfl rfl hl.1 rfl (lv_room (Nat.le_of_ble_eq_true rfl)) dX9_all_46 ⟨Nat.le_of_ble_eq_true rfl, Nat.le_of_ble_eq_true rfl⟩) (fun u1 H locs hp hW hS => ?_)
              obtain ⟨I26, e9, hI26R, fI26⟩ := hp
              rw [e9] at hW
              have f27 := z_fr_sub (L := L_X9_all_0) f23 fI26 (by decide)
              have k28 : (I26 12 6).toInt ≤ 501 ∧ ((I26 12 7).toInt = 401 ∨ (I26 12 6).toInt ≤ 500) := (by have q0 : (I26 12 6) = (I22 12 6) := (by rw [fI26 12 6 (by decide)]); have q1 : (I26 12 7) = (I22 12 7) := (by rw [fI26 12 7 (by decide)]); show (I26 12 6).toInt ≤ 501 ∧ ((I26 12 7).toInt = 401 ∨ (I26 12 6).toInt ≤ 500); rw [q0, q1]; first | omega | decide)
              obtain ⟨x29, ex29⟩ : ∃ y : Int32, y = y6 + 1 := ⟨_, rfl⟩
              have tx29 : x29.toInt = y6.toInt + 1 := z_tadd ex29 rfl z_l1 (by omega) (by omega)
              refine lv_iinc (v := x29) (lv' := [(2, .int x29), (0, .ref (ad 12)), (1, .int 0)]) hx hb dX9_all_49 hl (k := 0) rfl (by rw [ex29]; rfl) (by decide) rfl (fun ls hl => ?_)
              refine lv_goto (tgt := 12) hx hb dX9_all_52 (by decide) ?_
              exact lp5ih x29 I26  _ _ _ (by omega) (by omega) ⟨(by show 0 ≤ (I26 12 1).toInt ∧ (I26 12 1).toInt ≤ 500; exact hI26R.1), (by show 0 ≤ (I26 12 5).toInt ∧ (I26 12 5).toInt ≤ 501; exact hI26R.2.1), (by show (-1) ≤ (I26 12 6).toInt ∧ (I26 12 6).toInt ≤ 1000000; exact hI26R.2.2.1), (by show 0 ≤ (I26 12 9).toInt ∧ (I26 12 9).toInt ≤ 500; exact hI26R.2.2.2.1), (by show 0 ≤ (I26 12 13).toInt ∧ (I26 12 13).toInt ≤ 24; exact hI26R.2.2.2.2)⟩ (by show (I26 12 6).toInt ≤ 501 ∧ ((I26 12 7).toInt = 401 ∨ (I26 12 6).toInt ≤ 500); first | omega | decide) f27 hW hS (lv_sub hl [0, 1, 2] rfl)
            · refine lv_if_ne (tgt := 43) hx hb dX9_all_38 (by decide) (fun c30 => absurd (by decide) c30) (fun c30 => ?_)
              refine lv_iconst (v := 0) hx hb dX9_all_41 (by decide) ?_
              exact z_zret hx hb hr (by decide) hK hS (Nat.le_of_ble_eq_true rfl) (Nat.le_of_ble_eq_true rfl) hlocks dX9_all_42 (shC c, ad, I22, JX, PC c ad) hW ⟨I22, rfl, ⟨(by show 0 ≤ (I22 12 1).toInt ∧ (I22 12 1).toInt ≤ 500; exact hI22R.1), (by show 0 ≤ (I22 12 5).toInt ∧ (I22 12 5).toInt ≤ 501; exact hI22R.2.1), (by show (-1) ≤ (I22 12 6).toInt ∧ (I22 12 6).toInt ≤ 1000000; exact hI22R.2.2.1), (by show 0 ≤ (I22 12 9).toInt ∧ (I22 12 9).toInt ≤ 500; exact hI22R.2.2.2.1), (by show 0 ≤ (I22 12 13).toInt ∧ (I22 12 13).toInt ≤ 24; exact hI22R.2.2.2.2)⟩, (by show (I22 12 6).toInt ≤ 501 ∧ ((I22 12 7).toInt = 401 ∨ (I22 12 6).toInt ≤ 500); first | omega | decide), f23, Or.inr rfl⟩
    exact lp5 4294967296 (0) I1  _ _ _ (z_m0u _) (by rw [z_l0]; omega) ⟨(by show 0 ≤ (I1 12 1).toInt ∧ (I1 12 1).toInt ≤ 500; exact hI1R.1), (by show 0 ≤ (I1 12 5).toInt ∧ (I1 12 5).toInt ≤ 501; exact hI1R.2.1), (by show (-1) ≤ (I1 12 6).toInt ∧ (I1 12 6).toInt ≤ 1000000; exact hI1R.2.2.1), (by show 0 ≤ (I1 12 9).toInt ∧ (I1 12 9).toInt ≤ 500; exact hI1R.2.2.2.1), (by show 0 ≤ (I1 12 13).toInt ∧ (I1 12 13).toInt ≤ 24; exact hI1R.2.2.2.2)⟩ (by show (I1 12 6).toInt ≤ 501 ∧ ((I1 12 7).toInt = 401 ∨ (I1 12 6).toInt ≤ 500); first | omega | decide) f2 hW hS (lv_sub hl [0, 1, 2] rfl)
  · refine lv_if_ne (tgt := 10) hx hb dX9_all_5 (by decide) (fun c31 => absurd (by decide) c31) (fun c31 => ?_)
    refine lv_iconst (v := 0) hx hb dX9_all_8 (by decide) ?_
    exact z_zret hx hb hr (by decide) hK hS (Nat.le_of_ble_eq_true rfl) (Nat.le_of_ble_eq_true rfl) hlocks dX9_all_9 (shC c, ad, I1, JX, PC c ad) hW ⟨I1, rfl, ⟨(by show 0 ≤ (I1 12 1).toInt ∧ (I1 12 1).toInt ≤ 500; exact hI1R.1), (by show 0 ≤ (I1 12 5).toInt ∧ (I1 12 5).toInt ≤ 501; exact hI1R.2.1), (by show (-1) ≤ (I1 12 6).toInt ∧ (I1 12 6).toInt ≤ 1000000; exact hI1R.2.2.1), (by show 0 ≤ (I1 12 9).toInt ∧ (I1 12 9).toInt ≤ 500; exact hI1R.2.2.2.1), (by show 0 ≤ (I1 12 13).toInt ∧ (I1 12 13).toInt ≤ 24; exact hI1R.2.2.2.2)⟩, (by show (I1 12 6).toInt ≤ 501 ∧ ((I1 12 7).toInt = 401 ∨ (I1 12 6).toInt ≤ 500); first | omega | decide), f2, Or.inr rfl⟩
def L_X9_either_0 : z_L := [(12, 6), (12, 7), (17, 999), (12, 9)]
set_option maxHeartbeats 8000000 in
set_option maxRecDepth 100000 in
theorem sx_X9_either_0 (l : Launch) (G : z_G) (ad : Nat → Nat) (c : z_C) (I : z_I) (hR : z_iR I) (hT : z_iT I) : z_M l yX9_either wsX9_either { frames := 44, cells := 0, slots := 0, locals := 957 } [.ref (ad 12), .int 0] G (shC c, ad, I, JX, PC c ad) (fun r u1 => ∃ I1 : z_I, u1 = (shC c, ad, I1, JX, PC c ad) ∧ z_iR I1 ∧ z_iT I1 ∧ z_fr L_X9_either_0 I1 I ∧ (r = 1 ∨ r = 0)) 0 0 := by
  intro sz
  refine z_headQ (cc := cX9_either) (maxL := 3) (ret := (some .boolean)) (by decide) rfl (Nat.le_of_ble_eq_true rfl) ?_
  intro p e s m below meth c0 ls hIn hK hsz hW hl
  obtain ⟨hx, hb, hr, hml, hown, hts, hlocks, hname⟩ := hIn
  subst hsz
  have hown : s.vm.findClass RX9 = some m.cls := hown
  have hA : ∀ q : Nat, s.heap.size ≤ q → z_A (shC c, ad, I, JX, PC c ad) s.heap.size q := fun q h => Or.inr h
  generalize hAe : z_A (shC c, ad, I, JX, PC c ad) s.heap.size = A at *
  have hS : va_S A s.heap s.heap [] := va_S.rf
  have hl : lv_has ls 3 [(0, .ref (ad 12)), (1, .int 0)] := hl
  have kT : (I 12 6).toInt ≤ 501 ∧ ((I 12 7).toInt = 401 ∨ (I 12 6).toInt ≤ 500) := hT
  refine lv_aload_n hx hb dX9_either_0 rfl (lv_at hl 0 rfl) ?_
  refine lv_iload_n hx hb dX9_either_1 rfl (lv_at hl 1 rfl) ?_
  refine z_ci hW hS hA (va_runV (As := [.int 0]) (rest := []) ⟨hx, hb, hml, hown, hts⟩ (sx_X9_all_0 l G ad c I ⟨(by show 0 ≤ (I 12 1).toInt ∧ (I 12 1).toInt ≤ 500; exact hR.1), (by show 0 ≤ (I 12 5).toInt ∧ (I 12 5).toInt ≤ 501; exact hR.2.1), (by show (-1) ≤ (I 12 6).toInt ∧ (I 12 6).toInt ≤ 1000000; exact hR.2.2.1), (by show 0 ≤ (I 12 9).toInt ∧ (I 12 9).toInt ≤ 500; exact hR.2.2.2.1), (by show 0 ≤ (I 12 13).toInt ∧ (I 12 13).toInt ≤ 24; exact hR.2.2.2.2)⟩ (by show (I 12 6).toInt ≤ 501 ∧ ((I 12 7).toInt = 401 ∨ (I 12 6).toInt ≤ 500); first | omega | decide) _) (cwV 1 hts gX9_either_X9_all rfl rfl rfl (by decide +kernel) ⟨Nat.le_of_ble_eq_true rfl, Nat.le_of_ble_eq_true rfl⟩) (z_preV (i := 12) hK hW rfl rfl) rfl rfl hl.1 rfl (lv_room (Nat.le_of_ble_eq_true rfl)) dX9_either_2 ⟨Nat.le_of_ble_eq_true rfl, Nat.le_of_ble_eq_true rfl⟩) (fun r u1 H locs hp hW hS => ?_)
  obtain ⟨I1, e9, hI1R, hI1T, fI1, hp⟩ := hp
  rw [e9] at hW
  have f2 := z_fr_sub (L := L_X9_either_0) z_fr_0 fI1 (by decide)
  have k3 : (I1 12 6).toInt ≤ 501 ∧ ((I1 12 7).toInt = 401 ∨ (I1 12 6).toInt ≤ 500) := hI1T
  rcases hp with rfl | rfl
  · refine lv_if_ne (tgt := 10) hx hb dX9_either_5 (by decide) (fun c4 => ?_) (fun c4 => absurd c4 (by decide))
    refine lv_iconst (v := 0) hx hb dX9_either_10 (by decide) ?_
    refine lv_istore_n (lv' := [(2, .int 0), (0, .ref (ad 12)), (1, .int 0)]) hx hb dX9_either_11 rfl hl (by decide) rfl (fun ls hl => ?_)
    have lp5 : ∀ (f : Nat) (y6 : Int32) (I7 : z_I) (H : Heap) (locs : List Loc) (ls : Array Slot), (2147483647 < y6.toInt + (f : Int)) → (0 ≤ y6.toInt) → (z_iR I7) → (z_iT I7) → (z_fr L_X9_either_0 I7 I) → z_W G A (shC c, ad, I7, JX, PC c ad) H → va_S A s.heap H locs → lv_has ls 3 [(2, .int y6), (0, .ref (ad 12)), (1, .int 0)] → W p l e (headSpec wsX9_either { frames := 44, cells := 0, slots := 0, locals := 957 }).room s m ([.ref (ad 12), .int 0] : List Value).toArray below meth c0 H locs 0 0 (MQ below (va_Qi (fun (r : Int32) (u1 : z_U) => ∃ I1 : z_I, u1 = (shC c, ad, I1, JX, PC c ad) ∧ z_iR I1 ∧ z_iT I1 ∧ z_fr L_X9_either_0 I1 I ∧ (r = 1 ∨ r = 0)) (z_B G A) A) ([.ref (ad 12), .int 0] : List Value).toArray s 0 0 A) (F0 m 12 ls []) := by
      intro f
      induction f with
      | zero => intro y6 I7  H locs ls lp5m lp5l2 lp5R lp5T lp5fr hW hS hl; exact absurd lp5m (by have := Int32.toInt_lt y6; have := Int32.le_toInt y6; omega)
      | succ f lp5ih =>
        intro y6 I7  H locs ls lp5m lp5l2 lp5R lp5T lp5fr hW hS hl
        have k8 : (I7 12 6).toInt ≤ 501 ∧ ((I7 12 7).toInt = 401 ∨ (I7 12 6).toInt ≤ 500) := lp5T
        refine lv_iload_n hx hb dX9_either_12 rfl (lv_at hl 0 rfl) ?_
        refine lv_sipush (v := 500) hx hb dX9_either_13 (by decide) ?_
        refine lv_icmp_ge (tgt := 55) hx hb dX9_either_16 (by decide) (fun c9 => ?_) (fun c9 => ?_)
        · have g10 := z_f_ge rfl z_l500 c9
          have b11 := Int32.toInt_lt y6
          refine lv_iconst (v := 1) hx hb dX9_either_55 (by decide) ?_
          exact z_zret hx hb hr (by decide) hK hS (Nat.le_of_ble_eq_true rfl) (Nat.le_of_ble_eq_true rfl) hlocks dX9_either_56 (shC c, ad, I7, JX, PC c ad) hW ⟨I7, rfl, ⟨(by show 0 ≤ (I7 12 1).toInt ∧ (I7 12 1).toInt ≤ 500; exact lp5R.1), (by show 0 ≤ (I7 12 5).toInt ∧ (I7 12 5).toInt ≤ 501; exact lp5R.2.1), (by show (-1) ≤ (I7 12 6).toInt ∧ (I7 12 6).toInt ≤ 1000000; exact lp5R.2.2.1), (by show 0 ≤ (I7 12 9).toInt ∧ (I7 12 9).toInt ≤ 500; exact lp5R.2.2.2.1), (by show 0 ≤ (I7 12 13).toInt ∧ (I7 12 13).toInt ≤ 24; exact lp5R.2.2.2.2)⟩, (by show (I7 12 6).toInt ≤ 501 ∧ ((I7 12 7).toInt = 401 ∨ (I7 12 6).toInt ≤ 500); first | omega | decide), lp5fr, Or.inl rfl⟩
        · have g12 := z_f_nge rfl z_l500 c9
          have b13 := Int32.toInt_lt y6
          refine lv_aload_n hx hb dX9_either_19 rfl (lv_at hl 1 rfl) ?_
          refine z_get (T := TX9) (N := 14) (ci := 9) (i := 12) (v := .int (I7 12 7)) hx hb hts zj_X9_either_X9 hown hK hW rfl rfl 7 (by decide) (hts (.fieldLink RX9 62 "PetrolBoard$Reader" "token" "I") (List.mem_of_getElem? (i := 1) rfl)) (fun _ h => h) rfl dX9_either_20 ?_
          refine lv_sipush (v := 309) hx hb dX9_either_23 (by decide) ?_
          refine lv_icmp_ne (tgt := 55) hx hb dX9_either_26 (by decide) (fun c14 => ?_) (fun c14 => ?_)
          · have g15 := z_f_ne rfl z_l309 c14
            have b16 := Int32.toInt_lt (I7 12 7)
            refine lv_iconst (v := 1) hx hb dX9_either_55 (by decide) ?_
            exact z_zret hx hb hr (by decide) hK hS (Nat.le_of_ble_eq_true rfl) (Nat.le_of_ble_eq_true rfl) hlocks dX9_either_56 (shC c, ad, I7, JX, PC c ad) hW ⟨I7, rfl, ⟨(by show 0 ≤ (I7 12 1).toInt ∧ (I7 12 1).toInt ≤ 500; exact lp5R.1), (by show 0 ≤ (I7 12 5).toInt ∧ (I7 12 5).toInt ≤ 501; exact lp5R.2.1), (by show (-1) ≤ (I7 12 6).toInt ∧ (I7 12 6).toInt ≤ 1000000; exact lp5R.2.2.1), (by show 0 ≤ (I7 12 9).toInt ∧ (I7 12 9).toInt ≤ 500; exact lp5R.2.2.2.1), (by show 0 ≤ (I7 12 13).toInt ∧ (I7 12 13).toInt ≤ 24; exact lp5R.2.2.2.2)⟩, (by show (I7 12 6).toInt ≤ 501 ∧ ((I7 12 7).toInt = 401 ∨ (I7 12 6).toInt ≤ 500); first | omega | decide), lp5fr, Or.inl rfl⟩
          · have g17 := z_f_eq rfl z_l309 c14
            have b18 := Int32.toInt_lt (I7 12 7)
            refine lv_aload_n hx hb dX9_either_29 rfl (lv_at hl 1 rfl) ?_
            refine z_cv hW hS hA (va_runV (As := []) (rest := []) ⟨hx, hb, hml, hown, hts⟩ (sx_X9_step l G ad c I7 ⟨(by show 0 ≤ (I7 12 1).toInt ∧ (I7 12 1).toInt ≤ 500; exact lp5R.1), (by show 0 ≤ (I7 12 5).toInt ∧ (I7 12 5).toInt ≤ 501; exact lp5R.2.1), (by show (-1) ≤ (I7 12 6).toInt ∧ (I7 12 6).toInt ≤ 1000000; exact lp5R.2.2.1), (by show 0 ≤ (I7 12 9).toInt ∧ (I7 12 9).toInt ≤ 500; exact lp5R.2.2.2.1), (by show 0 ≤ (I7 12 13).toInt ∧ (I7 12 13).toInt ≤ 24; exact lp5R.2.2.2.2)⟩   (by show (I7 12 6).toInt ≤ 500; first | omega | decide) _) (cwV 0 hts gX9_either_X9_step rfl rfl rfl (by decide +kernel) ⟨Nat.le_of_ble_eq_true rfl, Nat.le_of_ble_eq_true rfl⟩) (z_preV (i := 12) hK hW rfl rfl) rfl rfl hl.1 rfl (lv_room (Nat.le_of_ble_eq_true rfl)) dX9_either_30 ⟨Nat.le_of_ble_eq_true rfl, Nat.le_of_ble_eq_true rfl⟩) (fun u1 H locs hp hW hS => ?_)
            obtain ⟨I19, e9, hI19R, hI19T, fI19⟩ := hp
            rw [e9] at hW
            have f20 := z_fr_sub (L := L_X9_either_0) lp5fr fI19 (by decide)
            have k21 : (I19 12 6).toInt ≤ 501 ∧ ((I19 12 7).toInt = 401 ∨ (I19 12 6).toInt ≤ 500) := hI19T
            refine lv_aload_n hx hb dX9_either_33 rfl (lv_at hl 1 rfl) ?_
            refine lv_iload_n hx hb dX9_either_34 rfl (lv_at hl 2 rfl) ?_
            refine z_ci hW hS hA (va_runV (As := [.int 0]) (rest := []) ⟨hx, hb, hml, hown, hts⟩ (sx_X9_all_0 l G ad c I19 ⟨(by show 0 ≤ (I19 12 1).toInt ∧ (I19 12 1).toInt ≤ 500; exact hI19R.1), (by show 0 ≤ (I19 12 5).toInt ∧ (I19 12 5).toInt ≤ 501; exact hI19R.2.1), (by show (-1) ≤ (I19 12 6).toInt ∧ (I19 12 6).toInt ≤ 1000000; exact hI19R.2.2.1), (by show 0 ≤ (I19 12 9).toInt ∧ (I19 12 9).toInt ≤ 500; exact hI19R.2.2.2.1), (by show 0 ≤ (I19 12 13).toInt ∧ (I19 12 13).toInt ≤ 24; exact hI19R.2.2.2.2)⟩ (by show (I19 12 6).toInt ≤ 501 ∧ ((I19 12 7).toInt = 401 ∨ (I19 12 6).toInt ≤ 500); first | omega | decide) _) (cwV 1 hts gX9_either_X9_all rfl rfl rfl (by decide +kernel) ⟨Nat.le_of_ble_eq_true rfl, Nat.le_of_ble_eq_true rfl⟩) (z_preV (i := 12) hK hW rfl rfl) rfl rfl hl.1 rfl (lv_room (Nat.le_of_ble_eq_true rfl)) dX9_either_35 ⟨Nat.le_of_ble_eq_true rfl, Nat.le_of_ble_eq_true rfl⟩) (fun r u1 H locs hp hW hS => ?_)
            obtain ⟨I22, e9, hI22R, hI22T, fI22, hp⟩ := hp
            rw [e9] at hW
            have f23 := z_fr_sub (L := L_X9_either_0) f20 fI22 (by decide)
            have k24 : (I22 12 6).toInt ≤ 501 ∧ ((I22 12 7).toInt = 401 ∨ (I22 12 6).toInt ≤ 500) := hI22T
            rcases hp with rfl | rfl
            · refine lv_if_ne (tgt := 43) hx hb dX9_either_38 (by decide) (fun c25 => ?_) (fun c25 => absurd c25 (by decide))
              refine lv_aload_n hx hb dX9_either_43 rfl (lv_at hl 1 rfl) ?_
              refine lv_bipush (v := (-11)) hx hb dX9_either_44 (by decide) ?_
              refine z_cv hW hS hA (va_runV (As := [.int (-11)]) (rest := []) ⟨hx, hb, hml, hown, hts⟩ (sx_X9_emit l G ad c I22 ⟨(by show 0 ≤ (I22 12 1).toInt ∧ (I22 12 1).toInt ≤ 500; exact hI22R.1), (by show 0 ≤ (I22 12 5).toInt ∧ (I22 12 5).toInt ≤ 501; exact hI22R.2.1), (by show (-1) ≤ (I22 12 6).toInt ∧ (I22 12 6).toInt ≤ 1000000; exact hI22R.2.2.1), (by show 0 ≤ (I22 12 9).toInt ∧ (I22 12 9).toInt ≤ 500; exact hI22R.2.2.2.1), (by show 0 ≤ (I22 12 13).toInt ∧ (I22 12 13).toInt ≤ 24; exact hI22R.2.2.2.2)⟩ (-11) _) (cwV 1 hts gX9_either_X9_emit rfl rfl rfl (by decide +kernel) ⟨Nat.le_of_ble_eq_true rfl, Nat.le_of_ble_eq_true rfl⟩) (z_preV (i := 12) hK hW rfl rfl) rfl rfl hl.1 rfl (lv_room (Nat.le_of_ble_eq_true rfl)) dX9_either_46 ⟨Nat.le_of_ble_eq_true rfl, Nat.le_of_ble_eq_true rfl⟩) (fun u1 H locs hp hW hS => ?_)
              obtain ⟨I26, e9, hI26R, fI26⟩ := hp
              rw [e9] at hW
              have f27 := z_fr_sub (L := L_X9_either_0) f23 fI26 (by decide)
              have k28 : (I26 12 6).toInt ≤ 501 ∧ ((I26 12 7).toInt = 401 ∨ (I26 12 6).toInt ≤ 500) := (by have q0 : (I26 12 6) = (I22 12 6) := (by rw [fI26 12 6 (by decide)]); have q1 : (I26 12 7) = (I22 12 7) := (by rw [fI26 12 7 (by decide)]); show (I26 12 6).toInt ≤ 501 ∧ ((I26 12 7).toInt = 401 ∨ (I26 12 6).toInt ≤ 500); rw [q0, q1]; first | omega | decide)
              obtain ⟨x29, ex29⟩ : ∃ y : Int32, y = y6 + 1 := ⟨_, rfl⟩
              have tx29 : x29.toInt = y6.toInt + 1 := z_tadd ex29 rfl z_l1 (by omega) (by omega)
              refine lv_iinc (v := x29) (lv' := [(2, .int x29), (0, .ref (ad 12)), (1, .int 0)]) hx hb dX9_either_49 hl (k := 0) rfl (by rw [ex29]; rfl) (by decide) rfl (fun ls hl => ?_)
              refine lv_goto (tgt := 12) hx hb dX9_either_52 (by decide) ?_
              exact lp5ih x29 I26  _ _ _ (by omega) (by omega) ⟨(by show 0 ≤ (I26 12 1).toInt ∧ (I26 12 1).toInt ≤ 500; exact hI26R.1), (by show 0 ≤ (I26 12 5).toInt ∧ (I26 12 5).toInt ≤ 501; exact hI26R.2.1), (by show (-1) ≤ (I26 12 6).toInt ∧ (I26 12 6).toInt ≤ 1000000; exact hI26R.2.2.1), (by show 0 ≤ (I26 12 9).toInt ∧ (I26 12 9).toInt ≤ 500; exact hI26R.2.2.2.1), (by show 0 ≤ (I26 12 13).toInt ∧ (I26 12 13).toInt ≤ 24; exact hI26R.2.2.2.2)⟩ (by show (I26 12 6).toInt ≤ 501 ∧ ((I26 12 7).toInt = 401 ∨ (I26 12 6).toInt ≤ 500); first | omega | decide) f27 hW hS (lv_sub hl [0, 1, 2] rfl)
            · refine lv_if_ne (tgt := 43) hx hb dX9_either_38 (by decide) (fun c30 => absurd (by decide) c30) (fun c30 => ?_)
              refine lv_iconst (v := 0) hx hb dX9_either_41 (by decide) ?_
              exact z_zret hx hb hr (by decide) hK hS (Nat.le_of_ble_eq_true rfl) (Nat.le_of_ble_eq_true rfl) hlocks dX9_either_42 (shC c, ad, I22, JX, PC c ad) hW ⟨I22, rfl, ⟨(by show 0 ≤ (I22 12 1).toInt ∧ (I22 12 1).toInt ≤ 500; exact hI22R.1), (by show 0 ≤ (I22 12 5).toInt ∧ (I22 12 5).toInt ≤ 501; exact hI22R.2.1), (by show (-1) ≤ (I22 12 6).toInt ∧ (I22 12 6).toInt ≤ 1000000; exact hI22R.2.2.1), (by show 0 ≤ (I22 12 9).toInt ∧ (I22 12 9).toInt ≤ 500; exact hI22R.2.2.2.1), (by show 0 ≤ (I22 12 13).toInt ∧ (I22 12 13).toInt ≤ 24; exact hI22R.2.2.2.2)⟩, (by show (I22 12 6).toInt ≤ 501 ∧ ((I22 12 7).toInt = 401 ∨ (I22 12 6).toInt ≤ 500); first | omega | decide), f23, Or.inr rfl⟩
    exact lp5 4294967296 (0) I1  _ _ _ (z_m0u _) (by rw [z_l0]; omega) ⟨(by show 0 ≤ (I1 12 1).toInt ∧ (I1 12 1).toInt ≤ 500; exact hI1R.1), (by show 0 ≤ (I1 12 5).toInt ∧ (I1 12 5).toInt ≤ 501; exact hI1R.2.1), (by show (-1) ≤ (I1 12 6).toInt ∧ (I1 12 6).toInt ≤ 1000000; exact hI1R.2.2.1), (by show 0 ≤ (I1 12 9).toInt ∧ (I1 12 9).toInt ≤ 500; exact hI1R.2.2.2.1), (by show 0 ≤ (I1 12 13).toInt ∧ (I1 12 13).toInt ≤ 24; exact hI1R.2.2.2.2)⟩ (by show (I1 12 6).toInt ≤ 501 ∧ ((I1 12 7).toInt = 401 ∨ (I1 12 6).toInt ≤ 500); first | omega | decide) f2 hW hS (lv_sub hl [0, 1, 2] rfl)
  · refine lv_if_ne (tgt := 10) hx hb dX9_either_5 (by decide) (fun c31 => absurd (by decide) c31) (fun c31 => ?_)
    refine lv_iconst (v := 0) hx hb dX9_either_8 (by decide) ?_
    exact z_zret hx hb hr (by decide) hK hS (Nat.le_of_ble_eq_true rfl) (Nat.le_of_ble_eq_true rfl) hlocks dX9_either_9 (shC c, ad, I1, JX, PC c ad) hW ⟨I1, rfl, ⟨(by show 0 ≤ (I1 12 1).toInt ∧ (I1 12 1).toInt ≤ 500; exact hI1R.1), (by show 0 ≤ (I1 12 5).toInt ∧ (I1 12 5).toInt ≤ 501; exact hI1R.2.1), (by show (-1) ≤ (I1 12 6).toInt ∧ (I1 12 6).toInt ≤ 1000000; exact hI1R.2.2.1), (by show 0 ≤ (I1 12 9).toInt ∧ (I1 12 9).toInt ≤ 500; exact hI1R.2.2.2.1), (by show 0 ≤ (I1 12 13).toInt ∧ (I1 12 13).toInt ≤ 24; exact hI1R.2.2.2.2)⟩, (by show (I1 12 6).toInt ≤ 501 ∧ ((I1 12 7).toInt = 401 ∨ (I1 12 6).toInt ≤ 500); first | omega | decide), f2, Or.inr rfl⟩
