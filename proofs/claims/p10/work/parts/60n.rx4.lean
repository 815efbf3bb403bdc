

noncomputable def L_X9_atom_3x : z_L := [(12, 6), (12, 7), (17, 999), (12, 9)]
set_option maxHeartbeats 8000000 in
set_option maxRecDepth 100000 in
theorem sx_X9_atom_3x (l : Launch) (G : z_G) (ad : Nat → Nat) (c : z_C) (I : z_I) (hR : z_iR I) (hT : z_iT I) (k : Nat) (hP : zr_P I k) : z_M l yX9_atom wsX9_atom { frames := 51, cells := 0, slots := 0, locals := 1141 } [.ref (ad 12), .int 3] G (shC c, ad, I, JX, PC c ad) (fun r u1 => ∃ I1 : z_I, u1 = (shC c, ad, I1, JX, PC c ad) ∧ z_iR I1 ∧ z_iT I1 ∧ z_fr L_X9_atom_3x I1 I ∧ ((r = 1 ∧ zr_ok 2 3 I I1 k) ∨ (r = 0 ∧ zr_no 2 3 I I1 k))) 0 0 := by
  intro sz
  refine z_headQ (cc := cX9_atom) (maxL := 3) (ret := (some .boolean)) (by decide) rfl (Nat.le_of_ble_eq_true rfl) ?_
  intro p e s m below meth c0 ls hIn hK hsz hW hl
  obtain ⟨hx, hb, hr, hml, hown, hts, hlocks, hname⟩ := hIn
  subst hsz
  have hown : s.vm.findClass RX9 = some m.cls := hown
  have hA : ∀ q : Nat, s.heap.size ≤ q → z_A (shC c, ad, I, JX, PC c ad) s.heap.size q := fun q h => Or.inr h
  generalize hAe : z_A (shC c, ad, I, JX, PC c ad) s.heap.size = A at *
  have hS : va_S A s.heap s.heap [] := va_S.rf
  have hl : lv_has ls 3 [(0, .ref (ad 12)), (1, .int 3)] := hl
  have hM0 := zr_M_0 hP
  have hP1 := hP.1
  have hP2 := hP.2.1
  have hP3 := hP.2.2.1
  have hP4 := hP.2.2.2.1
  have hP5 := hP.2.2.2.2.1
  have hP6 := hP.2.2.2.2.2.1
  have hlz : ([] : List Int).length = 0 := rfl
  have kT : (I 12 6).toInt ≤ 501 ∧ ((I 12 7).toInt = 401 ∨ (I 12 6).toInt ≤ 500) := hT
  refine lv_aload_n hx hb dX9_atom_0 rfl (lv_at hl 0 rfl) ?_
  refine z_get (T := TX9) (N := 14) (ci := 9) (i := 12) (v := .int (I 12 7)) hx hb hts zj_X9_atom_X9 hown hK hW rfl rfl 7 (by decide) (hts (.fieldLink RX9 62 "PetrolBoard$Reader" "token" "I") (me_s (me_l (me_l (List.mem_of_getElem? (i := 0) rfl))))) (fun _ h => h) rfl dX9_atom_1 ?_
  refine lv_sipush (v := 400) hx hb dX9_atom_4 (by decide) ?_
  refine lv_icmp_eq (tgt := 30) hx hb dX9_atom_7 (by decide) (fun c1 => ?_) (fun c1 => ?_)
  · have g2 := z_f_eq rfl z_l400 c1
    have b3 := Int32.toInt_lt (I 12 7)
    refine lv_aload_n hx hb dX9_atom_30 rfl (lv_at hl 0 rfl) ?_
    refine lv_aload_n hx hb dX9_atom_31 rfl (lv_at hl 0 rfl) ?_
    refine z_get (T := TX9) (N := 14) (ci := 9) (i := 12) (v := .int (I 12 7)) hx hb hts zj_X9_atom_X9 hown hK hW rfl rfl 7 (by decide) (hts (.fieldLink RX9 62 "PetrolBoard$Reader" "token" "I") (me_s (me_l (me_l (List.mem_of_getElem? (i := 0) rfl))))) (fun _ h => h) rfl dX9_atom_32 ?_
    refine lv_sipush (v := 400) hx hb dX9_atom_35 (by decide) ?_
    refine lv_icmp_ne (tgt := 48) hx hb dX9_atom_38 (by decide) (fun c4 => (by have g := z_f_ne rfl z_l400 c4; omega)) (fun c4 => ?_)
    have g5 := z_f_eq rfl z_l400 c4
    refine lv_aload_n hx hb dX9_atom_41 rfl (lv_at hl 0 rfl) ?_
    refine z_ci hW hS hA (va_runV (As := []) (rest := [.ref (ad 12)]) ⟨hx, hb, hml, hown, hts⟩ (sx_X9_numberHere_x l G ad c I ⟨(by show 0 ≤ (I 12 1).toInt ∧ (I 12 1).toInt ≤ 500; exact hR.1), (by show 0 ≤ (I 12 5).toInt ∧ (I 12 5).toInt ≤ 501; exact hR.2.1), (by show (-1) ≤ (I 12 6).toInt ∧ (I 12 6).toInt ≤ 1000000; exact hR.2.2.1), (by show 0 ≤ (I 12 9).toInt ∧ (I 12 9).toInt ≤ 500; exact hR.2.2.2.1), (by show 0 ≤ (I 12 13).toInt ∧ (I 12 13).toInt ≤ 24; exact hR.2.2.2.2)⟩ k  (zr_P_m hP hM0 (by omega))  _) (cwV 0 hts gX9_atom_X9_numberHere rfl rfl rfl (by decide +kernel) ⟨Nat.le_of_ble_eq_true rfl, Nat.le_of_ble_eq_true rfl⟩) (z_preV (i := 12) hK hW rfl rfl) rfl rfl hl.1 rfl (lv_room (Nat.le_of_ble_eq_true rfl)) dX9_atom_42 ⟨Nat.le_of_ble_eq_true rfl, Nat.le_of_ble_eq_true rfl⟩) (fun r u1 H locs hp hW hS => ?_)
    obtain ⟨e9, hp⟩ := hp
    rw [e9] at hW
    refine lv_topi (fun x6 ex6 => ?_)
    have h7 := hp
    rw [← ex6, zr_vaS hM0] at h7
    refine lv_goto (tgt := 59) hx hb dX9_atom_45 (by decide) ?_
    have h8 := hP.2.2.2.2.2.2 k hP.2.1 (by omega)
    refine z_cv hW hS hA (va_runV (As := [.int x6]) (rest := []) ⟨hx, hb, hml, hown, hts⟩ (sx_X9_emit_x l G ad c I ⟨(by show 0 ≤ (I 12 1).toInt ∧ (I 12 1).toInt ≤ 500; exact hR.1), (by show 0 ≤ (I 12 5).toInt ∧ (I 12 5).toInt ≤ 501; exact hR.2.1), (by show (-1) ≤ (I 12 6).toInt ∧ (I 12 6).toInt ≤ 1000000; exact hR.2.2.1), (by show 0 ≤ (I 12 9).toInt ∧ (I 12 9).toInt ≤ 500; exact hR.2.2.2.1), (by show 0 ≤ (I 12 13).toInt ∧ (I 12 13).toInt ≤ 24; exact hR.2.2.2.2)⟩ x6 (by omega) _) (cwV 1 hts gX9_atom_X9_emit rfl rfl rfl (by decide +kernel) ⟨Nat.le_of_ble_eq_true rfl, Nat.le_of_ble_eq_true rfl⟩) (z_preV (i := 12) hK hW rfl rfl) rfl rfl hl.1 rfl (lv_room (Nat.le_of_ble_eq_true rfl)) dX9_atom_59 ⟨Nat.le_of_ble_eq_true rfl, Nat.le_of_ble_eq_true rfl⟩) (fun u1 H locs hp hW hS => ?_)
    obtain ⟨I9, e9, hI9R, fI9, hp⟩ := hp
    rw [e9] at hW
    have f10 := z_fr_sub (L := L_X9_atom_3x) z_fr_0 fI9 (by decide)
    have k11 : (I9 12 6).toInt ≤ 501 ∧ ((I9 12 7).toInt = 401 ∨ (I9 12 6).toInt ≤ 500) := (by have q0 : (I9 12 6) = (I 12 6) := (by rw [fI9 12 6 (by decide)]); have q1 : (I9 12 7) = (I 12 7) := (by rw [fI9 12 7 (by decide)]); show (I9 12 6).toInt ≤ 501 ∧ ((I9 12 7).toInt = 401 ∨ (I9 12 6).toInt ≤ 500); rw [q0, q1]; first | omega | decide)
    have hM12 := (show zr_M I I9 k [zr_va I k] from zr_M_e hM0 hp h7 hP.2.2.2.2.1)
    have h13 := hM12.1
    have h14 := hM12.2.1
    have h15 := hM12.2.2.1
    have h16 := hM12.2.2.2.1
    have l17 : ([zr_va I k]).length = 1 := by first | rfl | (simp only [List.length_append, List.length_cons, List.length_nil] <;> omega)
    refine lv_aload_n hx hb dX9_atom_62 rfl (lv_at hl 0 rfl) ?_
    have q18 := zr_Q_n (zr_Q_m hP hM12) (by rw [zr_tkS hM12]; omega)
    refine z_cv hW hS hA (va_runV (As := []) (rest := []) ⟨hx, hb, hml, hown, hts⟩ (sx_X9_step_x l G ad c I9 ⟨(by show 0 ≤ (I9 12 1).toInt ∧ (I9 12 1).toInt ≤ 500; exact hI9R.1), (by show 0 ≤ (I9 12 5).toInt ∧ (I9 12 5).toInt ≤ 501; exact hI9R.2.1), (by show (-1) ≤ (I9 12 6).toInt ∧ (I9 12 6).toInt ≤ 1000000; exact hI9R.2.2.1), (by show 0 ≤ (I9 12 9).toInt ∧ (I9 12 9).toInt ≤ 500; exact hI9R.2.2.2.1), (by show 0 ≤ (I9 12 13).toInt ∧ (I9 12 13).toInt ≤ 24; exact hI9R.2.2.2.2)⟩ (k + 1) q18 _) (cwV 0 hts gX9_atom_X9_step rfl rfl rfl (by decide +kernel) ⟨Nat.le_of_ble_eq_true rfl, Nat.le_of_ble_eq_true rfl⟩) (z_preV (i := 12) hK hW rfl rfl) rfl rfl hl.1 rfl (lv_room (Nat.le_of_ble_eq_true rfl)) dX9_atom_63 ⟨Nat.le_of_ble_eq_true rfl, Nat.le_of_ble_eq_true rfl⟩) (fun u1 H locs hp hW hS => ?_)
    obtain ⟨I19, e9, hI19R, hI19T, fI19, hp⟩ := hp
    rw [e9] at hW
    have f20 := z_fr_sub (L := L_X9_atom_3x) f10 fI19 (by decide)
    have k21 : (I19 12 6).toInt ≤ 501 ∧ ((I19 12 7).toInt = 401 ∨ (I19 12 6).toInt ≤ 500) := hI19T
    have hM22 := zr_M_s hM12 hp hP.2.2.2.2.1
    have h23 := hM22.1
    have h24 := hM22.2.1
    have h25 := hM22.2.2.1
    have h26 := hM22.2.2.2.1
    have l27 : ([zr_va I k]).length = 1 := by first | rfl | (simp only [List.length_append, List.length_cons, List.length_nil] <;> omega)
    refine lv_iconst (v := 1) hx hb dX9_atom_66 (by decide) ?_
    exact z_zret hx hb hr (by decide) hK hS (Nat.le_of_ble_eq_true rfl) (Nat.le_of_ble_eq_true rfl) hlocks dX9_atom_67 (shC c, ad, I19, JX, PC c ad) hW ⟨I19, rfl, ⟨(by show 0 ≤ (I19 12 1).toInt ∧ (I19 12 1).toInt ≤ 500; exact hI19R.1), (by show 0 ≤ (I19 12 5).toInt ∧ (I19 12 5).toInt ≤ 501; exact hI19R.2.1), (by show (-1) ≤ (I19 12 6).toInt ∧ (I19 12 6).toInt ≤ 1000000; exact hI19R.2.2.1), (by show 0 ≤ (I19 12 9).toInt ∧ (I19 12 9).toInt ≤ 500; exact hI19R.2.2.2.1), (by show 0 ≤ (I19 12 13).toInt ∧ (I19 12 13).toInt ≤ 24; exact hI19R.2.2.2.2)⟩, (by show (I19 12 6).toInt ≤ 501 ∧ ((I19 12 7).toInt = 401 ∨ (I19 12 6).toInt ≤ 500); first | omega | decide), f20, (Or.inl ⟨rfl, zr_ok_of hM22 rfl (by omega) (by omega) (zp_A1 (by omega))⟩)⟩
  · have g28 := z_f_ne rfl z_l400 c1
    have b29 := Int32.toInt_lt (I 12 7)
    refine lv_aload_n hx hb dX9_atom_10 rfl (lv_at hl 0 rfl) ?_
    refine z_get (T := TX9) (N := 14) (ci := 9) (i := 12) (v := .int (I 12 7)) hx hb hts zj_X9_atom_X9 hown hK hW rfl rfl 7 (by decide) (hts (.fieldLink RX9 62 "PetrolBoard$Reader" "token" "I") (me_s (me_l (me_l (List.mem_of_getElem? (i := 0) rfl))))) (fun _ h => h) rfl dX9_atom_11 ?_
    refine lv_sipush (v := 314) hx hb dX9_atom_14 (by decide) ?_
    refine lv_icmp_lt (tgt := 68) hx hb dX9_atom_17 (by decide) (fun c30 => ?_) (fun c30 => ?_)
    · have g31 := z_f_lt rfl z_l314 c30
      refine lv_aload_n hx hb dX9_atom_68 rfl (lv_at hl 0 rfl) ?_
      refine z_get (T := TX9) (N := 14) (ci := 9) (i := 12) (v := .int (I 12 7)) hx hb hts zj_X9_atom_X9 hown hK hW rfl rfl 7 (by decide) (hts (.fieldLink RX9 62 "PetrolBoard$Reader" "token" "I") (me_s (me_l (me_l (List.mem_of_getElem? (i := 0) rfl))))) (fun _ h => h) rfl dX9_atom_69 ?_
      refine lv_istore_n (lv' := [(2, .int (I 12 7)), (0, .ref (ad 12)), (1, .int 3)]) hx hb dX9_atom_72 rfl hl (by decide) rfl (fun ls hl => ?_)
      refine lv_iload_n hx hb dX9_atom_73 rfl (lv_at hl 0 rfl) ?_
      refine lv_bipush (v := 40) hx hb dX9_atom_74 (by decide) ?_
      refine lv_icmp_eq (tgt := 93) hx hb dX9_atom_76 (by decide) (fun c32 => ?_) (fun c32 => ?_)
      · have g33 := z_f_eq rfl z_l40 c32
        refine lv_iload_n hx hb dX9_atom_93 rfl (lv_at hl 2 rfl) ?_
        refine lv_bipush (v := 9) hx hb dX9_atom_94 (by decide) ?_
        refine lv_icmp_lt (tgt := 101) hx hb dX9_atom_96 (by decide) (fun c34 => ?_) (fun c34 => absurd (by decide) c34)
        refine lv_aload_n hx hb dX9_atom_101 rfl (lv_at hl 1 rfl) ?_
        have q35 := zr_Q_n (zr_Q_m hP hM0) (by rw [zr_tkS hM0]; omega)
        refine z_cv hW hS hA (va_runV (As := []) (rest := []) ⟨hx, hb, hml, hown, hts⟩ (sx_X9_step_x l G ad c I ⟨(by show 0 ≤ (I 12 1).toInt ∧ (I 12 1).toInt ≤ 500; exact hR.1), (by show 0 ≤ (I 12 5).toInt ∧ (I 12 5).toInt ≤ 501; exact hR.2.1), (by show (-1) ≤ (I 12 6).toInt ∧ (I 12 6).toInt ≤ 1000000; exact hR.2.2.1), (by show 0 ≤ (I 12 9).toInt ∧ (I 12 9).toInt ≤ 500; exact hR.2.2.2.1), (by show 0 ≤ (I 12 13).toInt ∧ (I 12 13).toInt ≤ 24; exact hR.2.2.2.2)⟩ (k + 1) q35 _) (cwV 0 hts gX9_atom_X9_step rfl rfl rfl (by decide +kernel) ⟨Nat.le_of_ble_eq_true rfl, Nat.le_of_ble_eq_true rfl⟩) (z_preV (i := 12) hK hW rfl rfl) rfl rfl hl.1 rfl (lv_room (Nat.le_of_ble_eq_true rfl)) dX9_atom_102 ⟨Nat.le_of_ble_eq_true rfl, Nat.le_of_ble_eq_true rfl⟩) (fun u1 H locs hp hW hS => ?_)
        obtain ⟨I36, e9, hI36R, hI36T, fI36, hp⟩ := hp
        rw [e9] at hW
        have f37 := z_fr_sub (L := L_X9_atom_3x) z_fr_0 fI36 (by decide)
        have k38 : (I36 12 6).toInt ≤ 501 ∧ ((I36 12 7).toInt = 401 ∨ (I36 12 6).toInt ≤ 500) := hI36T
        have hM39 := zr_M_s hM0 hp hP.2.2.2.2.1
        have h40 := hM39.1
        have h41 := hM39.2.1
        have h42 := hM39.2.2.1
        have h43 := hM39.2.2.2.1
        have l44 : (([] : List Int) : List Int).length = 0 := rfl
        refine lv_iload_n hx hb dX9_atom_105 rfl (lv_at hl 0 rfl) ?_
        refine lv_bipush (v := 40) hx hb dX9_atom_106 (by decide) ?_
        refine lv_icmp_ne (tgt := 136) hx hb dX9_atom_108 (by decide) (fun c45 => (by have g := z_f_ne rfl z_l40 c45; omega)) (fun c45 => ?_)
        have g46 := z_f_eq rfl z_l40 c45
        refine lv_aload_n hx hb dX9_atom_111 rfl (lv_at hl 1 rfl) ?_
        refine lv_iload_n hx hb dX9_atom_112 rfl (lv_at hl 2 rfl) ?_
        refine lv_iconst (v := 1) hx hb dX9_atom_113 (by decide) ?_
        refine lv_iadd hx hb dX9_atom_114 ?_
        refine z_topi (v := 4) (by decide) ?_
        refine z_ci hW hS hA (va_runV (As := [.int 4]) (rest := []) ⟨hx, hb, hml, hown, hts⟩ (sx_X9_sum_4x l G ad c I36 ⟨(by show 0 ≤ (I36 12 1).toInt ∧ (I36 12 1).toInt ≤ 500; exact hI36R.1), (by show 0 ≤ (I36 12 5).toInt ∧ (I36 12 5).toInt ≤ 501; exact hI36R.2.1), (by show (-1) ≤ (I36 12 6).toInt ∧ (I36 12 6).toInt ≤ 1000000; exact hI36R.2.2.1), (by show 0 ≤ (I36 12 9).toInt ∧ (I36 12 9).toInt ≤ 500; exact hI36R.2.2.2.1), (by show 0 ≤ (I36 12 13).toInt ∧ (I36 12 13).toInt ≤ 24; exact hI36R.2.2.2.2)⟩ (by show (I36 12 6).toInt ≤ 501 ∧ ((I36 12 7).toInt = 401 ∨ (I36 12 6).toInt ≤ 500); first | omega | decide) (k + 1) (zr_P_m hP hM39 (by omega)) _) (cwV 1 hts gX9_atom_X9_sum rfl rfl rfl (by decide +kernel) ⟨Nat.le_of_ble_eq_true rfl, Nat.le_of_ble_eq_true rfl⟩) (z_preV (i := 12) hK hW rfl rfl) rfl rfl hl.1 rfl (lv_room (Nat.le_of_ble_eq_true rfl)) dX9_atom_115 ⟨Nat.le_of_ble_eq_true rfl, Nat.le_of_ble_eq_true rfl⟩) (fun r u1 H locs hp hW hS => ?_)
        obtain ⟨I47, e9, hI47R, hI47T, fI47, hp⟩ := hp
        rw [e9] at hW
        have f48 := z_fr_sub (L := L_X9_atom_3x) f37 fI47 (by decide)
        have k49 : (I47 12 6).toInt ≤ 501 ∧ ((I47 12 7).toInt = 401 ∨ (I47 12 6).toInt ≤ 500) := hI47T
        rcases hp with ⟨rfl, hq⟩ | ⟨rfl, hq⟩
        · obtain ⟨k50, cs51, hm52, h53, h54, h55⟩ := hq
          have ho56 := zr_okS hM39 h55
          have hM57 := (show zr_M I I47 k50 cs51 from zr_M_t hM39 hm52 hP.2.2.2.2.1)
          have h58 := hM57.1
          have h59 := hM57.2.1
          have h60 := hM57.2.2.1
          have h61 := hM57.2.2.2.1
          have l62 : (cs51).length = cs51.length := by first | rfl | (simp only [List.length_append, List.length_cons, List.length_nil] <;> omega)
          refine lv_if_eq (tgt := 134) hx hb dX9_atom_118 (by decide) (fun c63 => absurd c63 (by decide)) (fun c63 => ?_)
          refine lv_aload_n hx hb dX9_atom_121 rfl (lv_at hl 1 rfl) ?_
          refine lv_bipush (v := 41) hx hb dX9_atom_122 (by decide) ?_
          refine z_ci hW hS hA (va_runV (As := [.int 41]) (rest := []) ⟨hx, hb, hml, hown, hts⟩ (sx_X9_taken_x l G ad c I47 ⟨(by show 0 ≤ (I47 12 1).toInt ∧ (I47 12 1).toInt ≤ 500; exact hI47R.1), (by show 0 ≤ (I47 12 5).toInt ∧ (I47 12 5).toInt ≤ 501; exact hI47R.2.1), (by show (-1) ≤ (I47 12 6).toInt ∧ (I47 12 6).toInt ≤ 1000000; exact hI47R.2.2.1), (by show 0 ≤ (I47 12 9).toInt ∧ (I47 12 9).toInt ≤ 500; exact hI47R.2.2.2.1), (by show 0 ≤ (I47 12 13).toInt ∧ (I47 12 13).toInt ≤ 24; exact hI47R.2.2.2.2)⟩ (by show (I47 12 6).toInt ≤ 501 ∧ ((I47 12 7).toInt = 401 ∨ (I47 12 6).toInt ≤ 500); first | omega | decide) k50 41 (zr_P_m hP hM57 (by omega)) (by first | omega | decide) _) (cwV 1 hts gX9_atom_X9_taken rfl rfl rfl (by decide +kernel) ⟨Nat.le_of_ble_eq_true rfl, Nat.le_of_ble_eq_true rfl⟩) (z_preV (i := 12) hK hW rfl rfl) rfl rfl hl.1 rfl (lv_room (Nat.le_of_ble_eq_true rfl)) dX9_atom_124 ⟨Nat.le_of_ble_eq_true rfl, Nat.le_of_ble_eq_true rfl⟩) (fun r u1 H locs hp hW hS => ?_)
          obtain ⟨I64, e9, hI64R, hI64T, fI64, hp⟩ := hp
          rw [e9] at hW
          have f65 := z_fr_sub (L := L_X9_atom_3x) f48 fI64 (by decide)
          have k66 : (I64 12 6).toInt ≤ 501 ∧ ((I64 12 7).toInt = 401 ∨ (I64 12 6).toInt ≤ 500) := hI64T
          rcases hp with ⟨rfl, h67, h68⟩ | ⟨rfl, h67, h68⟩
          · rw [zr_tkS hM57] at h67
            have z69 := z_l41
            have hM70 := zr_M_s hM57 h68 hP.2.2.2.2.1
            have h71 := hM70.1
            have h72 := hM70.2.1
            have h73 := hM70.2.2.1
            have h74 := hM70.2.2.2.1
            have l75 : (cs51).length = cs51.length := by first | rfl | (simp only [List.length_append, List.length_cons, List.length_nil] <;> omega)
            refine lv_if_eq (tgt := 134) hx hb dX9_atom_127 (by decide) (fun c76 => absurd c76 (by decide)) (fun c76 => ?_)
            refine lv_iconst (v := 1) hx hb dX9_atom_130 (by decide) ?_
            refine lv_goto (tgt := 135) hx hb dX9_atom_131 (by decide) ?_
            exact z_zret hx hb hr (by decide) hK hS (Nat.le_of_ble_eq_true rfl) (Nat.le_of_ble_eq_true rfl) hlocks dX9_atom_135 (shC c, ad, I64, JX, PC c ad) hW ⟨I64, rfl, ⟨(by show 0 ≤ (I64 12 1).toInt ∧ (I64 12 1).toInt ≤ 500; exact hI64R.1), (by show 0 ≤ (I64 12 5).toInt ∧ (I64 12 5).toInt ≤ 501; exact hI64R.2.1), (by show (-1) ≤ (I64 12 6).toInt ∧ (I64 12 6).toInt ≤ 1000000; exact hI64R.2.2.1), (by show 0 ≤ (I64 12 9).toInt ∧ (I64 12 9).toInt ≤ 500; exact hI64R.2.2.2.1), (by show 0 ≤ (I64 12 13).toInt ∧ (I64 12 13).toInt ≤ 24; exact hI64R.2.2.2.2)⟩, (by show (I64 12 6).toInt ≤ 501 ∧ ((I64 12 7).toInt = 401 ∨ (I64 12 6).toInt ≤ 500); first | omega | decide), f65, (Or.inl ⟨rfl, zr_ok_of hM70 rfl (by omega) (by omega) (zp_A4 (by decide) (by omega) (by decide) ho56 (by omega))⟩)⟩
          · rw [zr_tkS hM57] at h67
            have z77 := z_l41
            have hM78 := zr_M_s hM57 h68 hP.2.2.2.2.1
            have h79 := hM78.1
            have h80 := hM78.2.1
            have h81 := hM78.2.2.1
            have h82 := hM78.2.2.2.1
            have l83 : (cs51).length = cs51.length := by first | rfl | (simp only [List.length_append, List.length_cons, List.length_nil] <;> omega)
            refine lv_if_eq (tgt := 134) hx hb dX9_atom_127 (by decide) (fun c84 => ?_) (fun c84 => absurd (by decide) c84)
            refine lv_iconst (v := 0) hx hb dX9_atom_134 (by decide) ?_
            exact z_zret hx hb hr (by decide) hK hS (Nat.le_of_ble_eq_true rfl) (Nat.le_of_ble_eq_true rfl) hlocks dX9_atom_135 (shC c, ad, I64, JX, PC c ad) hW ⟨I64, rfl, ⟨(by show 0 ≤ (I64 12 1).toInt ∧ (I64 12 1).toInt ≤ 500; exact hI64R.1), (by show 0 ≤ (I64 12 5).toInt ∧ (I64 12 5).toInt ≤ 501; exact hI64R.2.1), (by show (-1) ≤ (I64 12 6).toInt ∧ (I64 12 6).toInt ≤ 1000000; exact hI64R.2.2.1), (by show 0 ≤ (I64 12 9).toInt ∧ (I64 12 9).toInt ≤ 500; exact hI64R.2.2.2.1), (by show 0 ≤ (I64 12 13).toInt ∧ (I64 12 13).toInt ≤ 24; exact hI64R.2.2.2.2)⟩, (by show (I64 12 6).toInt ≤ 501 ∧ ((I64 12 7).toInt = 401 ∨ (I64 12 6).toInt ≤ 500); first | omega | decide), f65, (Or.inr ⟨rfl, k50, (zr_F_0 hM78), (zp_A5 (by decide) (by omega) (by decide) ho56 (by omega))⟩)⟩
        · obtain ⟨f85, hf86, h87⟩ := hq
          have hb88 := zr_noS hM39 h87
          have hF89 := zr_F_m hM39 hf86
          refine lv_if_eq (tgt := 134) hx hb dX9_atom_118 (by decide) (fun c90 => ?_) (fun c90 => absurd (by decide) c90)
          refine lv_iconst (v := 0) hx hb dX9_atom_134 (by decide) ?_
          exact z_zret hx hb hr (by decide) hK hS (Nat.le_of_ble_eq_true rfl) (Nat.le_of_ble_eq_true rfl) hlocks dX9_atom_135 (shC c, ad, I47, JX, PC c ad) hW ⟨I47, rfl, ⟨(by show 0 ≤ (I47 12 1).toInt ∧ (I47 12 1).toInt ≤ 500; exact hI47R.1), (by show 0 ≤ (I47 12 5).toInt ∧ (I47 12 5).toInt ≤ 501; exact hI47R.2.1), (by show (-1) ≤ (I47 12 6).toInt ∧ (I47 12 6).toInt ≤ 1000000; exact hI47R.2.2.1), (by show 0 ≤ (I47 12 9).toInt ∧ (I47 12 9).toInt ≤ 500; exact hI47R.2.2.2.1), (by show 0 ≤ (I47 12 13).toInt ∧ (I47 12 13).toInt ≤ 24; exact hI47R.2.2.2.2)⟩, (by show (I47 12 6).toInt ≤ 501 ∧ ((I47 12 7).toInt = 401 ∨ (I47 12 6).toInt ≤ 500); first | omega | decide), f48, (Or.inr ⟨rfl, f85, hF89, (zp_A6 (by decide) (by omega) (by decide) hb88)⟩)⟩
      · have g91 := z_f_ne rfl z_l40 c32
        refine lv_iload_n hx hb dX9_atom_79 rfl (lv_at hl 0 rfl) ?_
        refine lv_sipush (v := 312) hx hb dX9_atom_80 (by decide) ?_
        refine lv_icmp_eq (tgt := 93) hx hb dX9_atom_83 (by decide) (fun c92 => ?_) (fun c92 => ?_)
        · have g93 := z_f_eq rfl z_l312 c92
          refine lv_iload_n hx hb dX9_atom_93 rfl (lv_at hl 2 rfl) ?_
          refine lv_bipush (v := 9) hx hb dX9_atom_94 (by decide) ?_
          refine lv_icmp_lt (tgt := 101) hx hb dX9_atom_96 (by decide) (fun c94 => ?_) (fun c94 => absurd (by decide) c94)
          refine lv_aload_n hx hb dX9_atom_101 rfl (lv_at hl 1 rfl) ?_
          have q95 := zr_Q_n (zr_Q_m hP hM0) (by rw [zr_tkS hM0]; omega)
          refine z_cv hW hS hA (va_runV (As := []) (rest := []) ⟨hx, hb, hml, hown, hts⟩ (sx_X9_step_x l G ad c I ⟨(by show 0 ≤ (I 12 1).toInt ∧ (I 12 1).toInt ≤ 500; exact hR.1), (by show 0 ≤ (I 12 5).toInt ∧ (I 12 5).toInt ≤ 501; exact hR.2.1), (by show (-1) ≤ (I 12 6).toInt ∧ (I 12 6).toInt ≤ 1000000; exact hR.2.2.1), (by show 0 ≤ (I 12 9).toInt ∧ (I 12 9).toInt ≤ 500; exact hR.2.2.2.1), (by show 0 ≤ (I 12 13).toInt ∧ (I 12 13).toInt ≤ 24; exact hR.2.2.2.2)⟩ (k + 1) q95 _) (cwV 0 hts gX9_atom_X9_step rfl rfl rfl (by decide +kernel) ⟨Nat.le_of_ble_eq_true rfl, Nat.le_of_ble_eq_true rfl⟩) (z_preV (i := 12) hK hW rfl rfl) rfl rfl hl.1 rfl (lv_room (Nat.le_of_ble_eq_true rfl)) dX9_atom_102 ⟨Nat.le_of_ble_eq_true rfl, Nat.le_of_ble_eq_true rfl⟩) (fun u1 H locs hp hW hS => ?_)
          obtain ⟨I96, e9, hI96R, hI96T, fI96, hp⟩ := hp
          rw [e9] at hW
          have f97 := z_fr_sub (L := L_X9_atom_3x) z_fr_0 fI96 (by decide)
          have k98 : (I96 12 6).toInt ≤ 501 ∧ ((I96 12 7).toInt = 401 ∨ (I96 12 6).toInt ≤ 500) := hI96T
          have hM99 := zr_M_s hM0 hp hP.2.2.2.2.1
          have h100 := hM99.1
          have h101 := hM99.2.1
          have h102 := hM99.2.2.1
          have h103 := hM99.2.2.2.1
          have l104 : (([] : List Int) : List Int).length = 0 := rfl
          refine lv_iload_n hx hb dX9_atom_105 rfl (lv_at hl 0 rfl) ?_
          refine lv_bipush (v := 40) hx hb dX9_atom_106 (by decide) ?_
          refine lv_icmp_ne (tgt := 136) hx hb dX9_atom_108 (by decide) (fun c105 => ?_) (fun c105 => (by have g := z_f_eq rfl z_l40 c105; omega))
          have g106 := z_f_ne rfl z_l40 c105
          refine lv_aload_n hx hb dX9_atom_136 rfl (lv_at hl 1 rfl) ?_
          refine lv_bipush (v := 40) hx hb dX9_atom_137 (by decide) ?_
          refine z_ci hW hS hA (va_runV (As := [.int 40]) (rest := []) ⟨hx, hb, hml, hown, hts⟩ (sx_X9_taken_x l G ad c I96 ⟨(by show 0 ≤ (I96 12 1).toInt ∧ (I96 12 1).toInt ≤ 500; exact hI96R.1), (by show 0 ≤ (I96 12 5).toInt ∧ (I96 12 5).toInt ≤ 501; exact hI96R.2.1), (by show (-1) ≤ (I96 12 6).toInt ∧ (I96 12 6).toInt ≤ 1000000; exact hI96R.2.2.1), (by show 0 ≤ (I96 12 9).toInt ∧ (I96 12 9).toInt ≤ 500; exact hI96R.2.2.2.1), (by show 0 ≤ (I96 12 13).toInt ∧ (I96 12 13).toInt ≤ 24; exact hI96R.2.2.2.2)⟩ (by show (I96 12 6).toInt ≤ 501 ∧ ((I96 12 7).toInt = 401 ∨ (I96 12 6).toInt ≤ 500); first | omega | decide) (k + 1) 40 (zr_P_m hP hM99 (by omega)) (by first | omega | decide) _) (cwV 1 hts gX9_atom_X9_taken rfl rfl rfl (by decide +kernel) ⟨Nat.le_of_ble_eq_true rfl, Nat.le_of_ble_eq_true rfl⟩) (z_preV (i := 12) hK hW rfl rfl) rfl rfl hl.1 rfl (lv_room (Nat.le_of_ble_eq_true rfl)) dX9_atom_139 ⟨Nat.le_of_ble_eq_true rfl, Nat.le_of_ble_eq_true rfl⟩) (fun r u1 H locs hp hW hS => ?_)
          obtain ⟨I107, e9, hI107R, hI107T, fI107, hp⟩ := hp
          rw [e9] at hW
          have f108 := z_fr_sub (L := L_X9_atom_3x) f97 fI107 (by decide)
          have k109 : (I107 12 6).toInt ≤ 501 ∧ ((I107 12 7).toInt = 401 ∨ (I107 12 6).toInt ≤ 500) := hI107T
          rcases hp with ⟨rfl, h110, h111⟩ | ⟨rfl, h110, h111⟩
          · rw [zr_tkS hM99] at h110
            have z112 := z_l40
            have hM113 := zr_M_s hM99 h111 hP.2.2.2.2.1
            have h114 := hM113.1
            have h115 := hM113.2.1
            have h116 := hM113.2.2.1
            have h117 := hM113.2.2.2.1
            have l118 : (([] : List Int) : List Int).length = 0 := rfl
            refine lv_if_eq (tgt := 183) hx hb dX9_atom_142 (by decide) (fun c119 => absurd c119 (by decide)) (fun c119 => ?_)
            refine lv_aload_n hx hb dX9_atom_145 rfl (lv_at hl 1 rfl) ?_
            refine lv_iload_n hx hb dX9_atom_146 rfl (lv_at hl 2 rfl) ?_
            refine lv_iconst (v := 1) hx hb dX9_atom_147 (by decide) ?_
            refine lv_iadd hx hb dX9_atom_148 ?_
            refine z_topi (v := 4) (by decide) ?_
            refine z_ci hW hS hA (va_runV (As := [.int 4]) (rest := []) ⟨hx, hb, hml, hown, hts⟩ (sx_X9_sum_4x l G ad c I107 ⟨(by show 0 ≤ (I107 12 1).toInt ∧ (I107 12 1).toInt ≤ 500; exact hI107R.1), (by show 0 ≤ (I107 12 5).toInt ∧ (I107 12 5).toInt ≤ 501; exact hI107R.2.1), (by show (-1) ≤ (I107 12 6).toInt ∧ (I107 12 6).toInt ≤ 1000000; exact hI107R.2.2.1), (by show 0 ≤ (I107 12 9).toInt ∧ (I107 12 9).toInt ≤ 500; exact hI107R.2.2.2.1), (by show 0 ≤ (I107 12 13).toInt ∧ (I107 12 13).toInt ≤ 24; exact hI107R.2.2.2.2)⟩ (by show (I107 12 6).toInt ≤ 501 ∧ ((I107 12 7).toInt = 401 ∨ (I107 12 6).toInt ≤ 500); first | omega | decide) ((k + 1) + 1) (zr_P_m hP hM113 (by omega)) _) (cwV 1 hts gX9_atom_X9_sum rfl rfl rfl (by decide +kernel) ⟨Nat.le_of_ble_eq_true rfl, Nat.le_of_ble_eq_true rfl⟩) (z_preV (i := 12) hK hW rfl rfl) rfl rfl hl.1 rfl (lv_room (Nat.le_of_ble_eq_true rfl)) dX9_atom_149 ⟨Nat.le_of_ble_eq_true rfl, Nat.le_of_ble_eq_true rfl⟩) (fun r u1 H locs hp hW hS => ?_)
            obtain ⟨I120, e9, hI120R, hI120T, fI120, hp⟩ := hp
            rw [e9] at hW
            have f121 := z_fr_sub (L := L_X9_atom_3x) f108 fI120 (by decide)
            have k122 : (I120 12 6).toInt ≤ 501 ∧ ((I120 12 7).toInt = 401 ∨ (I120 12 6).toInt ≤ 500) := hI120T
            rcases hp with ⟨rfl, hq⟩ | ⟨rfl, hq⟩
            · obtain ⟨k123, cs124, hm125, h126, h127, h128⟩ := hq
              have ho129 := zr_okS hM113 h128
              have hM130 := (show zr_M I I120 k123 cs124 from zr_M_t hM113 hm125 hP.2.2.2.2.1)
              have h131 := hM130.1
              have h132 := hM130.2.1
              have h133 := hM130.2.2.1
              have h134 := hM130.2.2.2.1
              have l135 : (cs124).length = cs124.length := by first | rfl | (simp only [List.length_append, List.length_cons, List.length_nil] <;> omega)
              refine lv_if_eq (tgt := 183) hx hb dX9_atom_152 (by decide) (fun c136 => absurd c136 (by decide)) (fun c136 => ?_)
              refine lv_aload_n hx hb dX9_atom_155 rfl (lv_at hl 1 rfl) ?_
              refine lv_bipush (v := 44) hx hb dX9_atom_156 (by decide) ?_
              refine z_ci hW hS hA (va_runV (As := [.int 44]) (rest := []) ⟨hx, hb, hml, hown, hts⟩ (sx_X9_taken_x l G ad c I120 ⟨(by show 0 ≤ (I120 12 1).toInt ∧ (I120 12 1).toInt ≤ 500; exact hI120R.1), (by show 0 ≤ (I120 12 5).toInt ∧ (I120 12 5).toInt ≤ 501; exact hI120R.2.1), (by show (-1) ≤ (I120 12 6).toInt ∧ (I120 12 6).toInt ≤ 1000000; exact hI120R.2.2.1), (by show 0 ≤ (I120 12 9).toInt ∧ (I120 12 9).toInt ≤ 500; exact hI120R.2.2.2.1), (by show 0 ≤ (I120 12 13).toInt ∧ (I120 12 13).toInt ≤ 24; exact hI120R.2.2.2.2)⟩ (by show (I120 12 6).toInt ≤ 501 ∧ ((I120 12 7).toInt = 401 ∨ (I120 12 6).toInt ≤ 500); first | omega | decide) k123 44 (zr_P_m hP hM130 (by omega)) (by first | omega | decide) _) (cwV 1 hts gX9_atom_X9_taken rfl rfl rfl (by decide +kernel) ⟨Nat.le_of_ble_eq_true rfl, Nat.le_of_ble_eq_true rfl⟩) (z_preV (i := 12) hK hW rfl rfl) rfl rfl hl.1 rfl (lv_room (Nat.le_of_ble_eq_true rfl)) dX9_atom_158 ⟨Nat.le_of_ble_eq_true rfl, Nat.le_of_ble_eq_true rfl⟩) (fun r u1 H locs hp hW hS => ?_)
              obtain ⟨I137, e9, hI137R, hI137T, fI137, hp⟩ := hp
              rw [e9] at hW
              have f138 := z_fr_sub (L := L_X9_atom_3x) f121 fI137 (by decide)
              have k139 : (I137 12 6).toInt ≤ 501 ∧ ((I137 12 7).toInt = 401 ∨ (I137 12 6).toInt ≤ 500) := hI137T
              rcases hp with ⟨rfl, h140, h141⟩ | ⟨rfl, h140, h141⟩
              · rw [zr_tkS hM130] at h140
                have z142 := z_l44
                have hM143 := zr_M_s hM130 h141 hP.2.2.2.2.1
                have h144 := hM143.1
                have h145 := hM143.2.1
                have h146 := hM143.2.2.1
                have h147 := hM143.2.2.2.1
                have l148 : (cs124).length = cs124.length := by first | rfl | (simp only [List.length_append, List.length_cons, List.length_nil] <;> omega)
                refine lv_if_eq (tgt := 183) hx hb dX9_atom_161 (by decide) (fun c149 => absurd c149 (by decide)) (fun c149 => ?_)
                refine lv_aload_n hx hb dX9_atom_164 rfl (lv_at hl 1 rfl) ?_
                refine lv_iload_n hx hb dX9_atom_165 rfl (lv_at hl 2 rfl) ?_
                refine lv_iconst (v := 1) hx hb dX9_atom_166 (by decide) ?_
                refine lv_iadd hx hb dX9_atom_167 ?_
                refine z_topi (v := 4) (by decide) ?_
                refine z_ci hW hS hA (va_runV (As := [.int 4]) (rest := []) ⟨hx, hb, hml, hown, hts⟩ (sx_X9_sum_4x l G ad c I137 ⟨(by show 0 ≤ (I137 12 1).toInt ∧ (I137 12 1).toInt ≤ 500; exact hI137R.1), (by show 0 ≤ (I137 12 5).toInt ∧ (I137 12 5).toInt ≤ 501; exact hI137R.2.1), (by show (-1) ≤ (I137 12 6).toInt ∧ (I137 12 6).toInt ≤ 1000000; exact hI137R.2.2.1), (by show 0 ≤ (I137 12 9).toInt ∧ (I137 12 9).toInt ≤ 500; exact hI137R.2.2.2.1), (by show 0 ≤ (I137 12 13).toInt ∧ (I137 12 13).toInt ≤ 24; exact hI137R.2.2.2.2)⟩ (by show (I137 12 6).toInt ≤ 501 ∧ ((I137 12 7).toInt = 401 ∨ (I137 12 6).toInt ≤ 500); first | omega | decide) (k123 + 1) (zr_P_m hP hM143 (by omega)) _) (cwV 1 hts gX9_atom_X9_sum rfl rfl rfl (by decide +kernel) ⟨Nat.le_of_ble_eq_true rfl, Nat.le_of_ble_eq_true rfl⟩) (z_preV (i := 12) hK hW rfl rfl) rfl rfl hl.1 rfl (lv_room (Nat.le_of_ble_eq_true rfl)) dX9_atom_168 ⟨Nat.le_of_ble_eq_true rfl, Nat.le_of_ble_eq_true rfl⟩) (fun r u1 H locs hp hW hS => ?_)
                obtain ⟨I150, e9, hI150R, hI150T, fI150, hp⟩ := hp
                rw [e9] at hW
                have f151 := z_fr_sub (L := L_X9_atom_3x) f138 fI150 (by decide)
                have k152 : (I150 12 6).toInt ≤ 501 ∧ ((I150 12 7).toInt = 401 ∨ (I150 12 6).toInt ≤ 500) := hI150T
                rcases hp with ⟨rfl, hq⟩ | ⟨rfl, hq⟩
                · obtain ⟨k153, cs154, hm155, h156, h157, h158⟩ := hq
                  have ho159 := zr_okS hM143 h158
                  have hM160 := zr_M_t hM143 hm155 hP.2.2.2.2.1
                  have h161 := hM160.1
                  have h162 := hM160.2.1
                  have h163 := hM160.2.2.1
                  have h164 := hM160.2.2.2.1
                  have l165 : ((cs124 ++ cs154)).length = cs124.length + cs154.length := by first | rfl | (simp only [List.length_append, List.length_cons, List.length_nil] <;> omega)
                  refine lv_if_eq (tgt := 183) hx hb dX9_atom_171 (by decide) (fun c166 => absurd c166 (by decide)) (fun c166 => ?_)
                  refine lv_aload_n hx hb dX9_atom_174 rfl (lv_at hl 1 rfl) ?_
                  refine lv_bipush (v := 41) hx hb dX9_atom_175 (by decide) ?_
                  refine z_ci hW hS hA (va_runV (As := [.int 41]) (rest := []) ⟨hx, hb, hml, hown, hts⟩ (sx_X9_taken_x l G ad c I150 ⟨(by show 0 ≤ (I150 12 1).toInt ∧ (I150 12 1).toInt ≤ 500; exact hI150R.1), (by show 0 ≤ (I150 12 5).toInt ∧ (I150 12 5).toInt ≤ 501; exact hI150R.2.1), (by show (-1) ≤ (I150 12 6).toInt ∧ (I150 12 6).toInt ≤ 1000000; exact hI150R.2.2.1), (by show 0 ≤ (I150 12 9).toInt ∧ (I150 12 9).toInt ≤ 500; exact hI150R.2.2.2.1), (by show 0 ≤ (I150 12 13).toInt ∧ (I150 12 13).toInt ≤ 24; exact hI150R.2.2.2.2)⟩ (by show (I150 12 6).toInt ≤ 501 ∧ ((I150 12 7).toInt = 401 ∨ (I150 12 6).toInt ≤ 500); first | omega | decide) k153 41 (zr_P_m hP hM160 (by omega)) (by first | omega | decide) _) (cwV 1 hts gX9_atom_X9_taken rfl rfl rfl (by decide +kernel) ⟨Nat.le_of_ble_eq_true rfl, Nat.le_of_ble_eq_true rfl⟩) (z_preV (i := 12) hK hW rfl rfl) rfl rfl hl.1 rfl (lv_room (Nat.le_of_ble_eq_true rfl)) dX9_atom_177 ⟨Nat.le_of_ble_eq_true rfl, Nat.le_of_ble_eq_true rfl⟩) (fun r u1 H locs hp hW hS => ?_)
                  obtain ⟨I167, e9, hI167R, hI167T, fI167, hp⟩ := hp
                  rw [e9] at hW
                  have f168 := z_fr_sub (L := L_X9_atom_3x) f151 fI167 (by decide)
                  have k169 : (I167 12 6).toInt ≤ 501 ∧ ((I167 12 7).toInt = 401 ∨ (I167 12 6).toInt ≤ 500) := hI167T
                  rcases hp with ⟨rfl, h170, h171⟩ | ⟨rfl, h170, h171⟩
                  · rw [zr_tkS hM160] at h170
                    have z172 := z_l41
                    have hM173 := zr_M_s hM160 h171 hP.2.2.2.2.1
                    have h174 := hM173.1
                    have h175 := hM173.2.1
                    have h176 := hM173.2.2.1
                    have h177 := hM173.2.2.2.1
                    have l178 : ((cs124 ++ cs154)).length = cs124.length + cs154.length := by first | rfl | (simp only [List.length_append, List.length_cons, List.length_nil] <;> omega)
                    refine lv_if_ne (tgt := 185) hx hb dX9_atom_180 (by decide) (fun c179 => ?_) (fun c179 => absurd c179 (by decide))
                    refine lv_aload_n hx hb dX9_atom_185 rfl (lv_at hl 1 rfl) ?_
                    refine lv_iload_n hx hb dX9_atom_186 rfl (lv_at hl 0 rfl) ?_
                    refine lv_sipush (v := 312) hx hb dX9_atom_187 (by decide) ?_
                    refine lv_icmp_ne (tgt := 198) hx hb dX9_atom_190 (by decide) (fun c180 => (by have g := z_f_ne rfl z_l312 c180; omega)) (fun c180 => ?_)
                    have g181 := z_f_eq rfl z_l312 c180
                    refine lv_bipush (v := (-5)) hx hb dX9_atom_193 (by decide) ?_
                    refine lv_goto (tgt := 200) hx hb dX9_atom_195 (by decide) ?_
                    refine z_cv hW hS hA (va_runV (As := [.int (-5)]) (rest := []) ⟨hx, hb, hml, hown, hts⟩ (sx_X9_emit_x l G ad c I167 ⟨(by show 0 ≤ (I167 12 1).toInt ∧ (I167 12 1).toInt ≤ 500; exact hI167R.1), (by show 0 ≤ (I167 12 5).toInt ∧ (I167 12 5).toInt ≤ 501; exact hI167R.2.1), (by show (-1) ≤ (I167 12 6).toInt ∧ (I167 12 6).toInt ≤ 1000000; exact hI167R.2.2.1), (by show 0 ≤ (I167 12 9).toInt ∧ (I167 12 9).toInt ≤ 500; exact hI167R.2.2.2.1), (by show 0 ≤ (I167 12 13).toInt ∧ (I167 12 13).toInt ≤ 24; exact hI167R.2.2.2.2)⟩ (-5) (by omega) _) (cwV 1 hts gX9_atom_X9_emit rfl rfl rfl (by decide +kernel) ⟨Nat.le_of_ble_eq_true rfl, Nat.le_of_ble_eq_true rfl⟩) (z_preV (i := 12) hK hW rfl rfl) rfl rfl hl.1 rfl (lv_room (Nat.le_of_ble_eq_true rfl)) dX9_atom_200 ⟨Nat.le_of_ble_eq_true rfl, Nat.le_of_ble_eq_true rfl⟩) (fun u1 H locs hp hW hS => ?_)
                    obtain ⟨I182, e9, hI182R, fI182, hp⟩ := hp
                    rw [e9] at hW
                    have f183 := z_fr_sub (L := L_X9_atom_3x) f168 fI182 (by decide)
                    have k184 : (I182 12 6).toInt ≤ 501 ∧ ((I182 12 7).toInt = 401 ∨ (I182 12 6).toInt ≤ 500) := (by have q0 : (I182 12 6) = (I167 12 6) := (by rw [fI182 12 6 (by decide)]); have q1 : (I182 12 7) = (I167 12 7) := (by rw [fI182 12 7 (by decide)]); show (I182 12 6).toInt ≤ 501 ∧ ((I182 12 7).toInt = 401 ∨ (I182 12 6).toInt ≤ 500); rw [q0, q1]; first | omega | decide)
                    have hM185 := zr_M_e hM173 hp (show ((-5) : Int32).toInt = (-5) by decide) hP.2.2.2.2.1
                    have h186 := hM185.1
                    have h187 := hM185.2.1
                    have h188 := hM185.2.2.1
                    have h189 := hM185.2.2.2.1
                    have l190 : (((cs124 ++ cs154) ++ [(-5)])).length = cs124.length + cs154.length + 1 := by first | rfl | (simp only [List.length_append, List.length_cons, List.length_nil] <;> omega)
                    refine lv_iconst (v := 1) hx hb dX9_atom_203 (by decide) ?_
                    exact z_zret hx hb hr (by decide) hK hS (Nat.le_of_ble_eq_true rfl) (Nat.le_of_ble_eq_true rfl) hlocks dX9_atom_204 (shC c, ad, I182, JX, PC c ad) hW ⟨I182, rfl, ⟨(by show 0 ≤ (I182 12 1).toInt ∧ (I182 12 1).toInt ≤ 500; exact hI182R.1), (by show 0 ≤ (I182 12 5).toInt ∧ (I182 12 5).toInt ≤ 501; exact hI182R.2.1), (by show (-1) ≤ (I182 12 6).toInt ∧ (I182 12 6).toInt ≤ 1000000; exact hI182R.2.2.1), (by show 0 ≤ (I182 12 9).toInt ∧ (I182 12 9).toInt ≤ 500; exact hI182R.2.2.2.1), (by show 0 ≤ (I182 12 13).toInt ∧ (I182 12 13).toInt ≤ 24; exact hI182R.2.2.2.2)⟩, (by show (I182 12 6).toInt ≤ 501 ∧ ((I182 12 7).toInt = 401 ∨ (I182 12 6).toInt ≤ 500); first | omega | decide), f183, (Or.inl ⟨rfl, zr_ok_of hM185 (by rw [show (307 - zr_tk I k) = (-5) by omega]; simp only [List.append_assoc]) (by omega) (by omega) (zp_A12 (by decide) (by omega) (by decide) (by omega) ho129 (by omega) ho159 (by omega))⟩)⟩
                  · rw [zr_tkS hM160] at h170
                    have z191 := z_l41
                    have hM192 := zr_M_s hM160 h171 hP.2.2.2.2.1
                    have h193 := hM192.1
                    have h194 := hM192.2.1
                    have h195 := hM192.2.2.1
                    have h196 := hM192.2.2.2.1
                    have l197 : ((cs124 ++ cs154)).length = cs124.length + cs154.length := by first | rfl | (simp only [List.length_append, List.length_cons, List.length_nil] <;> omega)
                    refine lv_if_ne (tgt := 185) hx hb dX9_atom_180 (by decide) (fun c198 => absurd (by decide) c198) (fun c198 => ?_)
                    refine lv_iconst (v := 0) hx hb dX9_atom_183 (by decide) ?_
                    exact z_zret hx hb hr (by decide) hK hS (Nat.le_of_ble_eq_true rfl) (Nat.le_of_ble_eq_true rfl) hlocks dX9_atom_184 (shC c, ad, I167, JX, PC c ad) hW ⟨I167, rfl, ⟨(by show 0 ≤ (I167 12 1).toInt ∧ (I167 12 1).toInt ≤ 500; exact hI167R.1), (by show 0 ≤ (I167 12 5).toInt ∧ (I167 12 5).toInt ≤ 501; exact hI167R.2.1), (by show (-1) ≤ (I167 12 6).toInt ∧ (I167 12 6).toInt ≤ 1000000; exact hI167R.2.2.1), (by show 0 ≤ (I167 12 9).toInt ∧ (I167 12 9).toInt ≤ 500; exact hI167R.2.2.2.1), (by show 0 ≤ (I167 12 13).toInt ∧ (I167 12 13).toInt ≤ 24; exact hI167R.2.2.2.2)⟩, (by show (I167 12 6).toInt ≤ 501 ∧ ((I167 12 7).toInt = 401 ∨ (I167 12 6).toInt ≤ 500); first | omega | decide), f168, (Or.inr ⟨rfl, k153, (zr_F_0 hM192), (zp_A11 (by decide) (by omega) (by decide) (by omega) ho129 (by omega) ho159 (by omega))⟩)⟩
                · obtain ⟨f199, hf200, h201⟩ := hq
                  have hb202 := zr_noS hM143 h201
                  have hF203 := zr_F_m hM143 hf200
                  refine lv_if_eq (tgt := 183) hx hb dX9_atom_171 (by decide) (fun c204 => ?_) (fun c204 => absurd (by decide) c204)
                  refine lv_iconst (v := 0) hx hb dX9_atom_183 (by decide) ?_
                  exact z_zret hx hb hr (by decide) hK hS (Nat.le_of_ble_eq_true rfl) (Nat.le_of_ble_eq_true rfl) hlocks dX9_atom_184 (shC c, ad, I150, JX, PC c ad) hW ⟨I150, rfl, ⟨(by show 0 ≤ (I150 12 1).toInt ∧ (I150 12 1).toInt ≤ 500; exact hI150R.1), (by show 0 ≤ (I150 12 5).toInt ∧ (I150 12 5).toInt ≤ 501; exact hI150R.2.1), (by show (-1) ≤ (I150 12 6).toInt ∧ (I150 12 6).toInt ≤ 1000000; exact hI150R.2.2.1), (by show 0 ≤ (I150 12 9).toInt ∧ (I150 12 9).toInt ≤ 500; exact hI150R.2.2.2.1), (by show 0 ≤ (I150 12 13).toInt ∧ (I150 12 13).toInt ≤ 24; exact hI150R.2.2.2.2)⟩, (by show (I150 12 6).toInt ≤ 501 ∧ ((I150 12 7).toInt = 401 ∨ (I150 12 6).toInt ≤ 500); first | omega | decide), f151, (Or.inr ⟨rfl, f199, hF203, (zp_A10 (by decide) (by omega) (by decide) (by omega) ho129 (by omega) hb202)⟩)⟩
              · rw [zr_tkS hM130] at h140
                have z205 := z_l44
                have hM206 := zr_M_s hM130 h141 hP.2.2.2.2.1
                have h207 := hM206.1
                have h208 := hM206.2.1
                have h209 := hM206.2.2.1
                have h210 := hM206.2.2.2.1
                have l211 : (cs124).length = cs124.length := by first | rfl | (simp only [List.length_append, List.length_cons, List.length_nil] <;> omega)
                refine lv_if_eq (tgt := 183) hx hb dX9_atom_161 (by decide) (fun c212 => ?_) (fun c212 => absurd (by decide) c212)
                refine lv_iconst (v := 0) hx hb dX9_atom_183 (by decide) ?_
                exact z_zret hx hb hr (by decide) hK hS (Nat.le_of_ble_eq_true rfl) (Nat.le_of_ble_eq_true rfl) hlocks dX9_atom_184 (shC c, ad, I137, JX, PC c ad) hW ⟨I137, rfl, ⟨(by show 0 ≤ (I137 12 1).toInt ∧ (I137 12 1).toInt ≤ 500; exact hI137R.1), (by show 0 ≤ (I137 12 5).toInt ∧ (I137 12 5).toInt ≤ 501; exact hI137R.2.1), (by show (-1) ≤ (I137 12 6).toInt ∧ (I137 12 6).toInt ≤ 1000000; exact hI137R.2.2.1), (by show 0 ≤ (I137 12 9).toInt ∧ (I137 12 9).toInt ≤ 500; exact hI137R.2.2.2.1), (by show 0 ≤ (I137 12 13).toInt ∧ (I137 12 13).toInt ≤ 24; exact hI137R.2.2.2.2)⟩, (by show (I137 12 6).toInt ≤ 501 ∧ ((I137 12 7).toInt = 401 ∨ (I137 12 6).toInt ≤ 500); first | omega | decide), f138, (Or.inr ⟨rfl, k123, (zr_F_0 hM206), (zp_A9 (by decide) (by omega) (by decide) (by omega) ho129 (by omega))⟩)⟩
            · obtain ⟨f213, hf214, h215⟩ := hq
              have hb216 := zr_noS hM113 h215
              have hF217 := zr_F_m hM113 hf214
              refine lv_if_eq (tgt := 183) hx hb dX9_atom_152 (by decide) (fun c218 => ?_) (fun c218 => absurd (by decide) c218)
              refine lv_iconst (v := 0) hx hb dX9_atom_183 (by decide) ?_
              exact z_zret hx hb hr (by decide) hK hS (Nat.le_of_ble_eq_true rfl) (Nat.le_of_ble_eq_true rfl) hlocks dX9_atom_184 (shC c, ad, I120, JX, PC c ad) hW ⟨I120, rfl, ⟨(by show 0 ≤ (I120 12 1).toInt ∧ (I120 12 1).toInt ≤ 500; exact hI120R.1), (by show 0 ≤ (I120 12 5).toInt ∧ (I120 12 5).toInt ≤ 501; exact hI120R.2.1), (by show (-1) ≤ (I120 12 6).toInt ∧ (I120 12 6).toInt ≤ 1000000; exact hI120R.2.2.1), (by show 0 ≤ (I120 12 9).toInt ∧ (I120 12 9).toInt ≤ 500; exact hI120R.2.2.2.1), (by show 0 ≤ (I120 12 13).toInt ∧ (I120 12 13).toInt ≤ 24; exact hI120R.2.2.2.2)⟩, (by show (I120 12 6).toInt ≤ 501 ∧ ((I120 12 7).toInt = 401 ∨ (I120 12 6).toInt ≤ 500); first | omega | decide), f121, (Or.inr ⟨rfl, f213, hF217, (zp_A8 (by decide) (by omega) (by decide) (by omega) hb216)⟩)⟩
          · rw [zr_tkS hM99] at h110
            have z219 := z_l40
            have hM220 := zr_M_s hM99 h111 hP.2.2.2.2.1
            have h221 := hM220.1
            have h222 := hM220.2.1
            have h223 := hM220.2.2.1
            have h224 := hM220.2.2.2.1
            have l225 : (([] : List Int) : List Int).length = 0 := rfl
            refine lv_if_eq (tgt := 183) hx hb dX9_atom_142 (by decide) (fun c226 => ?_) (fun c226 => absurd (by decide) c226)
            refine lv_iconst (v := 0) hx hb dX9_atom_183 (by decide) ?_
            exact z_zret hx hb hr (by decide) hK hS (Nat.le_of_ble_eq_true rfl) (Nat.le_of_ble_eq_true rfl) hlocks dX9_atom_184 (shC c, ad, I107, JX, PC c ad) hW ⟨I107, rfl, ⟨(by show 0 ≤ (I107 12 1).toInt ∧ (I107 12 1).toInt ≤ 500; exact hI107R.1), (by show 0 ≤ (I107 12 5).toInt ∧ (I107 12 5).toInt ≤ 501; exact hI107R.2.1), (by show (-1) ≤ (I107 12 6).toInt ∧ (I107 12 6).toInt ≤ 1000000; exact hI107R.2.2.1), (by show 0 ≤ (I107 12 9).toInt ∧ (I107 12 9).toInt ≤ 500; exact hI107R.2.2.2.1), (by show 0 ≤ (I107 12 13).toInt ∧ (I107 12 13).toInt ≤ 24; exact hI107R.2.2.2.2)⟩, (by show (I107 12 6).toInt ≤ 501 ∧ ((I107 12 7).toInt = 401 ∨ (I107 12 6).toInt ≤ 500); first | omega | decide), f108, (Or.inr ⟨rfl, (k + 1), (zr_F_0 hM220), (zp_A7 (by omega) (by decide) (by omega))⟩)⟩
        · have g227 := z_f_ne rfl z_l312 c92
          refine lv_iload_n hx hb dX9_atom_86 rfl (lv_at hl 0 rfl) ?_
          refine lv_sipush (v := 313) hx hb dX9_atom_87 (by decide) ?_
          refine lv_icmp_ne (tgt := 99) hx hb dX9_atom_90 (by decide) (fun c228 => ?_) (fun c228 => ?_)
          · have g229 := z_f_ne rfl z_l313 c228
            refine lv_iconst (v := 0) hx hb dX9_atom_99 (by decide) ?_
            exact z_zret hx hb hr (by decide) hK hS (Nat.le_of_ble_eq_true rfl) (Nat.le_of_ble_eq_true rfl) hlocks dX9_atom_100 (shC c, ad, I, JX, PC c ad) hW ⟨I, rfl, ⟨(by show 0 ≤ (I 12 1).toInt ∧ (I 12 1).toInt ≤ 500; exact hR.1), (by show 0 ≤ (I 12 5).toInt ∧ (I 12 5).toInt ≤ 501; exact hR.2.1), (by show (-1) ≤ (I 12 6).toInt ∧ (I 12 6).toInt ≤ 1000000; exact hR.2.2.1), (by show 0 ≤ (I 12 9).toInt ∧ (I 12 9).toInt ≤ 500; exact hR.2.2.2.1), (by show 0 ≤ (I 12 13).toInt ∧ (I 12 13).toInt ≤ 24; exact hR.2.2.2.2)⟩, (by show (I 12 6).toInt ≤ 501 ∧ ((I 12 7).toInt = 401 ∨ (I 12 6).toInt ≤ 500); first | omega | decide), z_fr_0, (Or.inr ⟨rfl, k, (zr_F_0 hM0), (zp_A3 (by omega) (by omega) (Or.inr ⟨by omega, by omega, by omega⟩))⟩)⟩
          · have g230 := z_f_eq rfl z_l313 c228
            refine lv_iload_n hx hb dX9_atom_93 rfl (lv_at hl 2 rfl) ?_
            refine lv_bipush (v := 9) hx hb dX9_atom_94 (by decide) ?_
            refine lv_icmp_lt (tgt := 101) hx hb dX9_atom_96 (by decide) (fun c231 => ?_) (fun c231 => absurd (by decide) c231)
            refine lv_aload_n hx hb dX9_atom_101 rfl (lv_at hl 1 rfl) ?_
            have q232 := zr_Q_n (zr_Q_m hP hM0) (by rw [zr_tkS hM0]; omega)
            refine z_cv hW hS hA (va_runV (As := []) (rest := []) ⟨hx, hb, hml, hown, hts⟩ (sx_X9_step_x l G ad c I ⟨(by show 0 ≤ (I 12 1).toInt ∧ (I 12 1).toInt ≤ 500; exact hR.1), (by show 0 ≤ (I 12 5).toInt ∧ (I 12 5).toInt ≤ 501; exact hR.2.1), (by show (-1) ≤ (I 12 6).toInt ∧ (I 12 6).toInt ≤ 1000000; exact hR.2.2.1), (by show 0 ≤ (I 12 9).toInt ∧ (I 12 9).toInt ≤ 500; exact hR.2.2.2.1), (by show 0 ≤ (I 12 13).toInt ∧ (I 12 13).toInt ≤ 24; exact hR.2.2.2.2)⟩ (k + 1) q232 _) (cwV 0 hts gX9_atom_X9_step rfl rfl rfl (by decide +kernel) ⟨Nat.le_of_ble_eq_true rfl, Nat.le_of_ble_eq_true rfl⟩) (z_preV (i := 12) hK hW rfl rfl) rfl rfl hl.1 rfl (lv_room (Nat.le_of_ble_eq_true rfl)) dX9_atom_102 ⟨Nat.le_of_ble_eq_true rfl, Nat.le_of_ble_eq_true rfl⟩) (fun u1 H locs hp hW hS => ?_)
            obtain ⟨I233, e9, hI233R, hI233T, fI233, hp⟩ := hp
            rw [e9] at hW
            have f234 := z_fr_sub (L := L_X9_atom_3x) z_fr_0 fI233 (by decide)
            have k235 : (I233 12 6).toInt ≤ 501 ∧ ((I233 12 7).toInt = 401 ∨ (I233 12 6).toInt ≤ 500) := hI233T
            have hM236 := zr_M_s hM0 hp hP.2.2.2.2.1
            have h237 := hM236.1
            have h238 := hM236.2.1
            have h239 := hM236.2.2.1
            have h240 := hM236.2.2.2.1
            have l241 : (([] : List Int) : List Int).length = 0 := rfl
            refine lv_iload_n hx hb dX9_atom_105 rfl (lv_at hl 0 rfl) ?_
            refine lv_bipush (v := 40) hx hb dX9_atom_106 (by decide) ?_
            refine lv_icmp_ne (tgt := 136) hx hb dX9_atom_108 (by decide) (fun c242 => ?_) (fun c242 => (by have g := z_f_eq rfl z_l40 c242; omega))
            have g243 := z_f_ne rfl z_l40 c242
            refine lv_aload_n hx hb dX9_atom_136 rfl (lv_at hl 1 rfl) ?_
            refine lv_bipush (v := 40) hx hb dX9_atom_137 (by decide) ?_
            refine z_ci hW hS hA (va_runV (As := [.int 40]) (rest := []) ⟨hx, hb, hml, hown, hts⟩ (sx_X9_taken_x l G ad c I233 ⟨(by show 0 ≤ (I233 12 1).toInt ∧ (I233 12 1).toInt ≤ 500; exact hI233R.1), (by show 0 ≤ (I233 12 5).toInt ∧ (I233 12 5).toInt ≤ 501; exact hI233R.2.1), (by show (-1) ≤ (I233 12 6).toInt ∧ (I233 12 6).toInt ≤ 1000000; exact hI233R.2.2.1), (by show 0 ≤ (I233 12 9).toInt ∧ (I233 12 9).toInt ≤ 500; exact hI233R.2.2.2.1), (by show 0 ≤ (I233 12 13).toInt ∧ (I233 12 13).toInt ≤ 24; exact hI233R.2.2.2.2)⟩ (by show (I233 12 6).toInt ≤ 501 ∧ ((I233 12 7).toInt = 401 ∨ (I233 12 6).toInt ≤ 500); first | omega | decide) (k + 1) 40 (zr_P_m hP hM236 (by omega)) (by first | omega | decide) _) (cwV 1 hts gX9_atom_X9_taken rfl rfl rfl (by decide +kernel) ⟨Nat.le_of_ble_eq_true rfl, Nat.le_of_ble_eq_true rfl⟩) (z_preV (i := 12) hK hW rfl rfl) rfl rfl hl.1 rfl (lv_room (Nat.le_of_ble_eq_true rfl)) dX9_atom_139 ⟨Nat.le_of_ble_eq_true rfl, Nat.le_of_ble_eq_true rfl⟩) (fun r u1 H locs hp hW hS => ?_)
            obtain ⟨I244, e9, hI244R, hI244T, fI244, hp⟩ := hp
            rw [e9] at hW
            have f245 := z_fr_sub (L := L_X9_atom_3x) f234 fI244 (by decide)
            have k246 : (I244 12 6).toInt ≤ 501 ∧ ((I244 12 7).toInt = 401 ∨ (I244 12 6).toInt ≤ 500) := hI244T
            rcases hp with ⟨rfl, h247, h248⟩ | ⟨rfl, h247, h248⟩
            · rw [zr_tkS hM236] at h247
              have z249 := z_l40
              have hM250 := zr_M_s hM236 h248 hP.2.2.2.2.1
              have h251 := hM250.1
              have h252 := hM250.2.1
              have h253 := hM250.2.2.1
              have h254 := hM250.2.2.2.1
              have l255 : (([] : List Int) : List Int).length = 0 := rfl
              refine lv_if_eq (tgt := 183) hx hb dX9_atom_142 (by decide) (fun c256 => absurd c256 (by decide)) (fun c256 => ?_)
              refine lv_aload_n hx hb dX9_atom_145 rfl (lv_at hl 1 rfl) ?_
              refine lv_iload_n hx hb dX9_atom_146 rfl (lv_at hl 2 rfl) ?_
              refine lv_iconst (v := 1) hx hb dX9_atom_147 (by decide) ?_
              refine lv_iadd hx hb dX9_atom_148 ?_
              refine z_topi (v := 4) (by decide) ?_
              refine z_ci hW hS hA (va_runV (As := [.int 4]) (rest := []) ⟨hx, hb, hml, hown, hts⟩ (sx_X9_sum_4x l G ad c I244 ⟨(by show 0 ≤ (I244 12 1).toInt ∧ (I244 12 1).toInt ≤ 500; exact hI244R.1), (by show 0 ≤ (I244 12 5).toInt ∧ (I244 12 5).toInt ≤ 501; exact hI244R.2.1), (by show (-1) ≤ (I244 12 6).toInt ∧ (I244 12 6).toInt ≤ 1000000; exact hI244R.2.2.1), (by show 0 ≤ (I244 12 9).toInt ∧ (I244 12 9).toInt ≤ 500; exact hI244R.2.2.2.1), (by show 0 ≤ (I244 12 13).toInt ∧ (I244 12 13).toInt ≤ 24; exact hI244R.2.2.2.2)⟩ (by show (I244 12 6).toInt ≤ 501 ∧ ((I244 12 7).toInt = 401 ∨ (I244 12 6).toInt ≤ 500); first | omega | decide) ((k + 1) + 1) (zr_P_m hP hM250 (by omega)) _) (cwV 1 hts gX9_atom_X9_sum rfl rfl rfl (by decide +kernel) ⟨Nat.le_of_ble_eq_true rfl, Nat.le_of_ble_eq_true rfl⟩) (z_preV (i := 12) hK hW rfl rfl) rfl rfl hl.1 rfl (lv_room (Nat.le_of_ble_eq_true rfl)) dX9_atom_149 ⟨Nat.le_of_ble_eq_true rfl, Nat.le_of_ble_eq_true rfl⟩) (fun r u1 H locs hp hW hS => ?_)
              obtain ⟨I257, e9, hI257R, hI257T, fI257, hp⟩ := hp
              rw [e9] at hW
              have f258 := z_fr_sub (L := L_X9_atom_3x) f245 fI257 (by decide)
              have k259 : (I257 12 6).toInt ≤ 501 ∧ ((I257 12 7).toInt = 401 ∨ (I257 12 6).toInt ≤ 500) := hI257T
              rcases hp with ⟨rfl, hq⟩ | ⟨rfl, hq⟩
              · obtain ⟨k260, cs261, hm262, h263, h264, h265⟩ := hq
                have ho266 := zr_okS hM250 h265
                have hM267 := (show zr_M I I257 k260 cs261 from zr_M_t hM250 hm262 hP.2.2.2.2.1)
                have h268 := hM267.1
                have h269 := hM267.2.1
                have h270 := hM267.2.2.1
                have h271 := hM267.2.2.2.1
                have l272 : (cs261).length = cs261.length := by first | rfl | (simp only [List.length_append, List.length_cons, List.length_nil] <;> omega)
                refine lv_if_eq (tgt := 183) hx hb dX9_atom_152 (by decide) (fun c273 => absurd c273 (by decide)) (fun c273 => ?_)
                refine lv_aload_n hx hb dX9_atom_155 rfl (lv_at hl 1 rfl) ?_
                refine lv_bipush (v := 44) hx hb dX9_atom_156 (by decide) ?_
                refine z_ci hW hS hA (va_runV (As := [.int 44]) (rest := []) ⟨hx, hb, hml, hown, hts⟩ (sx_X9_taken_x l G ad c I257 ⟨(by show 0 ≤ (I257 12 1).toInt ∧ (I257 12 1).toInt ≤ 500; exact hI257R.1), (by show 0 ≤ (I257 12 5).toInt ∧ (I257 12 5).toInt ≤ 501; exact hI257R.2.1), (by show (-1) ≤ (I257 12 6).toInt ∧ (I257 12 6).toInt ≤ 1000000; exact hI257R.2.2.1), (by show 0 ≤ (I257 12 9).toInt ∧ (I257 12 9).toInt ≤ 500; exact hI257R.2.2.2.1), (by show 0 ≤ (I257 12 13).toInt ∧ (I257 12 13).toInt ≤ 24; exact hI257R.2.2.2.2)⟩ (by show (I257 12 6).toInt ≤ 501 ∧ ((I257 12 7).toInt = 401 ∨ (I257 12 6).toInt ≤ 500); first | omega | decide) k260 44 (zr_P_m hP hM267 (by omega)) (by first | omega | decide) _) (cwV 1 hts gX9_atom_X9_taken rfl rfl rfl (by decide +kernel) ⟨Nat.le_of_ble_eq_true rfl, Nat.le_of_ble_eq_true rfl⟩) (z_preV (i := 12) hK hW rfl rfl) rfl rfl hl.1 rfl (lv_room (Nat.le_of_ble_eq_true rfl)) dX9_atom_158 ⟨Nat.le_of_ble_eq_true rfl, Nat.le_of_ble_eq_true rfl⟩) (fun r u1 H locs hp hW hS => ?_)
                obtain ⟨I274, e9, hI274R, hI274T, fI274, hp⟩ := hp
                rw [e9] at hW
                have f275 := z_fr_sub (L := L_X9_atom_3x) f258 fI274 (by decide)
                have k276 : (I274 12 6).toInt ≤ 501 ∧ ((I274 12 7).toInt = 401 ∨ (I274 12 6).toInt ≤ 500) := hI274T
                rcases hp with ⟨rfl, h277, h278⟩ | ⟨rfl, h277, h278⟩
                · rw [zr_tkS hM267] at h277
                  have z279 := z_l44
                  have hM280 := zr_M_s hM267 h278 hP.2.2.2.2.1
                  have h281 := hM280.1
                  have h282 := hM280.2.1
                  have h283 := hM280.2.2.1
                  have h284 := hM280.2.2.2.1
                  have l285 : (cs261).length = cs261.length := by first | rfl | (simp only [List.length_append, List.length_cons, List.length_nil] <;> omega)
                  refine lv_if_eq (tgt := 183) hx hb dX9_atom_161 (by decide) (fun c286 => absurd c286 (by decide)) (fun c286 => ?_)
                  refine lv_aload_n hx hb dX9_atom_164 rfl (lv_at hl 1 rfl) ?_
                  refine lv_iload_n hx hb dX9_atom_165 rfl (lv_at hl 2 rfl) ?_
                  refine lv_iconst (v := 1) hx hb dX9_atom_166 (by decide) ?_
                  refine lv_iadd hx hb dX9_atom_167 ?_
                  refine z_topi (v := 4) (by decide) ?_
                  refine z_ci hW hS hA (va_runV (As := [.int 4]) (rest := []) ⟨hx, hb, hml, hown, hts⟩ (sx_X9_sum_4x l G ad c I274 ⟨(by show 0 ≤ (I274 12 1).toInt ∧ (I274 12 1).toInt ≤ 500; exact hI274R.1), (by show 0 ≤ (I274 12 5).toInt ∧ (I274 12 5).toInt ≤ 501; exact hI274R.2.1), (by show (-1) ≤ (I274 12 6).toInt ∧ (I274 12 6).toInt ≤ 1000000; exact hI274R.2.2.1), (by show 0 ≤ (I274 12 9).toInt ∧ (I274 12 9).toInt ≤ 500; exact hI274R.2.2.2.1), (by show 0 ≤ (I274 12 13).toInt ∧ (I274 12 13).toInt ≤ 24; exact hI274R.2.2.2.2)⟩ (by show (I274 12 6).toInt ≤ 501 ∧ ((I274 12 7).toInt = 401 ∨ (I274 12 6).toInt ≤ 500); first | omega | decide) (k260 + 1) (zr_P_m hP hM280 (by omega)) _) (cwV 1 hts gX9_atom_X9_sum rfl rfl rfl (by decide +kernel) ⟨Nat.le_of_ble_eq_true rfl, Nat.le_of_ble_eq_true rfl⟩) (z_preV (i := 12) hK hW rfl rfl) rfl rfl hl.1 rfl (lv_room (Nat.le_of_ble_eq_true rfl)) dX9_atom_168 ⟨Nat.le_of_ble_eq_true rfl, Nat.le_of_ble_eq_true rfl⟩) (fun r u1 H locs hp hW hS => ?_)
                  obtain ⟨I287, e9, hI287R, hI287T, fI287, hp⟩ := hp
                  rw [e9] at hW
                  have f288 := z_fr_sub (L := L_X9_atom_3x) f275 fI287 (by decide)
                  have k289 : (I287 12 6).toInt ≤ 501 ∧ ((I287 12 7).toInt = 401 ∨ (I287 12 6).toInt ≤ 500) := hI287T
                  rcases hp with ⟨rfl, hq⟩ | ⟨rfl, hq⟩
                  · obtain ⟨k290, cs291, hm292, h293, h294, h295⟩ := hq
                    have ho296 := zr_okS hM280 h295
                    have hM297 := zr_M_t hM280 hm292 hP.2.2.2.2.1
                    have h298 := hM297.1
                    have h299 := hM297.2.1
                    have h300 := hM297.2.2.1
                    have h301 := hM297.2.2.2.1
                    have l302 : ((cs261 ++ cs291)).length = cs261.length + cs291.length := by first | rfl | (simp only [List.length_append, List.length_cons, List.length_nil] <;> omega)
                    refine lv_if_eq (tgt := 183) hx hb dX9_atom_171 (by decide) (fun c303 => absurd c303 (by decide)) (fun c303 => ?_)
                    refine lv_aload_n hx hb dX9_atom_174 rfl (lv_at hl 1 rfl) ?_
                    refine lv_bipush (v := 41) hx hb dX9_atom_175 (by decide) ?_
                    refine z_ci hW hS hA (va_runV (As := [.int 41]) (rest := []) ⟨hx, hb, hml, hown, hts⟩ (sx_X9_taken_x l G ad c I287 ⟨(by show 0 ≤ (I287 12 1).toInt ∧ (I287 12 1).toInt ≤ 500; exact hI287R.1), (by show 0 ≤ (I287 12 5).toInt ∧ (I287 12 5).toInt ≤ 501; exact hI287R.2.1), (by show (-1) ≤ (I287 12 6).toInt ∧ (I287 12 6).toInt ≤ 1000000; exact hI287R.2.2.1), (by show 0 ≤ (I287 12 9).toInt ∧ (I287 12 9).toInt ≤ 500; exact hI287R.2.2.2.1), (by show 0 ≤ (I287 12 13).toInt ∧ (I287 12 13).toInt ≤ 24; exact hI287R.2.2.2.2)⟩ (by show (I287 12 6).toInt ≤ 501 ∧ ((I287 12 7).toInt = 401 ∨ (I287 12 6).toInt ≤ 500); first | omega | decide) k290 41 (zr_P_m hP hM297 (by omega)) (by first | omega | decide) _) (cwV 1 hts gX9_atom_X9_taken rfl rfl rfl (by decide +kernel) ⟨Nat.le_of_ble_eq_true rfl, Nat.le_of_ble_eq_true rfl⟩) (z_preV (i := 12) hK hW rfl rfl) rfl rfl hl.1 rfl (lv_room (Nat.le_of_ble_eq_true rfl)) dX9_atom_177 ⟨Nat.le_of_ble_eq_true rfl, Nat.le_of_ble_eq_true rfl⟩) (fun r u1 H locs hp hW hS => ?_)
                    obtain ⟨I304, e9, hI304R, hI304T, fI304, hp⟩ := hp
                    rw [e9] at hW
                    have f305 := z_fr_sub (L := L_X9_atom_3x) f288 fI304 (by decide)
                    have k306 : (I304 12 6).toInt ≤ 501 ∧ ((I304 12 7).toInt = 401 ∨ (I304 12 6).toInt ≤ 500) := hI304T
                    rcases hp with ⟨rfl, h307, h308⟩ | ⟨rfl, h307, h308⟩
                    · rw [zr_tkS hM297] at h307
                      have z309 := z_l41
                      have hM310 := zr_M_s hM297 h308 hP.2.2.2.2.1
                      have h311 := hM310.1
                      have h312 := hM310.2.1
                      have h313 := hM310.2.2.1
                      have h314 := hM310.2.2.2.1
                      have l315 : ((cs261 ++ cs291)).length = cs261.length + cs291.length := by first | rfl | (simp only [List.length_append, List.length_cons, List.length_nil] <;> omega)
                      refine lv_if_ne (tgt := 185) hx hb dX9_atom_180 (by decide) (fun c316 => ?_) (fun c316 => absurd c316 (by decide))
                      refine lv_aload_n hx hb dX9_atom_185 rfl (lv_at hl 1 rfl) ?_
                      refine lv_iload_n hx hb dX9_atom_186 rfl (lv_at hl 0 rfl) ?_
                      refine lv_sipush (v := 312) hx hb dX9_atom_187 (by decide) ?_
                      refine lv_icmp_ne (tgt := 198) hx hb dX9_atom_190 (by decide) (fun c317 => ?_) (fun c317 => (by have g := z_f_eq rfl z_l312 c317; omega))
                      have g318 := z_f_ne rfl z_l312 c317
                      refine lv_bipush (v := (-6)) hx hb dX9_atom_198 (by decide) ?_
                      refine z_cv hW hS hA (va_runV (As := [.int (-6)]) (rest := []) ⟨hx, hb, hml, hown, hts⟩ (sx_X9_emit_x l G ad c I304 ⟨(by show 0 ≤ (I304 12 1).toInt ∧ (I304 12 1).toInt ≤ 500; exact hI304R.1), (by show 0 ≤ (I304 12 5).toInt ∧ (I304 12 5).toInt ≤ 501; exact hI304R.2.1), (by show (-1) ≤ (I304 12 6).toInt ∧ (I304 12 6).toInt ≤ 1000000; exact hI304R.2.2.1), (by show 0 ≤ (I304 12 9).toInt ∧ (I304 12 9).toInt ≤ 500; exact hI304R.2.2.2.1), (by show 0 ≤ (I304 12 13).toInt ∧ (I304 12 13).toInt ≤ 24; exact hI304R.2.2.2.2)⟩ (-6) (by omega) _) (cwV 1 hts gX9_atom_X9_emit rfl rfl rfl (by decide +kernel) ⟨Nat.le_of_ble_eq_true rfl, Nat.le_of_ble_eq_true rfl⟩) (z_preV (i := 12) hK hW rfl rfl) rfl rfl hl.1 rfl (lv_room (Nat.le_of_ble_eq_true rfl)) dX9_atom_200 ⟨Nat.le_of_ble_eq_true rfl, Nat.le_of_ble_eq_true rfl⟩) (fun u1 H locs hp hW hS => ?_)
                      obtain ⟨I319, e9, hI319R, fI319, hp⟩ := hp
                      rw [e9] at hW
                      have f320 := z_fr_sub (L := L_X9_atom_3x) f305 fI319 (by decide)
                      have k321 : (I319 12 6).toInt ≤ 501 ∧ ((I319 12 7).toInt = 401 ∨ (I319 12 6).toInt ≤ 500) := (by have q0 : (I319 12 6) = (I304 12 6) := (by rw [fI319 12 6 (by decide)]); have q1 : (I319 12 7) = (I304 12 7) := (by rw [fI319 12 7 (by decide)]); show (I319 12 6).toInt ≤ 501 ∧ ((I319 12 7).toInt = 401 ∨ (I319 12 6).toInt ≤ 500); rw [q0, q1]; first | omega | decide)
                      have hM322 := zr_M_e hM310 hp (show ((-6) : Int32).toInt = (-6) by decide) hP.2.2.2.2.1
                      have h323 := hM322.1
                      have h324 := hM322.2.1
                      have h325 := hM322.2.2.1
                      have h326 := hM322.2.2.2.1
                      have l327 : (((cs261 ++ cs291) ++ [(-6)])).length = cs261.length + cs291.length + 1 := by first | rfl | (simp only [List.length_append, List.length_cons, List.length_nil] <;> omega)
                      refine lv_iconst (v := 1) hx hb dX9_atom_203 (by decide) ?_
                      exact z_zret hx hb hr (by decide) hK hS (Nat.le_of_ble_eq_true rfl) (Nat.le_of_ble_eq_true rfl) hlocks dX9_atom_204 (shC c, ad, I319, JX, PC c ad) hW ⟨I319, rfl, ⟨(by show 0 ≤ (I319 12 1).toInt ∧ (I319 12 1).toInt ≤ 500; exact hI319R.1), (by show 0 ≤ (I319 12 5).toInt ∧ (I319 12 5).toInt ≤ 501; exact hI319R.2.1), (by show (-1) ≤ (I319 12 6).toInt ∧ (I319 12 6).toInt ≤ 1000000; exact hI319R.2.2.1), (by show 0 ≤ (I319 12 9).toInt ∧ (I319 12 9).toInt ≤ 500; exact hI319R.2.2.2.1), (by show 0 ≤ (I319 12 13).toInt ∧ (I319 12 13).toInt ≤ 24; exact hI319R.2.2.2.2)⟩, (by show (I319 12 6).toInt ≤ 501 ∧ ((I319 12 7).toInt = 401 ∨ (I319 12 6).toInt ≤ 500); first | omega | decide), f320, (Or.inl ⟨rfl, zr_ok_of hM322 (by rw [show (307 - zr_tk I k) = (-6) by omega]; simp only [List.append_assoc]) (by omega) (by omega) (zp_A12 (by decide) (by omega) (by decide) (by omega) ho266 (by omega) ho296 (by omega))⟩)⟩
                    · rw [zr_tkS hM297] at h307
                      have z328 := z_l41
                      have hM329 := zr_M_s hM297 h308 hP.2.2.2.2.1
                      have h330 := hM329.1
                      have h331 := hM329.2.1
                      have h332 := hM329.2.2.1
                      have h333 := hM329.2.2.2.1
                      have l334 : ((cs261 ++ cs291)).length = cs261.length + cs291.length := by first | rfl | (simp only [List.length_append, List.length_cons, List.length_nil] <;> omega)
                      refine lv_if_ne (tgt := 185) hx hb dX9_atom_180 (by decide) (fun c335 => absurd (by decide) c335) (fun c335 => ?_)
                      refine lv_iconst (v := 0) hx hb dX9_atom_183 (by decide) ?_
                      exact z_zret hx hb hr (by decide) hK hS (Nat.le_of_ble_eq_true rfl) (Nat.le_of_ble_eq_true rfl) hlocks dX9_atom_184 (shC c, ad, I304, JX, PC c ad) hW ⟨I304, rfl, ⟨(by show 0 ≤ (I304 12 1).toInt ∧ (I304 12 1).toInt ≤ 500; exact hI304R.1), (by show 0 ≤ (I304 12 5).toInt ∧ (I304 12 5).toInt ≤ 501; exact hI304R.2.1), (by show (-1) ≤ (I304 12 6).toInt ∧ (I304 12 6).toInt ≤ 1000000; exact hI304R.2.2.1), (by show 0 ≤ (I304 12 9).toInt ∧ (I304 12 9).toInt ≤ 500; exact hI304R.2.2.2.1), (by show 0 ≤ (I304 12 13).toInt ∧ (I304 12 13).toInt ≤ 24; exact hI304R.2.2.2.2)⟩, (by show (I304 12 6).toInt ≤ 501 ∧ ((I304 12 7).toInt = 401 ∨ (I304 12 6).toInt ≤ 500); first | omega | decide), f305, (Or.inr ⟨rfl, k290, (zr_F_0 hM329), (zp_A11 (by decide) (by omega) (by decide) (by omega) ho266 (by omega) ho296 (by omega))⟩)⟩
                  · obtain ⟨f336, hf337, h338⟩ := hq
                    have hb339 := zr_noS hM280 h338
                    have hF340 := zr_F_m hM280 hf337
                    refine lv_if_eq (tgt := 183) hx hb dX9_atom_171 (by decide) (fun c341 => ?_) (fun c341 => absurd (by decide) c341)
                    refine lv_iconst (v := 0) hx hb dX9_atom_183 (by decide) ?_
                    exact z_zret hx hb hr (by decide) hK hS (Nat.le_of_ble_eq_true rfl) (Nat.le_of_ble_eq_true rfl) hlocks dX9_atom_184 (shC c, ad, I287, JX, PC c ad) hW ⟨I287, rfl, ⟨(by show 0 ≤ (I287 12 1).toInt ∧ (I287 12 1).toInt ≤ 500; exact hI287R.1), (by show 0 ≤ (I287 12 5).toInt ∧ (I287 12 5).toInt ≤ 501; exact hI287R.2.1), (by show (-1) ≤ (I287 12 6).toInt ∧ (I287 12 6).toInt ≤ 1000000; exact hI287R.2.2.1), (by show 0 ≤ (I287 12 9).toInt ∧ (I287 12 9).toInt ≤ 500; exact hI287R.2.2.2.1), (by show 0 ≤ (I287 12 13).toInt ∧ (I287 12 13).toInt ≤ 24; exact hI287R.2.2.2.2)⟩, (by show (I287 12 6).toInt ≤ 501 ∧ ((I287 12 7).toInt = 401 ∨ (I287 12 6).toInt ≤ 500); first | omega | decide), f288, (Or.inr ⟨rfl, f336, hF340, (zp_A10 (by decide) (by omega) (by decide) (by omega) ho266 (by omega) hb339)⟩)⟩
                · rw [zr_tkS hM267] at h277
                  have z342 := z_l44
                  have hM343 := zr_M_s hM267 h278 hP.2.2.2.2.1
                  have h344 := hM343.1
                  have h345 := hM343.2.1
                  have h346 := hM343.2.2.1
                  have h347 := hM343.2.2.2.1
                  have l348 : (cs261).length = cs261.length := by first | rfl | (simp only [List.length_append, List.length_cons, List.length_nil] <;> omega)
                  refine lv_if_eq (tgt := 183) hx hb dX9_atom_161 (by decide) (fun c349 => ?_) (fun c349 => absurd (by decide) c349)
                  refine lv_iconst (v := 0) hx hb dX9_atom_183 (by decide) ?_
                  exact z_zret hx hb hr (by decide) hK hS (Nat.le_of_ble_eq_true rfl) (Nat.le_of_ble_eq_true rfl) hlocks dX9_atom_184 (shC c, ad, I274, JX, PC c ad) hW ⟨I274, rfl, ⟨(by show 0 ≤ (I274 12 1).toInt ∧ (I274 12 1).toInt ≤ 500; exact hI274R.1), (by show 0 ≤ (I274 12 5).toInt ∧ (I274 12 5).toInt ≤ 501; exact hI274R.2.1), (by show (-1) ≤ (I274 12 6).toInt ∧ (I274 12 6).toInt ≤ 1000000; exact hI274R.2.2.1), (by show 0 ≤ (I274 12 9).toInt ∧ (I274 12 9).toInt ≤ 500; exact hI274R.2.2.2.1), (by show 0 ≤ (I274 12 13).toInt ∧ (I274 12 13).toInt ≤ 24; exact hI274R.2.2.2.2)⟩, (by show (I274 12 6).toInt ≤ 501 ∧ ((I274 12 7).toInt = 401 ∨ (I274 12 6).toInt ≤ 500); first | omega | decide), f275, (Or.inr ⟨rfl, k260, (zr_F_0 hM343), (zp_A9 (by decide) (by omega) (by decide) (by omega) ho266 (by omega))⟩)⟩
              · obtain ⟨f350, hf351, h352⟩ := hq
                have hb353 := zr_noS hM250 h352
                have hF354 := zr_F_m hM250 hf351
                refine lv_if_eq (tgt := 183) hx hb dX9_atom_152 (by decide) (fun c355 => ?_) (fun c355 => absurd (by decide) c355)
                refine lv_iconst (v := 0) hx hb dX9_atom_183 (by decide) ?_
                exact z_zret hx hb hr (by decide) hK hS (Nat.le_of_ble_eq_true rfl) (Nat.le_of_ble_eq_true rfl) hlocks dX9_atom_184 (shC c, ad, I257, JX, PC c ad) hW ⟨I257, rfl, ⟨(by show 0 ≤ (I257 12 1).toInt ∧ (I257 12 1).toInt ≤ 500; exact hI257R.1), (by show 0 ≤ (I257 12 5).toInt ∧ (I257 12 5).toInt ≤ 501; exact hI257R.2.1), (by show (-1) ≤ (I257 12 6).toInt ∧ (I257 12 6).toInt ≤ 1000000; exact hI257R.2.2.1), (by show 0 ≤ (I257 12 9).toInt ∧ (I257 12 9).toInt ≤ 500; exact hI257R.2.2.2.1), (by show 0 ≤ (I257 12 13).toInt ∧ (I257 12 13).toInt ≤ 24; exact hI257R.2.2.2.2)⟩, (by show (I257 12 6).toInt ≤ 501 ∧ ((I257 12 7).toInt = 401 ∨ (I257 12 6).toInt ≤ 500); first | omega | decide), f258, (Or.inr ⟨rfl, f350, hF354, (zp_A8 (by decide) (by omega) (by decide) (by omega) hb353)⟩)⟩
            · rw [zr_tkS hM236] at h247
              have z356 := z_l40
              have hM357 := zr_M_s hM236 h248 hP.2.2.2.2.1
              have h358 := hM357.1
              have h359 := hM357.2.1
              have h360 := hM357.2.2.1
              have h361 := hM357.2.2.2.1
              have l362 : (([] : List Int) : List Int).length = 0 := rfl
              refine lv_if_eq (tgt := 183) hx hb dX9_atom_142 (by decide) (fun c363 => ?_) (fun c363 => absurd (by decide) c363)
              refine lv_iconst (v := 0) hx hb dX9_atom_183 (by decide) ?_
              exact z_zret hx hb hr (by decide) hK hS (Nat.le_of_ble_eq_true rfl) (Nat.le_of_ble_eq_true rfl) hlocks dX9_atom_184 (shC c, ad, I244, JX, PC c ad) hW ⟨I244, rfl, ⟨(by show 0 ≤ (I244 12 1).toInt ∧ (I244 12 1).toInt ≤ 500; exact hI244R.1), (by show 0 ≤ (I244 12 5).toInt ∧ (I244 12 5).toInt ≤ 501; exact hI244R.2.1), (by show (-1) ≤ (I244 12 6).toInt ∧ (I244 12 6).toInt ≤ 1000000; exact hI244R.2.2.1), (by show 0 ≤ (I244 12 9).toInt ∧ (I244 12 9).toInt ≤ 500; exact hI244R.2.2.2.1), (by show 0 ≤ (I244 12 13).toInt ∧ (I244 12 13).toInt ≤ 24; exact hI244R.2.2.2.2)⟩, (by show (I244 12 6).toInt ≤ 501 ∧ ((I244 12 7).toInt = 401 ∨ (I244 12 6).toInt ≤ 500); first | omega | decide), f245, (Or.inr ⟨rfl, (k + 1), (zr_F_0 hM357), (zp_A7 (by omega) (by decide) (by omega))⟩)⟩
    · have g364 := z_f_nlt rfl z_l314 c30
      refine lv_aload_n hx hb dX9_atom_20 rfl (lv_at hl 0 rfl) ?_
      refine z_get (T := TX9) (N := 14) (ci := 9) (i := 12) (v := .int (I 12 7)) hx hb hts zj_X9_atom_X9 hown hK hW rfl rfl 7 (by decide) (hts (.fieldLink RX9 62 "PetrolBoard$Reader" "token" "I") (me_s (me_l (me_l (List.mem_of_getElem? (i := 0) rfl))))) (fun _ h => h) rfl dX9_atom_21 ?_
      refine lv_sipush (v := 320) hx hb dX9_atom_24 (by decide) ?_
      refine lv_icmp_gt (tgt := 68) hx hb dX9_atom_27 (by decide) (fun c365 => ?_) (fun c365 => ?_)
      · have g366 := z_f_gt rfl z_l320 c365
        refine lv_aload_n hx hb dX9_atom_68 rfl (lv_at hl 0 rfl) ?_
        refine z_get (T := TX9) (N := 14) (ci := 9) (i := 12) (v := .int (I 12 7)) hx hb hts zj_X9_atom_X9 hown hK hW rfl rfl 7 (by decide) (hts (.fieldLink RX9 62 "PetrolBoard$Reader" "token" "I") (me_s (me_l (me_l (List.mem_of_getElem? (i := 0) rfl))))) (fun _ h => h) rfl dX9_atom_69 ?_
        refine lv_istore_n (lv' := [(2, .int (I 12 7)), (0, .ref (ad 12)), (1, .int 3)]) hx hb dX9_atom_72 rfl hl (by decide) rfl (fun ls hl => ?_)
        refine lv_iload_n hx hb dX9_atom_73 rfl (lv_at hl 0 rfl) ?_
        refine lv_bipush (v := 40) hx hb dX9_atom_74 (by decide) ?_
        refine lv_icmp_eq (tgt := 93) hx hb dX9_atom_76 (by decide) (fun c367 => (by have g := z_f_eq rfl z_l40 c367; omega)) (fun c367 => ?_)
        have g368 := z_f_ne rfl z_l40 c367
        refine lv_iload_n hx hb dX9_atom_79 rfl (lv_at hl 0 rfl) ?_
        refine lv_sipush (v := 312) hx hb dX9_atom_80 (by decide) ?_
        refine lv_icmp_eq (tgt := 93) hx hb dX9_atom_83 (by decide) (fun c369 => (by have g := z_f_eq rfl z_l312 c369; omega)) (fun c369 => ?_)
        have g370 := z_f_ne rfl z_l312 c369
        refine lv_iload_n hx hb dX9_atom_86 rfl (lv_at hl 0 rfl) ?_
        refine lv_sipush (v := 313) hx hb dX9_atom_87 (by decide) ?_
        refine lv_icmp_ne (tgt := 99) hx hb dX9_atom_90 (by decide) (fun c371 => ?_) (fun c371 => (by have g := z_f_eq rfl z_l313 c371; omega))
        have g372 := z_f_ne rfl z_l313 c371
        refine lv_iconst (v := 0) hx hb dX9_atom_99 (by decide) ?_
        exact z_zret hx hb hr (by decide) hK hS (Nat.le_of_ble_eq_true rfl) (Nat.le_of_ble_eq_true rfl) hlocks dX9_atom_100 (shC c, ad, I, JX, PC c ad) hW ⟨I, rfl, ⟨(by show 0 ≤ (I 12 1).toInt ∧ (I 12 1).toInt ≤ 500; exact hR.1), (by show 0 ≤ (I 12 5).toInt ∧ (I 12 5).toInt ≤ 501; exact hR.2.1), (by show (-1) ≤ (I 12 6).toInt ∧ (I 12 6).toInt ≤ 1000000; exact hR.2.2.1), (by show 0 ≤ (I 12 9).toInt ∧ (I 12 9).toInt ≤ 500; exact hR.2.2.2.1), (by show 0 ≤ (I 12 13).toInt ∧ (I 12 13).toInt ≤ 24; exact hR.2.2.2.2)⟩, (by show (I 12 6).toInt ≤ 501 ∧ ((I 12 7).toInt = 401 ∨ (I 12 6).toInt ≤ 500); first | omega | decide), z_fr_0, (Or.inr ⟨rfl, k, (zr_F_0 hM0), (zp_A3 (by omega) (by omega) (Or.inr ⟨by omega, by omega, by omega⟩))⟩)⟩
      · have g373 := z_f_ngt rfl z_l320 c365
        refine lv_aload_n hx hb dX9_atom_30 rfl (lv_at hl 0 rfl) ?_
        refine lv_aload_n hx hb dX9_atom_31 rfl (lv_at hl 0 rfl) ?_
        refine z_get (T := TX9) (N := 14) (ci := 9) (i := 12) (v := .int (I 12 7)) hx hb hts zj_X9_atom_X9 hown hK hW rfl rfl 7 (by decide) (hts (.fieldLink RX9 62 "PetrolBoard$Reader" "token" "I") (me_s (me_l (me_l (List.mem_of_getElem? (i := 0) rfl))))) (fun _ h => h) rfl dX9_atom_32 ?_
        refine lv_sipush (v := 400) hx hb dX9_atom_35 (by decide) ?_
        refine lv_icmp_ne (tgt := 48) hx hb dX9_atom_38 (by decide) (fun c374 => ?_) (fun c374 => (by have g := z_f_eq rfl z_l400 c374; omega))
        have g375 := z_f_ne rfl z_l400 c374
        refine lv_bipush (v := (-20)) hx hb dX9_atom_48 (by decide) ?_
        refine lv_aload_n hx hb dX9_atom_50 rfl (lv_at hl 0 rfl) ?_
        refine z_get (T := TX9) (N := 14) (ci := 9) (i := 12) (v := .int (I 12 7)) hx hb hts zj_X9_atom_X9 hown hK hW rfl rfl 7 (by decide) (hts (.fieldLink RX9 62 "PetrolBoard$Reader" "token" "I") (me_s (me_l (me_l (List.mem_of_getElem? (i := 0) rfl))))) (fun _ h => h) rfl dX9_atom_51 ?_
        refine lv_sipush (v := 314) hx hb dX9_atom_54 (by decide) ?_
        refine lv_isub hx hb dX9_atom_57 ?_
        refine lv_topi (fun x376 ex376 => ?_)
        have tx376 : x376.toInt = (I 12 7).toInt - 314 := z_tsub ex376 rfl z_l314 (by omega) (by omega)
        refine lv_isub hx hb dX9_atom_58 ?_
        refine lv_topi (fun x377 ex377 => ?_)
        have tx377 : x377.toInt = (-20) - x376.toInt := z_tsub ex377 z_lm20 rfl (by omega) (by omega)
        have h378 := hP.2.2.2.2.2.2 k hP.2.1 (by omega)
        refine z_cv hW hS hA (va_runV (As := [.int x377]) (rest := []) ⟨hx, hb, hml, hown, hts⟩ (sx_X9_emit_x l G ad c I ⟨(by show 0 ≤ (I 12 1).toInt ∧ (I 12 1).toInt ≤ 500; exact hR.1), (by show 0 ≤ (I 12 5).toInt ∧ (I 12 5).toInt ≤ 501; exact hR.2.1), (by show (-1) ≤ (I 12 6).toInt ∧ (I 12 6).toInt ≤ 1000000; exact hR.2.2.1), (by show 0 ≤ (I 12 9).toInt ∧ (I 12 9).toInt ≤ 500; exact hR.2.2.2.1), (by show 0 ≤ (I 12 13).toInt ∧ (I 12 13).toInt ≤ 24; exact hR.2.2.2.2)⟩ x377 (by omega) _) (cwV 1 hts gX9_atom_X9_emit rfl rfl rfl (by decide +kernel) ⟨Nat.le_of_ble_eq_true rfl, Nat.le_of_ble_eq_true rfl⟩) (z_preV (i := 12) hK hW rfl rfl) rfl rfl hl.1 rfl (lv_room (Nat.le_of_ble_eq_true rfl)) dX9_atom_59 ⟨Nat.le_of_ble_eq_true rfl, Nat.le_of_ble_eq_true rfl⟩) (fun u1 H locs hp hW hS => ?_)
        obtain ⟨I379, e9, hI379R, fI379, hp⟩ := hp
        rw [e9] at hW
        have f380 := z_fr_sub (L := L_X9_atom_3x) z_fr_0 fI379 (by decide)
        have k381 : (I379 12 6).toInt ≤ 501 ∧ ((I379 12 7).toInt = 401 ∨ (I379 12 6).toInt ≤ 500) := (by have q0 : (I379 12 6) = (I 12 6) := (by rw [fI379 12 6 (by decide)]); have q1 : (I379 12 7) = (I 12 7) := (by rw [fI379 12 7 (by decide)]); show (I379 12 6).toInt ≤ 501 ∧ ((I379 12 7).toInt = 401 ∨ (I379 12 6).toInt ≤ 500); rw [q0, q1]; first | omega | decide)
        have hM382 := (show zr_M I I379 k [(-20 - (zr_tk I k - 314))] from zr_M_e hM0 hp (show x377.toInt = -20 - (zr_tk I k - 314) by omega) hP.2.2.2.2.1)
        have h383 := hM382.1
        have h384 := hM382.2.1
        have h385 := hM382.2.2.1
        have h386 := hM382.2.2.2.1
        have l387 : ([(-20 - (zr_tk I k - 314))]).length = 1 := by first | rfl | (simp only [List.length_append, List.length_cons, List.length_nil] <;> omega)
        refine lv_aload_n hx hb dX9_atom_62 rfl (lv_at hl 0 rfl) ?_
        have q388 := zr_Q_n (zr_Q_m hP hM382) (by rw [zr_tkS hM382]; omega)
        refine z_cv hW hS hA (va_runV (As := []) (rest := []) ⟨hx, hb, hml, hown, hts⟩ (sx_X9_step_x l G ad c I379 ⟨(by show 0 ≤ (I379 12 1).toInt ∧ (I379 12 1).toInt ≤ 500; exact hI379R.1), (by show 0 ≤ (I379 12 5).toInt ∧ (I379 12 5).toInt ≤ 501; exact hI379R.2.1), (by show (-1) ≤ (I379 12 6).toInt ∧ (I379 12 6).toInt ≤ 1000000; exact hI379R.2.2.1), (by show 0 ≤ (I379 12 9).toInt ∧ (I379 12 9).toInt ≤ 500; exact hI379R.2.2.2.1), (by show 0 ≤ (I379 12 13).toInt ∧ (I379 12 13).toInt ≤ 24; exact hI379R.2.2.2.2)⟩ (k + 1) q388 _) (cwV 0 hts gX9_atom_X9_step rfl rfl rfl (by decide +kernel) ⟨Nat.le_of_ble_eq_true rfl, Nat.le_of_ble_eq_true rfl⟩) (z_preV (i := 12) hK hW rfl rfl) rfl rfl hl.1 rfl (lv_room (Nat.le_of_ble_eq_true rfl)) dX9_atom_63 ⟨Nat.le_of_ble_eq_true rfl, Nat.le_of_ble_eq_true rfl⟩) (fun u1 H locs hp hW hS => ?_)
        obtain ⟨I389, e9, hI389R, hI389T, fI389, hp⟩ := hp
        rw [e9] at hW
        have f390 := z_fr_sub (L := L_X9_atom_3x) f380 fI389 (by decide)
        have k391 : (I389 12 6).toInt ≤ 501 ∧ ((I389 12 7).toInt = 401 ∨ (I389 12 6).toInt ≤ 500) := hI389T
        have hM392 := zr_M_s hM382 hp hP.2.2.2.2.1
        have h393 := hM392.1
        have h394 := hM392.2.1
        have h395 := hM392.2.2.1
        have h396 := hM392.2.2.2.1
        have l397 : ([(-20 - (zr_tk I k - 314))]).length = 1 := by first | rfl | (simp only [List.length_append, List.length_cons, List.length_nil] <;> omega)
        refine lv_iconst (v := 1) hx hb dX9_atom_66 (by decide) ?_
        exact z_zret hx hb hr (by decide) hK hS (Nat.le_of_ble_eq_true rfl) (Nat.le_of_ble_eq_true rfl) hlocks dX9_atom_67 (shC c, ad, I389, JX, PC c ad) hW ⟨I389, rfl, ⟨(by show 0 ≤ (I389 12 1).toInt ∧ (I389 12 1).toInt ≤ 500; exact hI389R.1), (by show 0 ≤ (I389 12 5).toInt ∧ (I389 12 5).toInt ≤ 501; exact hI389R.2.1), (by show (-1) ≤ (I389 12 6).toInt ∧ (I389 12 6).toInt ≤ 1000000; exact hI389R.2.2.1), (by show 0 ≤ (I389 12 9).toInt ∧ (I389 12 9).toInt ≤ 500; exact hI389R.2.2.2.1), (by show 0 ≤ (I389 12 13).toInt ∧ (I389 12 13).toInt ≤ 24; exact hI389R.2.2.2.2)⟩, (by show (I389 12 6).toInt ≤ 501 ∧ ((I389 12 7).toInt = 401 ∨ (I389 12 6).toInt ≤ 500); first | omega | decide), f390, (Or.inl ⟨rfl, zr_ok_of hM392 rfl (by omega) (by omega) (zp_A2 (by omega))⟩)⟩
noncomputable def L_X9_product_3x : z_L := [(12, 6), (12, 7), (17, 999), (12, 9)]
set_option maxHeartbeats 8000000 in
set_option maxRecDepth 100000 in
theorem sx_X9_product_3x (l : Launch) (G : z_G) (ad : Nat → Nat) (c : z_C) (I : z_I) (hR : z_iR I) (hT : z_iT I) (k : Nat) (hP : zr_P I k) : z_M l yX9_product wsX9_product { frames := 52, cells := 0, slots := 0, locals := 1163 } [.ref (ad 12), .int 3] G (shC c, ad, I, JX, PC c ad) (fun r u1 => ∃ I1 : z_I, u1 = (shC c, ad, I1, JX, PC c ad) ∧ z_iR I1 ∧ z_iT I1 ∧ z_fr L_X9_product_3x I1 I ∧ ((r = 1 ∧ zr_ok 1 3 I I1 k) ∨ (r = 0 ∧ zr_no 1 3 I I1 k))) 0 0 := by
  intro sz
  refine z_headQ (cc := cX9_product) (maxL := 4) (ret := (some .boolean)) (by decide) rfl (Nat.le_of_ble_eq_true rfl) ?_
  intro p e s m below meth c0 ls hIn hK hsz hW hl
  obtain ⟨hx, hb, hr, hml, hown, hts, hlocks, hname⟩ := hIn
  subst hsz
  have hown : s.vm.findClass RX9 = some m.cls := hown
  have hA : ∀ q : Nat, s.heap.size ≤ q → z_A (shC c, ad, I, JX, PC c ad) s.heap.size q := fun q h => Or.inr h
  generalize hAe : z_A (shC c, ad, I, JX, PC c ad) s.heap.size = A at *
  have hS : va_S A s.heap s.heap [] := va_S.rf
  have hl : lv_has ls 4 [(0, .ref (ad 12)), (1, .int 3)] := hl
  have hM0 := zr_M_0 hP
  have hP1 := hP.1
  have hP2 := hP.2.1
  have hP3 := hP.2.2.1
  have hP4 := hP.2.2.2.1
  have hP5 := hP.2.2.2.2.1
  have hP6 := hP.2.2.2.2.2.1
  have hlz : ([] : List Int).length = 0 := rfl
  have kT : (I 12 6).toInt ≤ 501 ∧ ((I 12 7).toInt = 401 ∨ (I 12 6).toInt ≤ 500) := hT
  refine lv_aload_n hx hb dX9_product_0 rfl (lv_at hl 0 rfl) ?_
  refine lv_iload_n hx hb dX9_product_1 rfl (lv_at hl 1 rfl) ?_
  refine z_ci hW hS hA (va_runV (As := [.int 3]) (rest := []) ⟨hx, hb, hml, hown, hts⟩ (sx_X9_atom_3x l G ad c I ⟨(by show 0 ≤ (I 12 1).toInt ∧ (I 12 1).toInt ≤ 500; exact hR.1), (by show 0 ≤ (I 12 5).toInt ∧ (I 12 5).toInt ≤ 501; exact hR.2.1), (by show (-1) ≤ (I 12 6).toInt ∧ (I 12 6).toInt ≤ 1000000; exact hR.2.2.1), (by show 0 ≤ (I 12 9).toInt ∧ (I 12 9).toInt ≤ 500; exact hR.2.2.2.1), (by show 0 ≤ (I 12 13).toInt ∧ (I 12 13).toInt ≤ 24; exact hR.2.2.2.2)⟩ (by show (I 12 6).toInt ≤ 501 ∧ ((I 12 7).toInt = 401 ∨ (I 12 6).toInt ≤ 500); first | omega | decide) k (zr_P_m hP hM0 (by omega)) _) (cwV 1 hts gX9_product_X9_atom rfl rfl rfl (by decide +kernel) ⟨Nat.le_of_ble_eq_true rfl, Nat.le_of_ble_eq_true rfl⟩) (z_preV (i := 12) hK hW rfl rfl) rfl rfl hl.1 rfl (lv_room (Nat.le_of_ble_eq_true rfl)) dX9_product_2 ⟨Nat.le_of_ble_eq_true rfl, Nat.le_of_ble_eq_true rfl⟩) (fun r u1 H locs hp hW hS => ?_)
  obtain ⟨I1, e9, hI1R, hI1T, fI1, hp⟩ := hp
  rw [e9] at hW
  have f2 := z_fr_sub (L := L_X9_product_3x) z_fr_0 fI1 (by decide)
  have k3 : (I1 12 6).toInt ≤ 501 ∧ ((I1 12 7).toInt = 401 ∨ (I1 12 6).toInt ≤ 500) := hI1T
  rcases hp with ⟨rfl, hq⟩ | ⟨rfl, hq⟩
  · obtain ⟨k4, cs5, hm6, h7, h8, h9⟩ := hq
    have ho10 := zr_okS hM0 h9
    have hM11 := (show zr_M I I1 k4 cs5 from zr_M_t hM0 hm6 hP.2.2.2.2.1)
    have h12 := hM11.1
    have h13 := hM11.2.1
    have h14 := hM11.2.2.1
    have h15 := hM11.2.2.2.1
    have l16 : (cs5).length = cs5.length := by first | rfl | (simp only [List.length_append, List.length_cons, List.length_nil] <;> omega)
    refine lv_if_ne (tgt := 10) hx hb dX9_product_5 (by decide) (fun c17 => ?_) (fun c17 => absurd c17 (by decide))
    refine lv_iconst (v := 0) hx hb dX9_product_10 (by decide) ?_
    refine lv_istore_n (lv' := [(2, .int 0), (0, .ref (ad 12)), (1, .int 3)]) hx hb dX9_product_11 rfl hl (by decide) rfl (fun ls hl => ?_)
    have lp18 : ∀ (f : Nat) (y19 : Int32) (I20 : z_I) (H : Heap) (locs : List Loc) (ls : Array Slot), (2147483647 < y19.toInt + (f : Int)) → (0 ≤ y19.toInt) → (z_iR I20) → (z_iT I20) → (zr_lp 1 3 I I20 k y19.toInt) → (z_fr L_X9_product_3x I20 I) → z_W G A (shC c, ad, I20, JX, PC c ad) H → va_S A s.heap H locs → lv_has ls 4 [(2, .int y19), (0, .ref (ad 12)), (1, .int 3)] → W p l e (headSpec wsX9_product { frames := 52, cells := 0, slots := 0, locals := 1163 }).room s m ([.ref (ad 12), .int 3] : List Value).toArray below meth c0 H locs 0 0 (MQ below (va_Qi (fun (r : Int32) (u1 : z_U) => ∃ I1 : z_I, u1 = (shC c, ad, I1, JX, PC c ad) ∧ z_iR I1 ∧ z_iT I1 ∧ z_fr L_X9_product_3x I1 I ∧ ((r = 1 ∧ zr_ok 1 3 I I1 k) ∨ (r = 0 ∧ zr_no 1 3 I I1 k))) (z_B G A) A) ([.ref (ad 12), .int 3] : List Value).toArray s 0 0 A) (F0 m 12 ls []) := by
      intro f
      induction f with
      | zero => intro y19 I20  H locs ls lp18m lp18l2 lp18R lp18T lp18LP lp18fr hW hS hl; exact absurd lp18m (by have := Int32.toInt_lt y19; have := Int32.le_toInt y19; omega)
      | succ f lp18ih =>
        intro y19 I20  H locs ls lp18m lp18l2 lp18R lp18T lp18LP lp18fr hW hS hl
        have k21 : (I20 12 6).toInt ≤ 501 ∧ ((I20 12 7).toInt = 401 ∨ (I20 12 6).toInt ≤ 500) := lp18T
        refine lv_iload_n hx hb dX9_product_12 rfl (lv_at hl 0 rfl) ?_
        obtain ⟨k22, cs23, hm24, h25, h26, lp27⟩ := lp18LP
        have hM28 := hm24
        have h29 := hM28.1
        have h30 := hM28.2.1
        have h31 := hM28.2.2.1
        have h32 := hM28.2.2.2.1
        have l33 : (cs23).length = cs23.length := by first | rfl | (simp only [List.length_append, List.length_cons, List.length_nil] <;> omega)
        refine lv_sipush (v := 500) hx hb dX9_product_13 (by decide) ?_
        refine lv_icmp_ge (tgt := 79) hx hb dX9_product_16 (by decide) (fun c34 => ?_) (fun c34 => ?_)
        · have g35 := z_f_ge rfl z_l500 c34
          have b36 := Int32.toInt_lt y19
          refine lv_iconst (v := 1) hx hb dX9_product_79 (by decide) ?_
          exact z_zret hx hb hr (by decide) hK hS (Nat.le_of_ble_eq_true rfl) (Nat.le_of_ble_eq_true rfl) hlocks dX9_product_80 (shC c, ad, I20, JX, PC c ad) hW ⟨I20, rfl, ⟨(by show 0 ≤ (I20 12 1).toInt ∧ (I20 12 1).toInt ≤ 500; exact lp18R.1), (by show 0 ≤ (I20 12 5).toInt ∧ (I20 12 5).toInt ≤ 501; exact lp18R.2.1), (by show (-1) ≤ (I20 12 6).toInt ∧ (I20 12 6).toInt ≤ 1000000; exact lp18R.2.2.1), (by show 0 ≤ (I20 12 9).toInt ∧ (I20 12 9).toInt ≤ 500; exact lp18R.2.2.2.1), (by show 0 ≤ (I20 12 13).toInt ∧ (I20 12 13).toInt ≤ 24; exact lp18R.2.2.2.2)⟩, (by show (I20 12 6).toInt ≤ 501 ∧ ((I20 12 7).toInt = 401 ∨ (I20 12 6).toInt ≤ 500); first | omega | decide), lp18fr, (False.elim (by omega))⟩
        · have g37 := z_f_nge rfl z_l500 c34
          have b38 := Int32.toInt_lt y19
          refine lv_aload_n hx hb dX9_product_19 rfl (lv_at hl 1 rfl) ?_
          refine z_get (T := TX9) (N := 14) (ci := 9) (i := 12) (v := .int (I20 12 7)) hx hb hts zj_X9_product_X9 hown hK hW rfl rfl 7 (by decide) (hts (.fieldLink RX9 62 "PetrolBoard$Reader" "token" "I") (me_s (me_l (me_l (List.mem_of_getElem? (i := 0) rfl))))) (fun _ h => h) rfl dX9_product_20 ?_
          refine lv_bipush (v := 42) hx hb dX9_product_23 (by decide) ?_
          refine lv_icmp_eq (tgt := 37) hx hb dX9_product_25 (by decide) (fun c39 => ?_) (fun c39 => ?_)
          · have g40 := z_f_eq rfl z_l42 c39
            have b41 := Int32.toInt_lt (I20 12 7)
            refine lv_aload_n hx hb dX9_product_37 rfl (lv_at hl 1 rfl) ?_
            refine z_get (T := TX9) (N := 14) (ci := 9) (i := 12) (v := .int (I20 12 7)) hx hb hts zj_X9_product_X9 hown hK hW rfl rfl 7 (by decide) (hts (.fieldLink RX9 62 "PetrolBoard$Reader" "token" "I") (me_s (me_l (me_l (List.mem_of_getElem? (i := 0) rfl))))) (fun _ h => h) rfl dX9_product_38 ?_
            refine lv_istore_n (lv' := [(3, .int (I20 12 7)), (2, .int y19), (0, .ref (ad 12)), (1, .int 3)]) hx hb dX9_product_41 rfl hl (by decide) rfl (fun ls hl => ?_)
            refine lv_aload_n hx hb dX9_product_42 rfl (lv_at hl 2 rfl) ?_
            have q42 := zr_Q_n (zr_Q_m hP hM28) (by rw [zr_tkS hM28]; omega)
            refine z_cv hW hS hA (va_runV (As := []) (rest := []) ⟨hx, hb, hml, hown, hts⟩ (sx_X9_step_x l G ad c I20 ⟨(by show 0 ≤ (I20 12 1).toInt ∧ (I20 12 1).toInt ≤ 500; exact lp18R.1), (by show 0 ≤ (I20 12 5).toInt ∧ (I20 12 5).toInt ≤ 501; exact lp18R.2.1), (by show (-1) ≤ (I20 12 6).toInt ∧ (I20 12 6).toInt ≤ 1000000; exact lp18R.2.2.1), (by show 0 ≤ (I20 12 9).toInt ∧ (I20 12 9).toInt ≤ 500; exact lp18R.2.2.2.1), (by show 0 ≤ (I20 12 13).toInt ∧ (I20 12 13).toInt ≤ 24; exact lp18R.2.2.2.2)⟩ (k22 + 1) q42 _) (cwV 0 hts gX9_product_X9_step rfl rfl rfl (by decide +kernel) ⟨Nat.le_of_ble_eq_true rfl, Nat.le_of_ble_eq_true rfl⟩) (z_preV (i := 12) hK hW rfl rfl) rfl rfl hl.1 rfl (lv_room (Nat.le_of_ble_eq_true rfl)) dX9_product_43 ⟨Nat.le_of_ble_eq_true rfl, Nat.le_of_ble_eq_true rfl⟩) (fun u1 H locs hp hW hS => ?_)
            obtain ⟨I43, e9, hI43R, hI43T, fI43, hp⟩ := hp
            rw [e9] at hW
            have f44 := z_fr_sub (L := L_X9_product_3x) lp18fr fI43 (by decide)
            have k45 : (I43 12 6).toInt ≤ 501 ∧ ((I43 12 7).toInt = 401 ∨ (I43 12 6).toInt ≤ 500) := hI43T
            have hM46 := zr_M_s hM28 hp hP.2.2.2.2.1
            have h47 := hM46.1
            have h48 := hM46.2.1
            have h49 := hM46.2.2.1
            have h50 := hM46.2.2.2.1
            have l51 : (cs23).length = cs23.length := by first | rfl | (simp only [List.length_append, List.length_cons, List.length_nil] <;> omega)
            refine lv_aload_n hx hb dX9_product_46 rfl (lv_at hl 2 rfl) ?_
            refine lv_iload_n hx hb dX9_product_47 rfl (lv_at hl 3 rfl) ?_
            refine z_ci hW hS hA (va_runV (As := [.int 3]) (rest := []) ⟨hx, hb, hml, hown, hts⟩ (sx_X9_atom_3x l G ad c I43 ⟨(by show 0 ≤ (I43 12 1).toInt ∧ (I43 12 1).toInt ≤ 500; exact hI43R.1), (by show 0 ≤ (I43 12 5).toInt ∧ (I43 12 5).toInt ≤ 501; exact hI43R.2.1), (by show (-1) ≤ (I43 12 6).toInt ∧ (I43 12 6).toInt ≤ 1000000; exact hI43R.2.2.1), (by show 0 ≤ (I43 12 9).toInt ∧ (I43 12 9).toInt ≤ 500; exact hI43R.2.2.2.1), (by show 0 ≤ (I43 12 13).toInt ∧ (I43 12 13).toInt ≤ 24; exact hI43R.2.2.2.2)⟩ (by show (I43 12 6).toInt ≤ 501 ∧ ((I43 12 7).toInt = 401 ∨ (I43 12 6).toInt ≤ 500); first | omega | decide) (k22 + 1) (zr_P_m hP hM46 (by omega)) _) (cwV 1 hts gX9_product_X9_atom rfl rfl rfl (by decide +kernel) ⟨Nat.le_of_ble_eq_true rfl, Nat.le_of_ble_eq_true rfl⟩) (z_preV (i := 12) hK hW rfl rfl) rfl rfl hl.1 rfl (lv_room (Nat.le_of_ble_eq_true rfl)) dX9_product_48 ⟨Nat.le_of_ble_eq_true rfl, Nat.le_of_ble_eq_true rfl⟩) (fun r u1 H locs hp hW hS => ?_)
            obtain ⟨I52, e9, hI52R, hI52T, fI52, hp⟩ := hp
            rw [e9] at hW
            have f53 := z_fr_sub (L := L_X9_product_3x) f44 fI52 (by decide)
            have k54 : (I52 12 6).toInt ≤ 501 ∧ ((I52 12 7).toInt = 401 ∨ (I52 12 6).toInt ≤ 500) := hI52T
            rcases hp with ⟨rfl, hq⟩ | ⟨rfl, hq⟩
            · obtain ⟨k55, cs56, hm57, h58, h59, h60⟩ := hq
              have ho61 := zr_okS hM46 h60
              have hM62 := zr_M_t hM46 hm57 hP.2.2.2.2.1
              have h63 := hM62.1
              have h64 := hM62.2.1
              have h65 := hM62.2.2.1
              have h66 := hM62.2.2.2.1
              have l67 : ((cs23 ++ cs56)).length = cs23.length + cs56.length := by first | rfl | (simp only [List.length_append, List.length_cons, List.length_nil] <;> omega)
              refine lv_if_ne (tgt := 56) hx hb dX9_product_51 (by decide) (fun c68 => ?_) (fun c68 => absurd c68 (by decide))
              refine lv_aload_n hx hb dX9_product_56 rfl (lv_at hl 2 rfl) ?_
              refine lv_iload_n hx hb dX9_product_57 rfl (lv_at hl 0 rfl) ?_
              refine lv_bipush (v := 42) hx hb dX9_product_58 (by decide) ?_
              refine lv_icmp_ne (tgt := 68) hx hb dX9_product_60 (by decide) (fun c69 => (by have g := z_f_ne rfl z_l42 c69; omega)) (fun c69 => ?_)
              have g70 := z_f_eq rfl z_l42 c69
              refine lv_bipush (v := (-3)) hx hb dX9_product_63 (by decide) ?_
              refine lv_goto (tgt := 70) hx hb dX9_product_65 (by decide) ?_
              refine z_cv hW hS hA (va_runV (As := [.int (-3)]) (rest := []) ⟨hx, hb, hml, hown, hts⟩ (sx_X9_emit_x l G ad c I52 ⟨(by show 0 ≤ (I52 12 1).toInt ∧ (I52 12 1).toInt ≤ 500; exact hI52R.1), (by show 0 ≤ (I52 12 5).toInt ∧ (I52 12 5).toInt ≤ 501; exact hI52R.2.1), (by show (-1) ≤ (I52 12 6).toInt ∧ (I52 12 6).toInt ≤ 1000000; exact hI52R.2.2.1), (by show 0 ≤ (I52 12 9).toInt ∧ (I52 12 9).toInt ≤ 500; exact hI52R.2.2.2.1), (by show 0 ≤ (I52 12 13).toInt ∧ (I52 12 13).toInt ≤ 24; exact hI52R.2.2.2.2)⟩ (-3) (by omega) _) (cwV 1 hts gX9_product_X9_emit rfl rfl rfl (by decide +kernel) ⟨Nat.le_of_ble_eq_true rfl, Nat.le_of_ble_eq_true rfl⟩) (z_preV (i := 12) hK hW rfl rfl) rfl rfl hl.1 rfl (lv_room (Nat.le_of_ble_eq_true rfl)) dX9_product_70 ⟨Nat.le_of_ble_eq_true rfl, Nat.le_of_ble_eq_true rfl⟩) (fun u1 H locs hp hW hS => ?_)
              obtain ⟨I71, e9, hI71R, fI71, hp⟩ := hp
              rw [e9] at hW
              have f72 := z_fr_sub (L := L_X9_product_3x) f53 fI71 (by decide)
              have k73 : (I71 12 6).toInt ≤ 501 ∧ ((I71 12 7).toInt = 401 ∨ (I71 12 6).toInt ≤ 500) := (by have q0 : (I71 12 6) = (I52 12 6) := (by rw [fI71 12 6 (by decide)]); have q1 : (I71 12 7) = (I52 12 7) := (by rw [fI71 12 7 (by decide)]); show (I71 12 6).toInt ≤ 501 ∧ ((I71 12 7).toInt = 401 ∨ (I71 12 6).toInt ≤ 500); rw [q0, q1]; first | omega | decide)
              have hM74 := zr_M_e hM62 hp (show ((-3) : Int32).toInt = (-3) by decide) hP.2.2.2.2.1
              have h75 := hM74.1
              have h76 := hM74.2.1
              have h77 := hM74.2.2.1
              have h78 := hM74.2.2.2.1
              have l79 : (((cs23 ++ cs56) ++ [(-3)])).length = cs23.length + cs56.length + 1 := by first | rfl | (simp only [List.length_append, List.length_cons, List.length_nil] <;> omega)
              obtain ⟨x80, ex80⟩ : ∃ y : Int32, y = y19 + 1 := ⟨_, rfl⟩
              have tx80 : x80.toInt = y19.toInt + 1 := z_tadd ex80 rfl z_l1 (by omega) (by omega)
              refine lv_iinc (v := x80) (lv' := [(2, .int x80), (3, .int (I20 12 7)), (0, .ref (ad 12)), (1, .int 3)]) hx hb dX9_product_73 hl (k := 1) rfl (by rw [ex80]; rfl) (by decide) rfl (fun ls hl => ?_)
              refine lv_goto (tgt := 12) hx hb dX9_product_76 (by decide) ?_
              exact lp18ih x80 I71  _ _ _ (by omega) (by omega) ⟨(by show 0 ≤ (I71 12 1).toInt ∧ (I71 12 1).toInt ≤ 500; exact hI71R.1), (by show 0 ≤ (I71 12 5).toInt ∧ (I71 12 5).toInt ≤ 501; exact hI71R.2.1), (by show (-1) ≤ (I71 12 6).toInt ∧ (I71 12 6).toInt ≤ 1000000; exact hI71R.2.2.1), (by show 0 ≤ (I71 12 9).toInt ∧ (I71 12 9).toInt ≤ 500; exact hI71R.2.2.2.1), (by show 0 ≤ (I71 12 13).toInt ∧ (I71 12 13).toInt ≤ 24; exact hI71R.2.2.2.2)⟩ (by show (I71 12 6).toInt ≤ 501 ∧ ((I71 12 7).toInt = 401 ∨ (I71 12 6).toInt ≤ 500); first | omega | decide) (zr_lp_of hM74 (by rw [zr_e1m (show zr_tk I k22 = 42 by omega), List.append_assoc]) (by omega) (by omega) (zp_L2 (by decide) (Or.inr (Or.inl rfl)) lp27 (zr_g1p (by omega)) ho61)) f72 hW hS (lv_sub hl [0, 2, 3] rfl)
            · obtain ⟨f81, hf82, h83⟩ := hq
              have hb84 := zr_noS hM46 h83
              have hF85 := zr_F_m hM46 hf82
              refine lv_if_ne (tgt := 56) hx hb dX9_product_51 (by decide) (fun c86 => absurd (by decide) c86) (fun c86 => ?_)
              refine lv_iconst (v := 0) hx hb dX9_product_54 (by decide) ?_
              exact z_zret hx hb hr (by decide) hK hS (Nat.le_of_ble_eq_true rfl) (Nat.le_of_ble_eq_true rfl) hlocks dX9_product_55 (shC c, ad, I52, JX, PC c ad) hW ⟨I52, rfl, ⟨(by show 0 ≤ (I52 12 1).toInt ∧ (I52 12 1).toInt ≤ 500; exact hI52R.1), (by show 0 ≤ (I52 12 5).toInt ∧ (I52 12 5).toInt ≤ 501; exact hI52R.2.1), (by show (-1) ≤ (I52 12 6).toInt ∧ (I52 12 6).toInt ≤ 1000000; exact hI52R.2.2.1), (by show 0 ≤ (I52 12 9).toInt ∧ (I52 12 9).toInt ≤ 500; exact hI52R.2.2.2.1), (by show 0 ≤ (I52 12 13).toInt ∧ (I52 12 13).toInt ≤ 24; exact hI52R.2.2.2.2)⟩, (by show (I52 12 6).toInt ≤ 501 ∧ ((I52 12 7).toInt = 401 ∨ (I52 12 6).toInt ≤ 500); first | omega | decide), f53, (Or.inr ⟨rfl, f81, hF85, (zp_L5 (by decide) (Or.inr (Or.inl rfl)) lp27 (zr_g1p (by omega)) hb84)⟩)⟩
          · have g87 := z_f_ne rfl z_l42 c39
            have b88 := Int32.toInt_lt (I20 12 7)
            refine lv_aload_n hx hb dX9_product_28 rfl (lv_at hl 1 rfl) ?_
            refine z_get (T := TX9) (N := 14) (ci := 9) (i := 12) (v := .int (I20 12 7)) hx hb hts zj_X9_product_X9 hown hK hW rfl rfl 7 (by decide) (hts (.fieldLink RX9 62 "PetrolBoard$Reader" "token" "I") (me_s (me_l (me_l (List.mem_of_getElem? (i := 0) rfl))))) (fun _ h => h) rfl dX9_product_29 ?_
            refine lv_bipush (v := 47) hx hb dX9_product_32 (by decide) ?_
            refine lv_icmp_ne (tgt := 79) hx hb dX9_product_34 (by decide) (fun c89 => ?_) (fun c89 => ?_)
            · have g90 := z_f_ne rfl z_l47 c89
              refine lv_iconst (v := 1) hx hb dX9_product_79 (by decide) ?_
              exact z_zret hx hb hr (by decide) hK hS (Nat.le_of_ble_eq_true rfl) (Nat.le_of_ble_eq_true rfl) hlocks dX9_product_80 (shC c, ad, I20, JX, PC c ad) hW ⟨I20, rfl, ⟨(by show 0 ≤ (I20 12 1).toInt ∧ (I20 12 1).toInt ≤ 500; exact lp18R.1), (by show 0 ≤ (I20 12 5).toInt ∧ (I20 12 5).toInt ≤ 501; exact lp18R.2.1), (by show (-1) ≤ (I20 12 6).toInt ∧ (I20 12 6).toInt ≤ 1000000; exact lp18R.2.2.1), (by show 0 ≤ (I20 12 9).toInt ∧ (I20 12 9).toInt ≤ 500; exact lp18R.2.2.2.1), (by show 0 ≤ (I20 12 13).toInt ∧ (I20 12 13).toInt ≤ 24; exact lp18R.2.2.2.2)⟩, (by show (I20 12 6).toInt ≤ 501 ∧ ((I20 12 7).toInt = 401 ∨ (I20 12 6).toInt ≤ 500); first | omega | decide), lp18fr, (Or.inl ⟨rfl, zr_ok_of hM28 rfl (by omega) (by omega) (zp_L3 (Or.inr (Or.inl rfl)) lp27 (zr_g1n (by omega) (by omega)))⟩)⟩
            · have g91 := z_f_eq rfl z_l47 c89
              refine lv_aload_n hx hb dX9_product_37 rfl (lv_at hl 1 rfl) ?_
              refine z_get (T := TX9) (N := 14) (ci := 9) (i := 12) (v := .int (I20 12 7)) hx hb hts zj_X9_product_X9 hown hK hW rfl rfl 7 (by decide) (hts (.fieldLink RX9 62 "PetrolBoard$Reader" "token" "I") (me_s (me_l (me_l (List.mem_of_getElem? (i := 0) rfl))))) (fun _ h => h) rfl dX9_product_38 ?_
              refine lv_istore_n (lv' := [(3, .int (I20 12 7)), (2, .int y19), (0, .ref (ad 12)), (1, .int 3)]) hx hb dX9_product_41 rfl hl (by decide) rfl (fun ls hl => ?_)
              refine lv_aload_n hx hb dX9_product_42 rfl (lv_at hl 2 rfl) ?_
              have q92 := zr_Q_n (zr_Q_m hP hM28) (by rw [zr_tkS hM28]; omega)
              refine z_cv hW hS hA (va_runV (As := []) (rest := []) ⟨hx, hb, hml, hown, hts⟩ (sx_X9_step_x l G ad c I20 ⟨(by show 0 ≤ (I20 12 1).toInt ∧ (I20 12 1).toInt ≤ 500; exact lp18R.1), (by show 0 ≤ (I20 12 5).toInt ∧ (I20 12 5).toInt ≤ 501; exact lp18R.2.1), (by show (-1) ≤ (I20 12 6).toInt ∧ (I20 12 6).toInt ≤ 1000000; exact lp18R.2.2.1), (by show 0 ≤ (I20 12 9).toInt ∧ (I20 12 9).toInt ≤ 500; exact lp18R.2.2.2.1), (by show 0 ≤ (I20 12 13).toInt ∧ (I20 12 13).toInt ≤ 24; exact lp18R.2.2.2.2)⟩ (k22 + 1) q92 _) (cwV 0 hts gX9_product_X9_step rfl rfl rfl (by decide +kernel) ⟨Nat.le_of_ble_eq_true rfl, Nat.le_of_ble_eq_true rfl⟩) (z_preV (i := 12) hK hW rfl rfl) rfl rfl hl.1 rfl (lv_room (Nat.le_of_ble_eq_true rfl)) dX9_product_43 ⟨Nat.le_of_ble_eq_true rfl, Nat.le_of_ble_eq_true rfl⟩) (fun u1 H locs hp hW hS => ?_)
              obtain ⟨I93, e9, hI93R, hI93T, fI93, hp⟩ := hp
              rw [e9] at hW
              have f94 := z_fr_sub (L := L_X9_product_3x) lp18fr fI93 (by decide)
              have k95 : (I93 12 6).toInt ≤ 501 ∧ ((I93 12 7).toInt = 401 ∨ (I93 12 6).toInt ≤ 500) := hI93T
              have hM96 := zr_M_s hM28 hp hP.2.2.2.2.1
              have h97 := hM96.1
              have h98 := hM96.2.1
              have h99 := hM96.2.2.1
              have h100 := hM96.2.2.2.1
              have l101 : (cs23).length = cs23.length := by first | rfl | (simp only [List.length_append, List.length_cons, List.length_nil] <;> omega)
              refine lv_aload_n hx hb dX9_product_46 rfl (lv_at hl 2 rfl) ?_
              refine lv_iload_n hx hb dX9_product_47 rfl (lv_at hl 3 rfl) ?_
              refine z_ci hW hS hA (va_runV (As := [.int 3]) (rest := []) ⟨hx, hb, hml, hown, hts⟩ (sx_X9_atom_3x l G ad c I93 ⟨(by show 0 ≤ (I93 12 1).toInt ∧ (I93 12 1).toInt ≤ 500; exact hI93R.1), (by show 0 ≤ (I93 12 5).toInt ∧ (I93 12 5).toInt ≤ 501; exact hI93R.2.1), (by show (-1) ≤ (I93 12 6).toInt ∧ (I93 12 6).toInt ≤ 1000000; exact hI93R.2.2.1), (by show 0 ≤ (I93 12 9).toInt ∧ (I93 12 9).toInt ≤ 500; exact hI93R.2.2.2.1), (by show 0 ≤ (I93 12 13).toInt ∧ (I93 12 13).toInt ≤ 24; exact hI93R.2.2.2.2)⟩ (by show (I93 12 6).toInt ≤ 501 ∧ ((I93 12 7).toInt = 401 ∨ (I93 12 6).toInt ≤ 500); first | omega | decide) (k22 + 1) (zr_P_m hP hM96 (by omega)) _) (cwV 1 hts gX9_product_X9_atom rfl rfl rfl (by decide +kernel) ⟨Nat.le_of_ble_eq_true rfl, Nat.le_of_ble_eq_true rfl⟩) (z_preV (i := 12) hK hW rfl rfl) rfl rfl hl.1 rfl (lv_room (Nat.le_of_ble_eq_true rfl)) dX9_product_48 ⟨Nat.le_of_ble_eq_true rfl, Nat.le_of_ble_eq_true rfl⟩) (fun r u1 H locs hp hW hS => ?_)
              obtain ⟨I102, e9, hI102R, hI102T, fI102, hp⟩ := hp
              rw [e9] at hW
              have f103 := z_fr_sub (L := L_X9_product_3x) f94 fI102 (by decide)
              have k104 : (I102 12 6).toInt ≤ 501 ∧ ((I102 12 7).toInt = 401 ∨ (I102 12 6).toInt ≤ 500) := hI102T
              rcases hp with ⟨rfl, hq⟩ | ⟨rfl, hq⟩
              · obtain ⟨k105, cs106, hm107, h108, h109, h110⟩ := hq
                have ho111 := zr_okS hM96 h110
                have hM112 := zr_M_t hM96 hm107 hP.2.2.2.2.1
                have h113 := hM112.1
                have h114 := hM112.2.1
                have h115 := hM112.2.2.1
                have h116 := hM112.2.2.2.1
                have l117 : ((cs23 ++ cs106)).length = cs23.length + cs106.length := by first | rfl | (simp only [List.length_append, List.length_cons, List.length_nil] <;> omega)
                refine lv_if_ne (tgt := 56) hx hb dX9_product_51 (by decide) (fun c118 => ?_) (fun c118 => absurd c118 (by decide))
                refine lv_aload_n hx hb dX9_product_56 rfl (lv_at hl 2 rfl) ?_
                refine lv_iload_n hx hb dX9_product_57 rfl (lv_at hl 0 rfl) ?_
                refine lv_bipush (v := 42) hx hb dX9_product_58 (by decide) ?_
                refine lv_icmp_ne (tgt := 68) hx hb dX9_product_60 (by decide) (fun c119 => ?_) (fun c119 => (by have g := z_f_eq rfl z_l42 c119; omega))
                have g120 := z_f_ne rfl z_l42 c119
                refine lv_bipush (v := (-4)) hx hb dX9_product_68 (by decide) ?_
                refine z_cv hW hS hA (va_runV (As := [.int (-4)]) (rest := []) ⟨hx, hb, hml, hown, hts⟩ (sx_X9_emit_x l G ad c I102 ⟨(by show 0 ≤ (I102 12 1).toInt ∧ (I102 12 1).toInt ≤ 500; exact hI102R.1), (by show 0 ≤ (I102 12 5).toInt ∧ (I102 12 5).toInt ≤ 501; exact hI102R.2.1), (by show (-1) ≤ (I102 12 6).toInt ∧ (I102 12 6).toInt ≤ 1000000; exact hI102R.2.2.1), (by show 0 ≤ (I102 12 9).toInt ∧ (I102 12 9).toInt ≤ 500; exact hI102R.2.2.2.1), (by show 0 ≤ (I102 12 13).toInt ∧ (I102 12 13).toInt ≤ 24; exact hI102R.2.2.2.2)⟩ (-4) (by omega) _) (cwV 1 hts gX9_product_X9_emit rfl rfl rfl (by decide +kernel) ⟨Nat.le_of_ble_eq_true rfl, Nat.le_of_ble_eq_true rfl⟩) (z_preV (i := 12) hK hW rfl rfl) rfl rfl hl.1 rfl (lv_room (Nat.le_of_ble_eq_true rfl)) dX9_product_70 ⟨Nat.le_of_ble_eq_true rfl, Nat.le_of_ble_eq_true rfl⟩) (fun u1 H locs hp hW hS => ?_)
                obtain ⟨I121, e9, hI121R, fI121, hp⟩ := hp
                rw [e9] at hW
                have f122 := z_fr_sub (L := L_X9_product_3x) f103 fI121 (by decide)
                have k123 : (I121 12 6).toInt ≤ 501 ∧ ((I121 12 7).toInt = 401 ∨ (I121 12 6).toInt ≤ 500) := (by have q0 : (I121 12 6) = (I102 12 6) := (by rw [fI121 12 6 (by decide)]); have q1 : (I121 12 7) = (I102 12 7) := (by rw [fI121 12 7 (by decide)]); show (I121 12 6).toInt ≤ 501 ∧ ((I121 12 7).toInt = 401 ∨ (I121 12 6).toInt ≤ 500); rw [q0, q1]; first | omega | decide)
                have hM124 := zr_M_e hM112 hp (show ((-4) : Int32).toInt = (-4) by decide) hP.2.2.2.2.1
                have h125 := hM124.1
                have h126 := hM124.2.1
                have h127 := hM124.2.2.1
                have h128 := hM124.2.2.2.1
                have l129 : (((cs23 ++ cs106) ++ [(-4)])).length = cs23.length + cs106.length + 1 := by first | rfl | (simp only [List.length_append, List.length_cons, List.length_nil] <;> omega)
                obtain ⟨x130, ex130⟩ : ∃ y : Int32, y = y19 + 1 := ⟨_, rfl⟩
                have tx130 : x130.toInt = y19.toInt + 1 := z_tadd ex130 rfl z_l1 (by omega) (by omega)
                refine lv_iinc (v := x130) (lv' := [(2, .int x130), (3, .int (I20 12 7)), (0, .ref (ad 12)), (1, .int 3)]) hx hb dX9_product_73 hl (k := 1) rfl (by rw [ex130]; rfl) (by decide) rfl (fun ls hl => ?_)
                refine lv_goto (tgt := 12) hx hb dX9_product_76 (by decide) ?_
                exact lp18ih x130 I121  _ _ _ (by omega) (by omega) ⟨(by show 0 ≤ (I121 12 1).toInt ∧ (I121 12 1).toInt ≤ 500; exact hI121R.1), (by show 0 ≤ (I121 12 5).toInt ∧ (I121 12 5).toInt ≤ 501; exact hI121R.2.1), (by show (-1) ≤ (I121 12 6).toInt ∧ (I121 12 6).toInt ≤ 1000000; exact hI121R.2.2.1), (by show 0 ≤ (I121 12 9).toInt ∧ (I121 12 9).toInt ≤ 500; exact hI121R.2.2.2.1), (by show 0 ≤ (I121 12 13).toInt ∧ (I121 12 13).toInt ≤ 24; exact hI121R.2.2.2.2)⟩ (by show (I121 12 6).toInt ≤ 501 ∧ ((I121 12 7).toInt = 401 ∨ (I121 12 6).toInt ≤ 500); first | omega | decide) (zr_lp_of hM124 (by rw [zr_e1d (show zr_tk I k22 = 47 by omega), List.append_assoc]) (by omega) (by omega) (zp_L2 (by decide) (Or.inr (Or.inl rfl)) lp27 (zr_g1p (by omega)) ho111)) f122 hW hS (lv_sub hl [0, 2, 3] rfl)
              · obtain ⟨f131, hf132, h133⟩ := hq
                have hb134 := zr_noS hM96 h133
                have hF135 := zr_F_m hM96 hf132
                refine lv_if_ne (tgt := 56) hx hb dX9_product_51 (by decide) (fun c136 => absurd (by decide) c136) (fun c136 => ?_)
                refine lv_iconst (v := 0) hx hb dX9_product_54 (by decide) ?_
                exact z_zret hx hb hr (by decide) hK hS (Nat.le_of_ble_eq_true rfl) (Nat.le_of_ble_eq_true rfl) hlocks dX9_product_55 (shC c, ad, I102, JX, PC c ad) hW ⟨I102, rfl, ⟨(by show 0 ≤ (I102 12 1).toInt ∧ (I102 12 1).toInt ≤ 500; exact hI102R.1), (by show 0 ≤ (I102 12 5).toInt ∧ (I102 12 5).toInt ≤ 501; exact hI102R.2.1), (by show (-1) ≤ (I102 12 6).toInt ∧ (I102 12 6).toInt ≤ 1000000; exact hI102R.2.2.1), (by show 0 ≤ (I102 12 9).toInt ∧ (I102 12 9).toInt ≤ 500; exact hI102R.2.2.2.1), (by show 0 ≤ (I102 12 13).toInt ∧ (I102 12 13).toInt ≤ 24; exact hI102R.2.2.2.2)⟩, (by show (I102 12 6).toInt ≤ 501 ∧ ((I102 12 7).toInt = 401 ∨ (I102 12 6).toInt ≤ 500); first | omega | decide), f103, (Or.inr ⟨rfl, f131, hF135, (zp_L5 (by decide) (Or.inr (Or.inl rfl)) lp27 (zr_g1p (by omega)) hb134)⟩)⟩
    exact lp18 4294967296 (0) I1  _ _ _ (z_m0u _) (by rw [z_l0]; omega) ⟨(by show 0 ≤ (I1 12 1).toInt ∧ (I1 12 1).toInt ≤ 500; exact hI1R.1), (by show 0 ≤ (I1 12 5).toInt ∧ (I1 12 5).toInt ≤ 501; exact hI1R.2.1), (by show (-1) ≤ (I1 12 6).toInt ∧ (I1 12 6).toInt ≤ 1000000; exact hI1R.2.2.1), (by show 0 ≤ (I1 12 9).toInt ∧ (I1 12 9).toInt ≤ 500; exact hI1R.2.2.2.1), (by show 0 ≤ (I1 12 13).toInt ∧ (I1 12 13).toInt ≤ 24; exact hI1R.2.2.2.2)⟩ (by show (I1 12 6).toInt ≤ 501 ∧ ((I1 12 7).toInt = 401 ∨ (I1 12 6).toInt ≤ 500); first | omega | decide) (zr_lp_of hM11 rfl (by have := z_l0; omega) (by omega) (zp_L1 (by decide) (Or.inr (Or.inl rfl)) ho10)) f2 hW hS (lv_sub hl [0, 1, 2] rfl)
  · obtain ⟨f137, hf138, h139⟩ := hq
    have hb140 := zr_noS hM0 h139
    have hF141 := zr_F_m hM0 hf138
    refine lv_if_ne (tgt := 10) hx hb dX9_product_5 (by decide) (fun c142 => absurd (by decide) c142) (fun c142 => ?_)
    refine lv_iconst (v := 0) hx hb dX9_product_8 (by decide) ?_
    exact z_zret hx hb hr (by decide) hK hS (Nat.le_of_ble_eq_true rfl) (Nat.le_of_ble_eq_true rfl) hlocks dX9_product_9 (shC c, ad, I1, JX, PC c ad) hW ⟨I1, rfl, ⟨(by show 0 ≤ (I1 12 1).toInt ∧ (I1 12 1).toInt ≤ 500; exact hI1R.1), (by show 0 ≤ (I1 12 5).toInt ∧ (I1 12 5).toInt ≤ 501; exact hI1R.2.1), (by show (-1) ≤ (I1 12 6).toInt ∧ (I1 12 6).toInt ≤ 1000000; exact hI1R.2.2.1), (by show 0 ≤ (I1 12 9).toInt ∧ (I1 12 9).toInt ≤ 500; exact hI1R.2.2.2.1), (by show 0 ≤ (I1 12 13).toInt ∧ (I1 12 13).toInt ≤ 24; exact hI1R.2.2.2.2)⟩, (by show (I1 12 6).toInt ≤ 501 ∧ ((I1 12 7).toInt = 401 ∨ (I1 12 6).toInt ≤ 500); first | omega | decide), f2, (Or.inr ⟨rfl, f137, hF141, (zp_L4 (by decide) (Or.inr (Or.inl rfl)) hb140)⟩)⟩
noncomputable def L_X9_sum_3x : z_L := [(12, 6), (12, 7), (17, 999), (12, 9)]
set_option maxHeartbeats 8000000 in
set_option maxRecDepth 100000 in
theorem sx_X9_sum_3x (l : Launch) (G : z_G) (ad : Nat → Nat) (c : z_C) (I : z_I) (hR : z_iR I) (hT : z_iT I) (k : Nat) (hP : zr_P I k) : z_M l yX9_sum wsX9_sum { frames := 53, cells := 0, slots := 0, locals := 1186 } [.ref (ad 12), .int 3] G (shC c, ad, I, JX, PC c ad) (fun r u1 => ∃ I1 : z_I, u1 = (shC c, ad, I1, JX, PC c ad) ∧ z_iR I1 ∧ z_iT I1 ∧ z_fr L_X9_sum_3x I1 I ∧ ((r = 1 ∧ zr_ok 0 3 I I1 k) ∨ (r = 0 ∧ zr_no 0 3 I I1 k))) 0 0 := by
  intro sz
  refine z_headQ (cc := cX9_sum) (maxL := 4) (ret := (some .boolean)) (by decide) rfl (Nat.le_of_ble_eq_true rfl) ?_
  intro p e s m below meth c0 ls hIn hK hsz hW hl
  obtain ⟨hx, hb, hr, hml, hown, hts, hlocks, hname⟩ := hIn
  subst hsz
  have hown : s.vm.findClass RX9 = some m.cls := hown
  have hA : ∀ q : Nat, s.heap.size ≤ q → z_A (shC c, ad, I, JX, PC c ad) s.heap.size q := fun q h => Or.inr h
  generalize hAe : z_A (shC c, ad, I, JX, PC c ad) s.heap.size = A at *
  have hS : va_S A s.heap s.heap [] := va_S.rf
  have hl : lv_has ls 4 [(0, .ref (ad 12)), (1, .int 3)] := hl
  have hM0 := zr_M_0 hP
  have hP1 := hP.1
  have hP2 := hP.2.1
  have hP3 := hP.2.2.1
  have hP4 := hP.2.2.2.1
  have hP5 := hP.2.2.2.2.1
  have hP6 := hP.2.2.2.2.2.1
  have hlz : ([] : List Int).length = 0 := rfl
  have kT : (I 12 6).toInt ≤ 501 ∧ ((I 12 7).toInt = 401 ∨ (I 12 6).toInt ≤ 500) := hT
  refine lv_aload_n hx hb dX9_sum_0 rfl (lv_at hl 0 rfl) ?_
  refine lv_iload_n hx hb dX9_sum_1 rfl (lv_at hl 1 rfl) ?_
  refine z_ci hW hS hA (va_runV (As := [.int 3]) (rest := []) ⟨hx, hb, hml, hown, hts⟩ (sx_X9_product_3x l G ad c I ⟨(by show 0 ≤ (I 12 1).toInt ∧ (I 12 1).toInt ≤ 500; exact hR.1), (by show 0 ≤ (I 12 5).toInt ∧ (I 12 5).toInt ≤ 501; exact hR.2.1), (by show (-1) ≤ (I 12 6).toInt ∧ (I 12 6).toInt ≤ 1000000; exact hR.2.2.1), (by show 0 ≤ (I 12 9).toInt ∧ (I 12 9).toInt ≤ 500; exact hR.2.2.2.1), (by show 0 ≤ (I 12 13).toInt ∧ (I 12 13).toInt ≤ 24; exact hR.2.2.2.2)⟩ (by show (I 12 6).toInt ≤ 501 ∧ ((I 12 7).toInt = 401 ∨ (I 12 6).toInt ≤ 500); first | omega | decide) k (zr_P_m hP hM0 (by omega)) _) (cwV 1 hts gX9_sum_X9_product rfl rfl rfl (by decide +kernel) ⟨Nat.le_of_ble_eq_true rfl, Nat.le_of_ble_eq_true rfl⟩) (z_preV (i := 12) hK hW rfl rfl) rfl rfl hl.1 rfl (lv_room (Nat.le_of_ble_eq_true rfl)) dX9_sum_2 ⟨Nat.le_of_ble_eq_true rfl, Nat.le_of_ble_eq_true rfl⟩) (fun r u1 H locs hp hW hS => ?_)
  obtain ⟨I1, e9, hI1R, hI1T, fI1, hp⟩ := hp
  rw [e9] at hW
  have f2 := z_fr_sub (L := L_X9_sum_3x) z_fr_0 fI1 (by decide)
  have k3 : (I1 12 6).toInt ≤ 501 ∧ ((I1 12 7).toInt = 401 ∨ (I1 12 6).toInt ≤ 500) := hI1T
  rcases hp with ⟨rfl, hq⟩ | ⟨rfl, hq⟩
  · obtain ⟨k4, cs5, hm6, h7, h8, h9⟩ := hq
    have ho10 := zr_okS hM0 h9
    have hM11 := (show zr_M I I1 k4 cs5 from zr_M_t hM0 hm6 hP.2.2.2.2.1)
    have h12 := hM11.1
    have h13 := hM11.2.1
    have h14 := hM11.2.2.1
    have h15 := hM11.2.2.2.1
    have l16 : (cs5).length = cs5.length := by first | rfl | (simp only [List.length_append, List.length_cons, List.length_nil] <;> omega)
    refine lv_if_ne (tgt := 10) hx hb dX9_sum_5 (by decide) (fun c17 => ?_) (fun c17 => absurd c17 (by decide))
    refine lv_iconst (v := 0) hx hb dX9_sum_10 (by decide) ?_
    refine lv_istore_n (lv' := [(2, .int 0), (0, .ref (ad 12)), (1, .int 3)]) hx hb dX9_sum_11 rfl hl (by decide) rfl (fun ls hl => ?_)
    have lp18 : ∀ (f : Nat) (y19 : Int32) (I20 : z_I) (H : Heap) (locs : List Loc) (ls : Array Slot), (2147483647 < y19.toInt + (f : Int)) → (0 ≤ y19.toInt) → (z_iR I20) → (z_iT I20) → (zr_lp 0 3 I I20 k y19.toInt) → (z_fr L_X9_sum_3x I20 I) → z_W G A (shC c, ad, I20, JX, PC c ad) H → va_S A s.heap H locs → lv_has ls 4 [(2, .int y19), (0, .ref (ad 12)), (1, .int 3)] → W p l e (headSpec wsX9_sum { frames := 53, cells := 0, slots := 0, locals := 1186 }).room s m ([.ref (ad 12), .int 3] : List Value).toArray below meth c0 H locs 0 0 (MQ below (va_Qi (fun (r : Int32) (u1 : z_U) => ∃ I1 : z_I, u1 = (shC c, ad, I1, JX, PC c ad) ∧ z_iR I1 ∧ z_iT I1 ∧ z_fr L_X9_sum_3x I1 I ∧ ((r = 1 ∧ zr_ok 0 3 I I1 k) ∨ (r = 0 ∧ zr_no 0 3 I I1 k))) (z_B G A) A) ([.ref (ad 12), .int 3] : List Value).toArray s 0 0 A) (F0 m 12 ls []) := by
      intro f
      induction f with
      | zero => intro y19 I20  H locs ls lp18m lp18l2 lp18R lp18T lp18LP lp18fr hW hS hl; exact absurd lp18m (by have := Int32.toInt_lt y19; have := Int32.le_toInt y19; omega)
      | succ f lp18ih =>
        intro y19 I20  H locs ls lp18m lp18l2 lp18R lp18T lp18LP lp18fr hW hS hl
        have k21 : (I20 12 6).toInt ≤ 501 ∧ ((I20 12 7).toInt = 401 ∨ (I20 12 6).toInt ≤ 500) := lp18T
        refine lv_iload_n hx hb dX9_sum_12 rfl (lv_at hl 0 rfl) ?_
        obtain ⟨k22, cs23, hm24, h25, h26, lp27⟩ := lp18LP
        have hM28 := hm24
        have h29 := hM28.1
        have h30 := hM28.2.1
        have h31 := hM28.2.2.1
        have h32 := hM28.2.2.2.1
        have l33 : (cs23).length = cs23.length := by first | rfl | (simp only [List.length_append, List.length_cons, List.length_nil] <;> omega)
        refine lv_sipush (v := 500) hx hb dX9_sum_13 (by decide) ?_
        refine lv_icmp_ge (tgt := 78) hx hb dX9_sum_16 (by decide) (fun c34 => ?_) (fun c34 => ?_)
        · have g35 := z_f_ge rfl z_l500 c34
          have b36 := Int32.toInt_lt y19
          refine lv_iconst (v := 1) hx hb dX9_sum_78 (by decide) ?_
          exact z_zret hx hb hr (by decide) hK hS (Nat.le_of_ble_eq_true rfl) (Nat.le_of_ble_eq_true rfl) hlocks dX9_sum_79 (shC c, ad, I20, JX, PC c ad) hW ⟨I20, rfl, ⟨(by show 0 ≤ (I20 12 1).toInt ∧ (I20 12 1).toInt ≤ 500; exact lp18R.1), (by show 0 ≤ (I20 12 5).toInt ∧ (I20 12 5).toInt ≤ 501; exact lp18R.2.1), (by show (-1) ≤ (I20 12 6).toInt ∧ (I20 12 6).toInt ≤ 1000000; exact lp18R.2.2.1), (by show 0 ≤ (I20 12 9).toInt ∧ (I20 12 9).toInt ≤ 500; exact lp18R.2.2.2.1), (by show 0 ≤ (I20 12 13).toInt ∧ (I20 12 13).toInt ≤ 24; exact lp18R.2.2.2.2)⟩, (by show (I20 12 6).toInt ≤ 501 ∧ ((I20 12 7).toInt = 401 ∨ (I20 12 6).toInt ≤ 500); first | omega | decide), lp18fr, (False.elim (by omega))⟩
        · have g37 := z_f_nge rfl z_l500 c34
          have b38 := Int32.toInt_lt y19
          refine lv_aload_n hx hb dX9_sum_19 rfl (lv_at hl 1 rfl) ?_
          refine z_get (T := TX9) (N := 14) (ci := 9) (i := 12) (v := .int (I20 12 7)) hx hb hts zj_X9_sum_X9 hown hK hW rfl rfl 7 (by decide) (hts (.fieldLink RX9 62 "PetrolBoard$Reader" "token" "I") (me_s (me_l (me_l (List.mem_of_getElem? (i := 0) rfl))))) (fun _ h => h) rfl dX9_sum_20 ?_
          refine lv_bipush (v := 43) hx hb dX9_sum_23 (by decide) ?_
          refine lv_icmp_eq (tgt := 37) hx hb dX9_sum_25 (by decide) (fun c39 => ?_) (fun c39 => ?_)
          · have g40 := z_f_eq rfl z_l43 c39
            have b41 := Int32.toInt_lt (I20 12 7)
            refine lv_aload_n hx hb dX9_sum_37 rfl (lv_at hl 1 rfl) ?_
            refine z_get (T := TX9) (N := 14) (ci := 9) (i := 12) (v := .int (I20 12 7)) hx hb hts zj_X9_sum_X9 hown hK hW rfl rfl 7 (by decide) (hts (.fieldLink RX9 62 "PetrolBoard$Reader" "token" "I") (me_s (me_l (me_l (List.mem_of_getElem? (i := 0) rfl))))) (fun _ h => h) rfl dX9_sum_38 ?_
            refine lv_istore_n (lv' := [(3, .int (I20 12 7)), (2, .int y19), (0, .ref (ad 12)), (1, .int 3)]) hx hb dX9_sum_41 rfl hl (by decide) rfl (fun ls hl => ?_)
            refine lv_aload_n hx hb dX9_sum_42 rfl (lv_at hl 2 rfl) ?_
            have q42 := zr_Q_n (zr_Q_m hP hM28) (by rw [zr_tkS hM28]; omega)
            refine z_cv hW hS hA (va_runV (As := []) (rest := []) ⟨hx, hb, hml, hown, hts⟩ (sx_X9_step_x l G ad c I20 ⟨(by show 0 ≤ (I20 12 1).toInt ∧ (I20 12 1).toInt ≤ 500; exact lp18R.1), (by show 0 ≤ (I20 12 5).toInt ∧ (I20 12 5).toInt ≤ 501; exact lp18R.2.1), (by show (-1) ≤ (I20 12 6).toInt ∧ (I20 12 6).toInt ≤ 1000000; exact lp18R.2.2.1), (by show 0 ≤ (I20 12 9).toInt ∧ (I20 12 9).toInt ≤ 500; exact lp18R.2.2.2.1), (by show 0 ≤ (I20 12 13).toInt ∧ (I20 12 13).toInt ≤ 24; exact lp18R.2.2.2.2)⟩ (k22 + 1) q42 _) (cwV 0 hts gX9_sum_X9_step rfl rfl rfl (by decide +kernel) ⟨Nat.le_of_ble_eq_true rfl, Nat.le_of_ble_eq_true rfl⟩) (z_preV (i := 12) hK hW rfl rfl) rfl rfl hl.1 rfl (lv_room (Nat.le_of_ble_eq_true rfl)) dX9_sum_43 ⟨Nat.le_of_ble_eq_true rfl, Nat.le_of_ble_eq_true rfl⟩) (fun u1 H locs hp hW hS => ?_)
            obtain ⟨I43, e9, hI43R, hI43T, fI43, hp⟩ := hp
            rw [e9] at hW
            have f44 := z_fr_sub (L := L_X9_sum_3x) lp18fr fI43 (by decide)
            have k45 : (I43 12 6).toInt ≤ 501 ∧ ((I43 12 7).toInt = 401 ∨ (I43 12 6).toInt ≤ 500) := hI43T
            have hM46 := zr_M_s hM28 hp hP.2.2.2.2.1
            have h47 := hM46.1
            have h48 := hM46.2.1
            have h49 := hM46.2.2.1
            have h50 := hM46.2.2.2.1
            have l51 : (cs23).length = cs23.length := by first | rfl | (simp only [List.length_append, List.length_cons, List.length_nil] <;> omega)
            refine lv_aload_n hx hb dX9_sum_46 rfl (lv_at hl 2 rfl) ?_
            refine lv_iload_n hx hb dX9_sum_47 rfl (lv_at hl 3 rfl) ?_
            refine z_ci hW hS hA (va_runV (As := [.int 3]) (rest := []) ⟨hx, hb, hml, hown, hts⟩ (sx_X9_product_3x l G ad c I43 ⟨(by show 0 ≤ (I43 12 1).toInt ∧ (I43 12 1).toInt ≤ 500; exact hI43R.1), (by show 0 ≤ (I43 12 5).toInt ∧ (I43 12 5).toInt ≤ 501; exact hI43R.2.1), (by show (-1) ≤ (I43 12 6).toInt ∧ (I43 12 6).toInt ≤ 1000000; exact hI43R.2.2.1), (by show 0 ≤ (I43 12 9).toInt ∧ (I43 12 9).toInt ≤ 500; exact hI43R.2.2.2.1), (by show 0 ≤ (I43 12 13).toInt ∧ (I43 12 13).toInt ≤ 24; exact hI43R.2.2.2.2)⟩ (by show (I43 12 6).toInt ≤ 501 ∧ ((I43 12 7).toInt = 401 ∨ (I43 12 6).toInt ≤ 500); first | omega | decide) (k22 + 1) (zr_P_m hP hM46 (by omega)) _) (cwV 1 hts gX9_sum_X9_product rfl rfl rfl (by decide +kernel) ⟨Nat.le_of_ble_eq_true rfl, Nat.le_of_ble_eq_true rfl⟩) (z_preV (i := 12) hK hW rfl rfl) rfl rfl hl.1 rfl (lv_room (Nat.le_of_ble_eq_true rfl)) dX9_sum_48 ⟨Nat.le_of_ble_eq_true rfl, Nat.le_of_ble_eq_true rfl⟩) (fun r u1 H locs hp hW hS => ?_)
            obtain ⟨I52, e9, hI52R, hI52T, fI52, hp⟩ := hp
            rw [e9] at hW
            have f53 := z_fr_sub (L := L_X9_sum_3x) f44 fI52 (by decide)
            have k54 : (I52 12 6).toInt ≤ 501 ∧ ((I52 12 7).toInt = 401 ∨ (I52 12 6).toInt ≤ 500) := hI52T
            rcases hp with ⟨rfl, hq⟩ | ⟨rfl, hq⟩
            · obtain ⟨k55, cs56, hm57, h58, h59, h60⟩ := hq
              have ho61 := zr_okS hM46 h60
              have hM62 := zr_M_t hM46 hm57 hP.2.2.2.2.1
              have h63 := hM62.1
              have h64 := hM62.2.1
              have h65 := hM62.2.2.1
              have h66 := hM62.2.2.2.1
              have l67 : ((cs23 ++ cs56)).length = cs23.length + cs56.length := by first | rfl | (simp only [List.length_append, List.length_cons, List.length_nil] <;> omega)
              refine lv_if_ne (tgt := 56) hx hb dX9_sum_51 (by decide) (fun c68 => ?_) (fun c68 => absurd c68 (by decide))
              refine lv_aload_n hx hb dX9_sum_56 rfl (lv_at hl 2 rfl) ?_
              refine lv_iload_n hx hb dX9_sum_57 rfl (lv_at hl 0 rfl) ?_
              refine lv_bipush (v := 43) hx hb dX9_sum_58 (by decide) ?_
              refine lv_icmp_ne (tgt := 67) hx hb dX9_sum_60 (by decide) (fun c69 => (by have g := z_f_ne rfl z_l43 c69; omega)) (fun c69 => ?_)
              have g70 := z_f_eq rfl z_l43 c69
              refine lv_iconst (v := (-1)) hx hb dX9_sum_63 (by decide) ?_
              refine lv_goto (tgt := 69) hx hb dX9_sum_64 (by decide) ?_
              refine z_cv hW hS hA (va_runV (As := [.int (-1)]) (rest := []) ⟨hx, hb, hml, hown, hts⟩ (sx_X9_emit_x l G ad c I52 ⟨(by show 0 ≤ (I52 12 1).toInt ∧ (I52 12 1).toInt ≤ 500; exact hI52R.1), (by show 0 ≤ (I52 12 5).toInt ∧ (I52 12 5).toInt ≤ 501; exact hI52R.2.1), (by show (-1) ≤ (I52 12 6).toInt ∧ (I52 12 6).toInt ≤ 1000000; exact hI52R.2.2.1), (by show 0 ≤ (I52 12 9).toInt ∧ (I52 12 9).toInt ≤ 500; exact hI52R.2.2.2.1), (by show 0 ≤ (I52 12 13).toInt ∧ (I52 12 13).toInt ≤ 24; exact hI52R.2.2.2.2)⟩ (-1) (by omega) _) (cwV 1 hts gX9_sum_X9_emit rfl rfl rfl (by decide +kernel) ⟨Nat.le_of_ble_eq_true rfl, Nat.le_of_ble_eq_true rfl⟩) (z_preV (i := 12) hK hW rfl rfl) rfl rfl hl.1 rfl (lv_room (Nat.le_of_ble_eq_true rfl)) dX9_sum_69 ⟨Nat.le_of_ble_eq_true rfl, Nat.le_of_ble_eq_true rfl⟩) (fun u1 H locs hp hW hS => ?_)
              obtain ⟨I71, e9, hI71R, fI71, hp⟩ := hp
              rw [e9] at hW
              have f72 := z_fr_sub (L := L_X9_sum_3x) f53 fI71 (by decide)
              have k73 : (I71 12 6).toInt ≤ 501 ∧ ((I71 12 7).toInt = 401 ∨ (I71 12 6).toInt ≤ 500) := (by have q0 : (I71 12 6) = (I52 12 6) := (by rw [fI71 12 6 (by decide)]); have q1 : (I71 12 7) = (I52 12 7) := (by rw [fI71 12 7 (by decide)]); show (I71 12 6).toInt ≤ 501 ∧ ((I71 12 7).toInt = 401 ∨ (I71 12 6).toInt ≤ 500); rw [q0, q1]; first | omega | decide)
              have hM74 := zr_M_e hM62 hp (show ((-1) : Int32).toInt = (-1) by decide) hP.2.2.2.2.1
              have h75 := hM74.1
              have h76 := hM74.2.1
              have h77 := hM74.2.2.1
              have h78 := hM74.2.2.2.1
              have l79 : (((cs23 ++ cs56) ++ [(-1)])).length = cs23.length + cs56.length + 1 := by first | rfl | (simp only [List.length_append, List.length_cons, List.length_nil] <;> omega)
              obtain ⟨x80, ex80⟩ : ∃ y : Int32, y = y19 + 1 := ⟨_, rfl⟩
              have tx80 : x80.toInt = y19.toInt + 1 := z_tadd ex80 rfl z_l1 (by omega) (by omega)
              refine lv_iinc (v := x80) (lv' := [(2, .int x80), (3, .int (I20 12 7)), (0, .ref (ad 12)), (1, .int 3)]) hx hb dX9_sum_72 hl (k := 1) rfl (by rw [ex80]; rfl) (by decide) rfl (fun ls hl => ?_)
              refine lv_goto (tgt := 12) hx hb dX9_sum_75 (by decide) ?_
              exact lp18ih x80 I71  _ _ _ (by omega) (by omega) ⟨(by show 0 ≤ (I71 12 1).toInt ∧ (I71 12 1).toInt ≤ 500; exact hI71R.1), (by show 0 ≤ (I71 12 5).toInt ∧ (I71 12 5).toInt ≤ 501; exact hI71R.2.1), (by show (-1) ≤ (I71 12 6).toInt ∧ (I71 12 6).toInt ≤ 1000000; exact hI71R.2.2.1), (by show 0 ≤ (I71 12 9).toInt ∧ (I71 12 9).toInt ≤ 500; exact hI71R.2.2.2.1), (by show 0 ≤ (I71 12 13).toInt ∧ (I71 12 13).toInt ≤ 24; exact hI71R.2.2.2.2)⟩ (by show (I71 12 6).toInt ≤ 501 ∧ ((I71 12 7).toInt = 401 ∨ (I71 12 6).toInt ≤ 500); first | omega | decide) (zr_lp_of hM74 (by rw [zr_e0a (show zr_tk I k22 = 43 by omega), List.append_assoc]) (by omega) (by omega) (zp_L2 (by decide) (Or.inl rfl) lp27 (zr_g0p (by omega)) ho61)) f72 hW hS (lv_sub hl [0, 2, 3] rfl)
            · obtain ⟨f81, hf82, h83⟩ := hq
              have hb84 := zr_noS hM46 h83
              have hF85 := zr_F_m hM46 hf82
              refine lv_if_ne (tgt := 56) hx hb dX9_sum_51 (by decide) (fun c86 => absurd (by decide) c86) (fun c86 => ?_)
              refine lv_iconst (v := 0) hx hb dX9_sum_54 (by decide) ?_
              exact z_zret hx hb hr (by decide) hK hS (Nat.le_of_ble_eq_true rfl) (Nat.le_of_ble_eq_true rfl) hlocks dX9_sum_55 (shC c, ad, I52, JX, PC c ad) hW ⟨I52, rfl, ⟨(by show 0 ≤ (I52 12 1).toInt ∧ (I52 12 1).toInt ≤ 500; exact hI52R.1), (by show 0 ≤ (I52 12 5).toInt ∧ (I52 12 5).toInt ≤ 501; exact hI52R.2.1), (by show (-1) ≤ (I52 12 6).toInt ∧ (I52 12 6).toInt ≤ 1000000; exact hI52R.2.2.1), (by show 0 ≤ (I52 12 9).toInt ∧ (I52 12 9).toInt ≤ 500; exact hI52R.2.2.2.1), (by show 0 ≤ (I52 12 13).toInt ∧ (I52 12 13).toInt ≤ 24; exact hI52R.2.2.2.2)⟩, (by show (I52 12 6).toInt ≤ 501 ∧ ((I52 12 7).toInt = 401 ∨ (I52 12 6).toInt ≤ 500); first | omega | decide), f53, (Or.inr ⟨rfl, f81, hF85, (zp_L5 (by decide) (Or.inl rfl) lp27 (zr_g0p (by omega)) hb84)⟩)⟩
          · have g87 := z_f_ne rfl z_l43 c39
            have b88 := Int32.toInt_lt (I20 12 7)
            refine lv_aload_n hx hb dX9_sum_28 rfl (lv_at hl 1 rfl) ?_
            refine z_get (T := TX9) (N := 14) (ci := 9) (i := 12) (v := .int (I20 12 7)) hx hb hts zj_X9_sum_X9 hown hK hW rfl rfl 7 (by decide) (hts (.fieldLink RX9 62 "PetrolBoard$Reader" "token" "I") (me_s (me_l (me_l (List.mem_of_getElem? (i := 0) rfl))))) (fun _ h => h) rfl dX9_sum_29 ?_
            refine lv_bipush (v := 45) hx hb dX9_sum_32 (by decide) ?_
            refine lv_icmp_ne (tgt := 78) hx hb dX9_sum_34 (by decide) (fun c89 => ?_) (fun c89 => ?_)
            · have g90 := z_f_ne rfl z_l45 c89
              refine lv_iconst (v := 1) hx hb dX9_sum_78 (by decide) ?_
              exact z_zret hx hb hr (by decide) hK hS (Nat.le_of_ble_eq_true rfl) (Nat.le_of_ble_eq_true rfl) hlocks dX9_sum_79 (shC c, ad, I20, JX, PC c ad) hW ⟨I20, rfl, ⟨(by show 0 ≤ (I20 12 1).toInt ∧ (I20 12 1).toInt ≤ 500; exact lp18R.1), (by show 0 ≤ (I20 12 5).toInt ∧ (I20 12 5).toInt ≤ 501; exact lp18R.2.1), (by show (-1) ≤ (I20 12 6).toInt ∧ (I20 12 6).toInt ≤ 1000000; exact lp18R.2.2.1), (by show 0 ≤ (I20 12 9).toInt ∧ (I20 12 9).toInt ≤ 500; exact lp18R.2.2.2.1), (by show 0 ≤ (I20 12 13).toInt ∧ (I20 12 13).toInt ≤ 24; exact lp18R.2.2.2.2)⟩, (by show (I20 12 6).toInt ≤ 501 ∧ ((I20 12 7).toInt = 401 ∨ (I20 12 6).toInt ≤ 500); first | omega | decide), lp18fr, (Or.inl ⟨rfl, zr_ok_of hM28 rfl (by omega) (by omega) (zp_L3 (Or.inl rfl) lp27 (zr_g0n (by omega) (by omega)))⟩)⟩
            · have g91 := z_f_eq rfl z_l45 c89
              refine lv_aload_n hx hb dX9_sum_37 rfl (lv_at hl 1 rfl) ?_
              refine z_get (T := TX9) (N := 14) (ci := 9) (i := 12) (v := .int (I20 12 7)) hx hb hts zj_X9_sum_X9 hown hK hW rfl rfl 7 (by decide) (hts (.fieldLink RX9 62 "PetrolBoard$Reader" "token" "I") (me_s (me_l (me_l (List.mem_of_getElem? (i := 0) rfl))))) (fun _ h => h) rfl dX9_sum_38 ?_
              refine lv_istore_n (lv' := [(3, .int (I20 12 7)), (2, .int y19), (0, .ref (ad 12)), (1, .int 3)]) hx hb dX9_sum_41 rfl hl (by decide) rfl (fun ls hl => ?_)
              refine lv_aload_n hx hb dX9_sum_42 rfl (lv_at hl 2 rfl) ?_
              have q92 := zr_Q_n (zr_Q_m hP hM28) (by rw [zr_tkS hM28]; omega)
              refine z_cv hW hS hA (va_runV (As := []) (rest := []) ⟨hx, hb, hml, hown, hts⟩ (sx_X9_step_x l G ad c I20 ⟨(by show 0 ≤ (I20 12 1).toInt ∧ (I20 12 1).toInt ≤ 500; exact lp18R.1), (by show 0 ≤ (I20 12 5).toInt ∧ (I20 12 5).toInt ≤ 501; exact lp18R.2.1), (by show (-1) ≤ (I20 12 6).toInt ∧ (I20 12 6).toInt ≤ 1000000; exact lp18R.2.2.1), (by show 0 ≤ (I20 12 9).toInt ∧ (I20 12 9).toInt ≤ 500; exact lp18R.2.2.2.1), (by show 0 ≤ (I20 12 13).toInt ∧ (I20 12 13).toInt ≤ 24; exact lp18R.2.2.2.2)⟩ (k22 + 1) q92 _) (cwV 0 hts gX9_sum_X9_step rfl rfl rfl (by decide +kernel) ⟨Nat.le_of_ble_eq_true rfl, Nat.le_of_ble_eq_true rfl⟩) (z_preV (i := 12) hK hW rfl rfl) rfl rfl hl.1 rfl (lv_room (Nat.le_of_ble_eq_true rfl)) dX9_sum_43 ⟨Nat.le_of_ble_eq_true rfl, Nat.le_of_ble_eq_true rfl⟩) (fun u1 H locs hp hW hS => ?_)
              obtain ⟨I93, e9, hI93R, hI93T, fI93, hp⟩ := hp
              rw [e9] at hW
              have f94 := z_fr_sub (L := L_X9_sum_3x) lp18fr fI93 (by decide)
              have k95 : (I93 12 6).toInt ≤ 501 ∧ ((I93 12 7).toInt = 401 ∨ (I93 12 6).toInt ≤ 500) := hI93T
              have hM96 := zr_M_s hM28 hp hP.2.2.2.2.1
              have h97 := hM96.1
              have h98 := hM96.2.1
              have h99 := hM96.2.2.1
              have h100 := hM96.2.2.2.1
              have l101 : (cs23).length = cs23.length := by first | rfl | (simp only [List.length_append, List.length_cons, List.length_nil] <;> omega)
              refine lv_aload_n hx hb dX9_sum_46 rfl (lv_at hl 2 rfl) ?_
              refine lv_iload_n hx hb dX9_sum_47 rfl (lv_at hl 3 rfl) ?_
              refine z_ci hW hS hA (va_runV (As := [.int 3]) (rest := []) ⟨hx, hb, hml, hown, hts⟩ (sx_X9_product_3x l G ad c I93 ⟨(by show 0 ≤ (I93 12 1).toInt ∧ (I93 12 1).toInt ≤ 500; exact hI93R.1), (by show 0 ≤ (I93 12 5).toInt ∧ (I93 12 5).toInt ≤ 501; exact hI93R.2.1), (by show (-1) ≤ (I93 12 6).toInt ∧ (I93 12 6).toInt ≤ 1000000; exact hI93R.2.2.1), (by show 0 ≤ (I93 12 9).toInt ∧ (I93 12 9).toInt ≤ 500; exact hI93R.2.2.2.1), (by show 0 ≤ (I93 12 13).toInt ∧ (I93 12 13).toInt ≤ 24; exact hI93R.2.2.2.2)⟩ (by show (I93 12 6).toInt ≤ 501 ∧ ((I93 12 7).toInt = 401 ∨ (I93 12 6).toInt ≤ 500); first | omega | decide) (k22 + 1) (zr_P_m hP hM96 (by omega)) _) (cwV 1 hts gX9_sum_X9_product rfl rfl rfl (by decide +kernel) ⟨Nat.le_of_ble_eq_true rfl, Nat.le_of_ble_eq_true rfl⟩) (z_preV (i := 12) hK hW rfl rfl) rfl rfl hl.1 rfl (lv_room (Nat.le_of_ble_eq_true rfl)) dX9_sum_48 ⟨Nat.le_of_ble_eq_true rfl, Nat.le_of_ble_eq_true rfl⟩) (fun r u1 H locs hp hW hS => ?_)
              obtain ⟨I102, e9, hI102R, hI102T, fI102, hp⟩ := hp
              rw [e9] at hW
              have f103 := z_fr_sub (L := L_X9_sum_3x) f94 fI102 (by decide)
              have k104 : (I102 12 6).toInt ≤ 501 ∧ ((I102 12 7).toInt = 401 ∨ (I102 12 6).toInt ≤ 500) := hI102T
              rcases hp with ⟨rfl, hq⟩ | ⟨rfl, hq⟩
              · obtain ⟨k105, cs106, hm107, h108, h109, h110⟩ := hq
                have ho111 := zr_okS hM96 h110
                have hM112 := zr_M_t hM96 hm107 hP.2.2.2.2.1
                have h113 := hM112.1
                have h114 := hM112.2.1
                have h115 := hM112.2.2.1
                have h116 := hM112.2.2.2.1
                have l117 : ((cs23 ++ cs106)).length = cs23.length + cs106.length := by first | rfl | (simp only [List.length_append, List.length_cons, List.length_nil] <;> omega)
                refine lv_if_ne (tgt := 56) hx hb dX9_sum_51 (by decide) (fun c118 => ?_) (fun c118 => absurd c118 (by decide))
                refine lv_aload_n hx hb dX9_sum_56 rfl (lv_at hl 2 rfl) ?_
                refine lv_iload_n hx hb dX9_sum_57 rfl (lv_at hl 0 rfl) ?_
                refine lv_bipush (v := 43) hx hb dX9_sum_58 (by decide) ?_
                refine lv_icmp_ne (tgt := 67) hx hb dX9_sum_60 (by decide) (fun c119 => ?_) (fun c119 => (by have g := z_f_eq rfl z_l43 c119; omega))
                have g120 := z_f_ne rfl z_l43 c119
                refine lv_bipush (v := (-2)) hx hb dX9_sum_67 (by decide) ?_
                refine z_cv hW hS hA (va_runV (As := [.int (-2)]) (rest := []) ⟨hx, hb, hml, hown, hts⟩ (sx_X9_emit_x l G ad c I102 ⟨(by show 0 ≤ (I102 12 1).toInt ∧ (I102 12 1).toInt ≤ 500; exact hI102R.1), (by show 0 ≤ (I102 12 5).toInt ∧ (I102 12 5).toInt ≤ 501; exact hI102R.2.1), (by show (-1) ≤ (I102 12 6).toInt ∧ (I102 12 6).toInt ≤ 1000000; exact hI102R.2.2.1), (by show 0 ≤ (I102 12 9).toInt ∧ (I102 12 9).toInt ≤ 500; exact hI102R.2.2.2.1), (by show 0 ≤ (I102 12 13).toInt ∧ (I102 12 13).toInt ≤ 24; exact hI102R.2.2.2.2)⟩ (-2) (by omega) _) (cwV 1 hts gX9_sum_X9_emit rfl rfl rfl (by decide +kernel) ⟨Nat.le_of_ble_eq_true rfl, Nat.le_of_ble_eq_true rfl⟩) (z_preV (i := 12) hK hW rfl rfl) rfl rfl hl.1 rfl (lv_room (Nat.le_of_ble_eq_true rfl)) dX9_sum_69 ⟨Nat.le_of_ble_eq_true rfl, Nat.le_of_ble_eq_true rfl⟩) (fun u1 H locs hp hW hS => ?_)
                obtain ⟨I121, e9, hI121R, fI121, hp⟩ := hp
                rw [e9] at hW
                have f122 := z_fr_sub (L := L_X9_sum_3x) f103 fI121 (by decide)
                have k123 : (I121 12 6).toInt ≤ 501 ∧ ((I121 12 7).toInt = 401 ∨ (I121 12 6).toInt ≤ 500) := (by have q0 : (I121 12 6) = (I102 12 6) := (by rw [fI121 12 6 (by decide)]); have q1 : (I121 12 7) = (I102 12 7) := (by rw [fI121 12 7 (by decide)]); show (I121 12 6).toInt ≤ 501 ∧ ((I121 12 7).toInt = 401 ∨ (I121 12 6).toInt ≤ 500); rw [q0, q1]; first | omega | decide)
                have hM124 := zr_M_e hM112 hp (show ((-2) : Int32).toInt = (-2) by decide) hP.2.2.2.2.1
                have h125 := hM124.1
                have h126 := hM124.2.1
                have h127 := hM124.2.2.1
                have h128 := hM124.2.2.2.1
                have l129 : (((cs23 ++ cs106) ++ [(-2)])).length = cs23.length + cs106.length + 1 := by first | rfl | (simp only [List.length_append, List.length_cons, List.length_nil] <;> omega)
                obtain ⟨x130, ex130⟩ : ∃ y : Int32, y = y19 + 1 := ⟨_, rfl⟩
                have tx130 : x130.toInt = y19.toInt + 1 := z_tadd ex130 rfl z_l1 (by omega) (by omega)
                refine lv_iinc (v := x130) (lv' := [(2, .int x130), (3, .int (I20 12 7)), (0, .ref (ad 12)), (1, .int 3)]) hx hb dX9_sum_72 hl (k := 1) rfl (by rw [ex130]; rfl) (by decide) rfl (fun ls hl => ?_)
                refine lv_goto (tgt := 12) hx hb dX9_sum_75 (by decide) ?_
                exact lp18ih x130 I121  _ _ _ (by omega) (by omega) ⟨(by show 0 ≤ (I121 12 1).toInt ∧ (I121 12 1).toInt ≤ 500; exact hI121R.1), (by show 0 ≤ (I121 12 5).toInt ∧ (I121 12 5).toInt ≤ 501; exact hI121R.2.1), (by show (-1) ≤ (I121 12 6).toInt ∧ (I121 12 6).toInt ≤ 1000000; exact hI121R.2.2.1), (by show 0 ≤ (I121 12 9).toInt ∧ (I121 12 9).toInt ≤ 500; exact hI121R.2.2.2.1), (by show 0 ≤ (I121 12 13).toInt ∧ (I121 12 13).toInt ≤ 24; exact hI121R.2.2.2.2)⟩ (by show (I121 12 6).toInt ≤ 501 ∧ ((I121 12 7).toInt = 401 ∨ (I121 12 6).toInt ≤ 500); first | omega | decide) (zr_lp_of hM124 (by rw [zr_e0s (show zr_tk I k22 = 45 by omega), List.append_assoc]) (by omega) (by omega) (zp_L2 (by decide) (Or.inl rfl) lp27 (zr_g0p (by omega)) ho111)) f122 hW hS (lv_sub hl [0, 2, 3] rfl)
              · obtain ⟨f131, hf132, h133⟩ := hq
                have hb134 := zr_noS hM96 h133
                have hF135 := zr_F_m hM96 hf132
                refine lv_if_ne (tgt := 56) hx hb dX9_sum_51 (by decide) (fun c136 => absurd (by decide) c136) (fun c136 => ?_)
                refine lv_iconst (v := 0) hx hb dX9_sum_54 (by decide) ?_
                exact z_zret hx hb hr (by decide) hK hS (Nat.le_of_ble_eq_true rfl) (Nat.le_of_ble_eq_true rfl) hlocks dX9_sum_55 (shC c, ad, I102, JX, PC c ad) hW ⟨I102, rfl, ⟨(by show 0 ≤ (I102 12 1).toInt ∧ (I102 12 1).toInt ≤ 500; exact hI102R.1), (by show 0 ≤ (I102 12 5).toInt ∧ (I102 12 5).toInt ≤ 501; exact hI102R.2.1), (by show (-1) ≤ (I102 12 6).toInt ∧ (I102 12 6).toInt ≤ 1000000; exact hI102R.2.2.1), (by show 0 ≤ (I102 12 9).toInt ∧ (I102 12 9).toInt ≤ 500; exact hI102R.2.2.2.1), (by show 0 ≤ (I102 12 13).toInt ∧ (I102 12 13).toInt ≤ 24; exact hI102R.2.2.2.2)⟩, (by show (I102 12 6).toInt ≤ 501 ∧ ((I102 12 7).toInt = 401 ∨ (I102 12 6).toInt ≤ 500); first | omega | decide), f103, (Or.inr ⟨rfl, f131, hF135, (zp_L5 (by decide) (Or.inl rfl) lp27 (zr_g0p (by omega)) hb134)⟩)⟩
    exact lp18 4294967296 (0) I1  _ _ _ (z_m0u _) (by rw [z_l0]; omega) ⟨(by show 0 ≤ (I1 12 1).toInt ∧ (I1 12 1).toInt ≤ 500; exact hI1R.1), (by show 0 ≤ (I1 12 5).toInt ∧ (I1 12 5).toInt ≤ 501; exact hI1R.2.1), (by show (-1) ≤ (I1 12 6).toInt ∧ (I1 12 6).toInt ≤ 1000000; exact hI1R.2.2.1), (by show 0 ≤ (I1 12 9).toInt ∧ (I1 12 9).toInt ≤ 500; exact hI1R.2.2.2.1), (by show 0 ≤ (I1 12 13).toInt ∧ (I1 12 13).toInt ≤ 24; exact hI1R.2.2.2.2)⟩ (by show (I1 12 6).toInt ≤ 501 ∧ ((I1 12 7).toInt = 401 ∨ (I1 12 6).toInt ≤ 500); first | omega | decide) (zr_lp_of hM11 rfl (by have := z_l0; omega) (by omega) (zp_L1 (by decide) (Or.inl rfl) ho10)) f2 hW hS (lv_sub hl [0, 1, 2] rfl)
  · obtain ⟨f137, hf138, h139⟩ := hq
    have hb140 := zr_noS hM0 h139
    have hF141 := zr_F_m hM0 hf138
    refine lv_if_ne (tgt := 10) hx hb dX9_sum_5 (by decide) (fun c142 => absurd (by decide) c142) (fun c142 => ?_)
    refine lv_iconst (v := 0) hx hb dX9_sum_8 (by decide) ?_
    exact z_zret hx hb hr (by decide) hK hS (Nat.le_of_ble_eq_true rfl) (Nat.le_of_ble_eq_true rfl) hlocks dX9_sum_9 (shC c, ad, I1, JX, PC c ad) hW ⟨I1, rfl, ⟨(by show 0 ≤ (I1 12 1).toInt ∧ (I1 12 1).toInt ≤ 500; exact hI1R.1), (by show 0 ≤ (I1 12 5).toInt ∧ (I1 12 5).toInt ≤ 501; exact hI1R.2.1), (by show (-1) ≤ (I1 12 6).toInt ∧ (I1 12 6).toInt ≤ 1000000; exact hI1R.2.2.1), (by show 0 ≤ (I1 12 9).toInt ∧ (I1 12 9).toInt ≤ 500; exact hI1R.2.2.2.1), (by show 0 ≤ (I1 12 13).toInt ∧ (I1 12 13).toInt ≤ 24; exact hI1R.2.2.2.2)⟩, (by show (I1 12 6).toInt ≤ 501 ∧ ((I1 12 7).toInt = 401 ∨ (I1 12 6).toInt ≤ 500); first | omega | decide), f2, (Or.inr ⟨rfl, f137, hF141, (zp_L4 (by decide) (Or.inl rfl) hb140)⟩)⟩
noncomputable def L_X9_opened_3x : z_L := [(12, 6), (12, 7), (17, 999), (12, 9)]
set_option maxHeartbeats 8000000 in
set_option maxRecDepth 100000 in
theorem sx_X9_opened_3x (l : Launch) (G : z_G) (ad : Nat → Nat) (c : z_C) (I : z_I) (hR : z_iR I) (hT : z_iT I) (k : Nat) (hP : zr_P I k) (ho : zr_tk I k = 311 ∨ zr_tk I k = 123) : z_M l yX9_opened wsX9_opened { frames := 69, cells := 0, slots := 0, locals := 1507 } [.ref (ad 12), .int 3] G (shC c, ad, I, JX, PC c ad) (fun r u1 => ∃ I1 : z_I, u1 = (shC c, ad, I1, JX, PC c ad) ∧ z_iR I1 ∧ z_iT I1 ∧ z_fr L_X9_opened_3x I1 I ∧ ((r = 1 ∧ zr_ok 5 3 I I1 k) ∨ (r = 0 ∧ zr_no 5 3 I I1 k))) 0 0 := by
  intro sz
  refine z_headQ (cc := cX9_opened) (maxL := 3) (ret := (some .boolean)) (by decide) rfl (Nat.le_of_ble_eq_true rfl) ?_
  intro p e s m below meth c0 ls hIn hK hsz hW hl
  obtain ⟨hx, hb, hr, hml, hown, hts, hlocks, hname⟩ := hIn
  subst hsz
  have hown : s.vm.findClass RX9 = some m.cls := hown
  have hA : ∀ q : Nat, s.heap.size ≤ q → z_A (shC c, ad, I, JX, PC c ad) s.heap.size q := fun q h => Or.inr h
  generalize hAe : z_A (shC c, ad, I, JX, PC c ad) s.heap.size = A at *
  have hS : va_S A s.heap s.heap [] := va_S.rf
  have hl : lv_has ls 3 [(0, .ref (ad 12)), (1, .int 3)] := hl
  have hM0 := zr_M_0 hP
  have hP1 := hP.1
  have hP2 := hP.2.1
  have hP3 := hP.2.2.1
  have hP4 := hP.2.2.2.1
  have hP5 := hP.2.2.2.2.1
  have hP6 := hP.2.2.2.2.2.1
  have hlz : ([] : List Int).length = 0 := rfl
  have kT : (I 12 6).toInt ≤ 501 ∧ ((I 12 7).toInt = 401 ∨ (I 12 6).toInt ≤ 500) := hT
  refine lv_iload_n hx hb dX9_opened_0 rfl (lv_at hl 1 rfl) ?_
  refine lv_bipush (v := 9) hx hb dX9_opened_1 (by decide) ?_
  refine lv_icmp_lt (tgt := 8) hx hb dX9_opened_3 (by decide) (fun c1 => ?_) (fun c1 => absurd (by decide) c1)
  refine lv_aload_n hx hb dX9_opened_8 rfl (lv_at hl 0 rfl) ?_
  refine z_get (T := TX9) (N := 14) (ci := 9) (i := 12) (v := .int (I 12 7)) hx hb hts zj_X9_opened_X9 hown hK hW rfl rfl 7 (by decide) (hts (.fieldLink RX9 62 "PetrolBoard$Reader" "token" "I") (me_s (me_l (me_l (List.mem_of_getElem? (i := 0) rfl))))) (fun _ h => h) rfl dX9_opened_9 ?_
  refine lv_sipush (v := 311) hx hb dX9_opened_12 (by decide) ?_
  refine lv_icmp_ne (tgt := 22) hx hb dX9_opened_15 (by decide) (fun c2 => ?_) (fun c2 => ?_)
  · have g3 := z_f_ne rfl z_l311 c2
    have b4 := Int32.toInt_lt (I 12 7)
    refine lv_iconst (v := 0) hx hb dX9_opened_22 (by decide) ?_
    refine lv_istore_n (lv' := [(2, .int 0), (0, .ref (ad 12)), (1, .int 3)]) hx hb dX9_opened_23 rfl hl (by decide) rfl (fun ls hl => ?_)
    refine lv_aload_n hx hb dX9_opened_24 rfl (lv_at hl 1 rfl) ?_
    have q5 := zr_Q_n (zr_Q_m hP hM0) (by rw [zr_tkS hM0]; omega)
    refine z_cv hW hS hA (va_runV (As := []) (rest := []) ⟨hx, hb, hml, hown, hts⟩ (sx_X9_step_x l G ad c I ⟨(by show 0 ≤ (I 12 1).toInt ∧ (I 12 1).toInt ≤ 500; exact hR.1), (by show 0 ≤ (I 12 5).toInt ∧ (I 12 5).toInt ≤ 501; exact hR.2.1), (by show (-1) ≤ (I 12 6).toInt ∧ (I 12 6).toInt ≤ 1000000; exact hR.2.2.1), (by show 0 ≤ (I 12 9).toInt ∧ (I 12 9).toInt ≤ 500; exact hR.2.2.2.1), (by show 0 ≤ (I 12 13).toInt ∧ (I 12 13).toInt ≤ 24; exact hR.2.2.2.2)⟩ (k + 1) q5 _) (cwV 0 hts gX9_opened_X9_step rfl rfl rfl (by decide +kernel) ⟨Nat.le_of_ble_eq_true rfl, Nat.le_of_ble_eq_true rfl⟩) (z_preV (i := 12) hK hW rfl rfl) rfl rfl hl.1 rfl (lv_room (Nat.le_of_ble_eq_true rfl)) dX9_opened_25 ⟨Nat.le_of_ble_eq_true rfl, Nat.le_of_ble_eq_true rfl⟩) (fun u1 H locs hp hW hS => ?_)
    obtain ⟨I6, e9, hI6R, hI6T, fI6, hp⟩ := hp
    rw [e9] at hW
    have f7 := z_fr_sub (L := L_X9_opened_3x) z_fr_0 fI6 (by decide)
    have k8 : (I6 12 6).toInt ≤ 501 ∧ ((I6 12 7).toInt = 401 ∨ (I6 12 6).toInt ≤ 500) := hI6T
    have hM9 := zr_M_s hM0 hp hP.2.2.2.2.1
    have h11 := hM9.1
    have h12 := hM9.2.1
    have h13 := hM9.2.2.1
    have h14 := hM9.2.2.2.1
    have l15 : (([] : List Int) : List Int).length = 0 := rfl
    refine lv_iload_n hx hb dX9_opened_28 rfl (lv_at hl 0 rfl) ?_
    refine lv_if_ne (tgt := 57) hx hb dX9_opened_29 (by decide) (fun c16 => absurd (by decide) c16) (fun c16 => ?_)
    refine lv_aload_n hx hb dX9_opened_32 rfl (lv_at hl 1 rfl) ?_
    refine lv_iload_n hx hb dX9_opened_33 rfl (lv_at hl 2 rfl) ?_
    refine lv_iconst (v := 1) hx hb dX9_opened_34 (by decide) ?_
    refine lv_iadd hx hb dX9_opened_35 ?_
    refine z_topi (v := 4) (by decide) ?_
    refine z_ci hW hS hA (va_runV (As := [.int 4]) (rest := []) ⟨hx, hb, hml, hown, hts⟩ (sx_X9_either_4x l G ad c I6 ⟨(by show 0 ≤ (I6 12 1).toInt ∧ (I6 12 1).toInt ≤ 500; exact hI6R.1), (by show 0 ≤ (I6 12 5).toInt ∧ (I6 12 5).toInt ≤ 501; exact hI6R.2.1), (by show (-1) ≤ (I6 12 6).toInt ∧ (I6 12 6).toInt ≤ 1000000; exact hI6R.2.2.1), (by show 0 ≤ (I6 12 9).toInt ∧ (I6 12 9).toInt ≤ 500; exact hI6R.2.2.2.1), (by show 0 ≤ (I6 12 13).toInt ∧ (I6 12 13).toInt ≤ 24; exact hI6R.2.2.2.2)⟩ (by show (I6 12 6).toInt ≤ 501 ∧ ((I6 12 7).toInt = 401 ∨ (I6 12 6).toInt ≤ 500); first | omega | decide) (k + 1) (zr_P_m hP hM9 (by omega)) _) (cwV 1 hts gX9_opened_X9_either rfl rfl rfl (by decide +kernel) ⟨Nat.le_of_ble_eq_true rfl, Nat.le_of_ble_eq_true rfl⟩) (z_preV (i := 12) hK hW rfl rfl) rfl rfl hl.1 rfl (lv_room (Nat.le_of_ble_eq_true rfl)) dX9_opened_36 ⟨Nat.le_of_ble_eq_true rfl, Nat.le_of_ble_eq_true rfl⟩) (fun r u1 H locs hp hW hS => ?_)
    obtain ⟨I17, e9, hI17R, hI17T, fI17, hp⟩ := hp
    rw [e9] at hW
    have f18 := z_fr_sub (L := L_X9_opened_3x) f7 fI17 (by decide)
    have k19 : (I17 12 6).toInt ≤ 501 ∧ ((I17 12 7).toInt = 401 ∨ (I17 12 6).toInt ≤ 500) := hI17T
    rcases hp with ⟨rfl, hq⟩ | ⟨rfl, hq⟩
    · obtain ⟨k20, cs21, hm22, h23, h24, h25⟩ := hq
      have ho26 := zr_okS hM9 h25
      have hM27 := (show zr_M I I17 k20 cs21 from zr_M_t hM9 hm22 hP.2.2.2.2.1)
      have h28 := hM27.1
      have h29 := hM27.2.1
      have h30 := hM27.2.2.1
      have h31 := hM27.2.2.2.1
      have l32 : (cs21).length = cs21.length := by first | rfl | (simp only [List.length_append, List.length_cons, List.length_nil] <;> omega)
      refine lv_if_eq (tgt := 55) hx hb dX9_opened_39 (by decide) (fun c33 => absurd c33 (by decide)) (fun c33 => ?_)
      refine lv_aload_n hx hb dX9_opened_42 rfl (lv_at hl 1 rfl) ?_
      refine lv_bipush (v := 125) hx hb dX9_opened_43 (by decide) ?_
      refine z_ci hW hS hA (va_runV (As := [.int 125]) (rest := []) ⟨hx, hb, hml, hown, hts⟩ (sx_X9_taken_x l G ad c I17 ⟨(by show 0 ≤ (I17 12 1).toInt ∧ (I17 12 1).toInt ≤ 500; exact hI17R.1), (by show 0 ≤ (I17 12 5).toInt ∧ (I17 12 5).toInt ≤ 501; exact hI17R.2.1), (by show (-1) ≤ (I17 12 6).toInt ∧ (I17 12 6).toInt ≤ 1000000; exact hI17R.2.2.1), (by show 0 ≤ (I17 12 9).toInt ∧ (I17 12 9).toInt ≤ 500; exact hI17R.2.2.2.1), (by show 0 ≤ (I17 12 13).toInt ∧ (I17 12 13).toInt ≤ 24; exact hI17R.2.2.2.2)⟩ (by show (I17 12 6).toInt ≤ 501 ∧ ((I17 12 7).toInt = 401 ∨ (I17 12 6).toInt ≤ 500); first | omega | decide) k20 125 (zr_P_m hP hM27 (by omega)) (by first | omega | decide) _) (cwV 1 hts gX9_opened_X9_taken rfl rfl rfl (by decide +kernel) ⟨Nat.le_of_ble_eq_true rfl, Nat.le_of_ble_eq_true rfl⟩) (z_preV (i := 12) hK hW rfl rfl) rfl rfl hl.1 rfl (lv_room (Nat.le_of_ble_eq_true rfl)) dX9_opened_45 ⟨Nat.le_of_ble_eq_true rfl, Nat.le_of_ble_eq_true rfl⟩) (fun r u1 H locs hp hW hS => ?_)
      obtain ⟨I34, e9, hI34R, hI34T, fI34, hp⟩ := hp
      rw [e9] at hW
      have f35 := z_fr_sub (L := L_X9_opened_3x) f18 fI34 (by decide)
      have k36 : (I34 12 6).toInt ≤ 501 ∧ ((I34 12 7).toInt = 401 ∨ (I34 12 6).toInt ≤ 500) := hI34T
      rcases hp with ⟨rfl, h37, h38⟩ | ⟨rfl, h37, h38⟩
      · rw [zr_tkS hM27] at h37
        have z39 := z_l125
        have hM40 := zr_M_s hM27 h38 hP.2.2.2.2.1
        have h41 := hM40.1
        have h42 := hM40.2.1
        have h43 := hM40.2.2.1
        have h44 := hM40.2.2.2.1
        have l45 : (cs21).length = cs21.length := by first | rfl | (simp only [List.length_append, List.length_cons, List.length_nil] <;> omega)
        refine lv_if_eq (tgt := 55) hx hb dX9_opened_48 (by decide) (fun c46 => absurd c46 (by decide)) (fun c46 => ?_)
        refine lv_iconst (v := 1) hx hb dX9_opened_51 (by decide) ?_
        refine lv_goto (tgt := 56) hx hb dX9_opened_52 (by decide) ?_
        exact z_zret hx hb hr (by decide) hK hS (Nat.le_of_ble_eq_true rfl) (Nat.le_of_ble_eq_true rfl) hlocks dX9_opened_56 (shC c, ad, I34, JX, PC c ad) hW ⟨I34, rfl, ⟨(by show 0 ≤ (I34 12 1).toInt ∧ (I34 12 1).toInt ≤ 500; exact hI34R.1), (by show 0 ≤ (I34 12 5).toInt ∧ (I34 12 5).toInt ≤ 501; exact hI34R.2.1), (by show (-1) ≤ (I34 12 6).toInt ∧ (I34 12 6).toInt ≤ 1000000; exact hI34R.2.2.1), (by show 0 ≤ (I34 12 9).toInt ∧ (I34 12 9).toInt ≤ 500; exact hI34R.2.2.2.1), (by show 0 ≤ (I34 12 13).toInt ∧ (I34 12 13).toInt ≤ 24; exact hI34R.2.2.2.2)⟩, (by show (I34 12 6).toInt ≤ 501 ∧ ((I34 12 7).toInt = 401 ∨ (I34 12 6).toInt ≤ 500); first | omega | decide), f35, (Or.inl ⟨rfl, zr_ok_of hM40 rfl (by omega) (by omega) (zp_T3 (by decide) (by omega) (by decide) ho26 (by omega))⟩)⟩
      · rw [zr_tkS hM27] at h37
        have z47 := z_l125
        have hM48 := zr_M_s hM27 h38 hP.2.2.2.2.1
        have h49 := hM48.1
        have h50 := hM48.2.1
        have h51 := hM48.2.2.1
        have h52 := hM48.2.2.2.1
        have l53 : (cs21).length = cs21.length := by first | rfl | (simp only [List.length_append, List.length_cons, List.length_nil] <;> omega)
        refine lv_if_eq (tgt := 55) hx hb dX9_opened_48 (by decide) (fun c54 => ?_) (fun c54 => absurd (by decide) c54)
        refine lv_iconst (v := 0) hx hb dX9_opened_55 (by decide) ?_
        exact z_zret hx hb hr (by decide) hK hS (Nat.le_of_ble_eq_true rfl) (Nat.le_of_ble_eq_true rfl) hlocks dX9_opened_56 (shC c, ad, I34, JX, PC c ad) hW ⟨I34, rfl, ⟨(by show 0 ≤ (I34 12 1).toInt ∧ (I34 12 1).toInt ≤ 500; exact hI34R.1), (by show 0 ≤ (I34 12 5).toInt ∧ (I34 12 5).toInt ≤ 501; exact hI34R.2.1), (by show (-1) ≤ (I34 12 6).toInt ∧ (I34 12 6).toInt ≤ 1000000; exact hI34R.2.2.1), (by show 0 ≤ (I34 12 9).toInt ∧ (I34 12 9).toInt ≤ 500; exact hI34R.2.2.2.1), (by show 0 ≤ (I34 12 13).toInt ∧ (I34 12 13).toInt ≤ 24; exact hI34R.2.2.2.2)⟩, (by show (I34 12 6).toInt ≤ 501 ∧ ((I34 12 7).toInt = 401 ∨ (I34 12 6).toInt ≤ 500); first | omega | decide), f35, (Or.inr ⟨rfl, k20, (zr_F_0 hM48), (zp_T4 (by decide) (by omega) (by decide) ho26 (by omega))⟩)⟩
    · obtain ⟨f55, hf56, h57⟩ := hq
      have hb58 := zr_noS hM9 h57
      have hF59 := zr_F_m hM9 hf56
      refine lv_if_eq (tgt := 55) hx hb dX9_opened_39 (by decide) (fun c60 => ?_) (fun c60 => absurd (by decide) c60)
      refine lv_iconst (v := 0) hx hb dX9_opened_55 (by decide) ?_
      exact z_zret hx hb hr (by decide) hK hS (Nat.le_of_ble_eq_true rfl) (Nat.le_of_ble_eq_true rfl) hlocks dX9_opened_56 (shC c, ad, I17, JX, PC c ad) hW ⟨I17, rfl, ⟨(by show 0 ≤ (I17 12 1).toInt ∧ (I17 12 1).toInt ≤ 500; exact hI17R.1), (by show 0 ≤ (I17 12 5).toInt ∧ (I17 12 5).toInt ≤ 501; exact hI17R.2.1), (by show (-1) ≤ (I17 12 6).toInt ∧ (I17 12 6).toInt ≤ 1000000; exact hI17R.2.2.1), (by show 0 ≤ (I17 12 9).toInt ∧ (I17 12 9).toInt ≤ 500; exact hI17R.2.2.2.1), (by show 0 ≤ (I17 12 13).toInt ∧ (I17 12 13).toInt ≤ 24; exact hI17R.2.2.2.2)⟩, (by show (I17 12 6).toInt ≤ 501 ∧ ((I17 12 7).toInt = 401 ∨ (I17 12 6).toInt ≤ 500); first | omega | decide), f18, (Or.inr ⟨rfl, f55, hF59, (zp_T5 (by decide) (by omega) (by decide) hb58)⟩)⟩
  · have g61 := z_f_eq rfl z_l311 c2
    have b62 := Int32.toInt_lt (I 12 7)
    refine lv_iconst (v := 1) hx hb dX9_opened_18 (by decide) ?_
    refine lv_goto (tgt := 23) hx hb dX9_opened_19 (by decide) ?_
    refine lv_istore_n (lv' := [(2, .int 1), (0, .ref (ad 12)), (1, .int 3)]) hx hb dX9_opened_23 rfl hl (by decide) rfl (fun ls hl => ?_)
    refine lv_aload_n hx hb dX9_opened_24 rfl (lv_at hl 1 rfl) ?_
    have q63 := zr_Q_n (zr_Q_m hP hM0) (by rw [zr_tkS hM0]; omega)
    refine z_cv hW hS hA (va_runV (As := []) (rest := []) ⟨hx, hb, hml, hown, hts⟩ (sx_X9_step_x l G ad c I ⟨(by show 0 ≤ (I 12 1).toInt ∧ (I 12 1).toInt ≤ 500; exact hR.1), (by show 0 ≤ (I 12 5).toInt ∧ (I 12 5).toInt ≤ 501; exact hR.2.1), (by show (-1) ≤ (I 12 6).toInt ∧ (I 12 6).toInt ≤ 1000000; exact hR.2.2.1), (by show 0 ≤ (I 12 9).toInt ∧ (I 12 9).toInt ≤ 500; exact hR.2.2.2.1), (by show 0 ≤ (I 12 13).toInt ∧ (I 12 13).toInt ≤ 24; exact hR.2.2.2.2)⟩ (k + 1) q63 _) (cwV 0 hts gX9_opened_X9_step rfl rfl rfl (by decide +kernel) ⟨Nat.le_of_ble_eq_true rfl, Nat.le_of_ble_eq_true rfl⟩) (z_preV (i := 12) hK hW rfl rfl) rfl rfl hl.1 rfl (lv_room (Nat.le_of_ble_eq_true rfl)) dX9_opened_25 ⟨Nat.le_of_ble_eq_true rfl, Nat.le_of_ble_eq_true rfl⟩) (fun u1 H locs hp hW hS => ?_)
    obtain ⟨I64, e9, hI64R, hI64T, fI64, hp⟩ := hp
    rw [e9] at hW
    have f65 := z_fr_sub (L := L_X9_opened_3x) z_fr_0 fI64 (by decide)
    have k66 : (I64 12 6).toInt ≤ 501 ∧ ((I64 12 7).toInt = 401 ∨ (I64 12 6).toInt ≤ 500) := hI64T
    have hM67 := zr_M_s hM0 hp hP.2.2.2.2.1
    have h68 := hM67.1
    have h69 := hM67.2.1
    have h70 := hM67.2.2.1
    have h71 := hM67.2.2.2.1
    have l72 : (([] : List Int) : List Int).length = 0 := rfl
    refine lv_iload_n hx hb dX9_opened_28 rfl (lv_at hl 0 rfl) ?_
    refine lv_if_ne (tgt := 57) hx hb dX9_opened_29 (by decide) (fun c73 => ?_) (fun c73 => absurd c73 (by decide))
    refine lv_aload_n hx hb dX9_opened_57 rfl (lv_at hl 1 rfl) ?_
    refine lv_iload_n hx hb dX9_opened_58 rfl (lv_at hl 2 rfl) ?_
    refine lv_iconst (v := 1) hx hb dX9_opened_59 (by decide) ?_
    refine lv_iadd hx hb dX9_opened_60 ?_
    refine z_topi (v := 4) (by decide) ?_
    refine z_ci hW hS hA (va_runV (As := [.int 4]) (rest := []) ⟨hx, hb, hml, hown, hts⟩ (sx_X9_one_4x l G ad c I64 ⟨(by show 0 ≤ (I64 12 1).toInt ∧ (I64 12 1).toInt ≤ 500; exact hI64R.1), (by show 0 ≤ (I64 12 5).toInt ∧ (I64 12 5).toInt ≤ 501; exact hI64R.2.1), (by show (-1) ≤ (I64 12 6).toInt ∧ (I64 12 6).toInt ≤ 1000000; exact hI64R.2.2.1), (by show 0 ≤ (I64 12 9).toInt ∧ (I64 12 9).toInt ≤ 500; exact hI64R.2.2.2.1), (by show 0 ≤ (I64 12 13).toInt ∧ (I64 12 13).toInt ≤ 24; exact hI64R.2.2.2.2)⟩ (by show (I64 12 6).toInt ≤ 501 ∧ ((I64 12 7).toInt = 401 ∨ (I64 12 6).toInt ≤ 500); first | omega | decide) (k + 1) (zr_P_m hP hM67 (by omega)) _) (cwV 1 hts gX9_opened_X9_one rfl rfl rfl (by decide +kernel) ⟨Nat.le_of_ble_eq_true rfl, Nat.le_of_ble_eq_true rfl⟩) (z_preV (i := 12) hK hW rfl rfl) rfl rfl hl.1 rfl (lv_room (Nat.le_of_ble_eq_true rfl)) dX9_opened_61 ⟨Nat.le_of_ble_eq_true rfl, Nat.le_of_ble_eq_true rfl⟩) (fun r u1 H locs hp hW hS => ?_)
    obtain ⟨I74, e9, hI74R, hI74T, fI74, hp⟩ := hp
    rw [e9] at hW
    have f75 := z_fr_sub (L := L_X9_opened_3x) f65 fI74 (by decide)
    have k76 : (I74 12 6).toInt ≤ 501 ∧ ((I74 12 7).toInt = 401 ∨ (I74 12 6).toInt ≤ 500) := hI74T
    rcases hp with ⟨rfl, hq⟩ | ⟨rfl, hq⟩
    · obtain ⟨k77, cs78, hm79, h80, h81, h82⟩ := hq
      have ho83 := zr_okS hM67 h82
      have hM84 := (show zr_M I I74 k77 cs78 from zr_M_t hM67 hm79 hP.2.2.2.2.1)
      have h85 := hM84.1
      have h86 := hM84.2.1
      have h87 := hM84.2.2.1
      have h88 := hM84.2.2.2.1
      have l89 : (cs78).length = cs78.length := by first | rfl | (simp only [List.length_append, List.length_cons, List.length_nil] <;> omega)
      refine lv_if_ne (tgt := 69) hx hb dX9_opened_64 (by decide) (fun c90 => ?_) (fun c90 => absurd c90 (by decide))
      refine lv_aload_n hx hb dX9_opened_69 rfl (lv_at hl 1 rfl) ?_
      refine lv_bipush (v := (-12)) hx hb dX9_opened_70 (by decide) ?_
      refine z_cv hW hS hA (va_runV (As := [.int (-12)]) (rest := []) ⟨hx, hb, hml, hown, hts⟩ (sx_X9_emit_x l G ad c I74 ⟨(by show 0 ≤ (I74 12 1).toInt ∧ (I74 12 1).toInt ≤ 500; exact hI74R.1), (by show 0 ≤ (I74 12 5).toInt ∧ (I74 12 5).toInt ≤ 501; exact hI74R.2.1), (by show (-1) ≤ (I74 12 6).toInt ∧ (I74 12 6).toInt ≤ 1000000; exact hI74R.2.2.1), (by show 0 ≤ (I74 12 9).toInt ∧ (I74 12 9).toInt ≤ 500; exact hI74R.2.2.2.1), (by show 0 ≤ (I74 12 13).toInt ∧ (I74 12 13).toInt ≤ 24; exact hI74R.2.2.2.2)⟩ (-12) (by omega) _) (cwV 1 hts gX9_opened_X9_emit rfl rfl rfl (by decide +kernel) ⟨Nat.le_of_ble_eq_true rfl, Nat.le_of_ble_eq_true rfl⟩) (z_preV (i := 12) hK hW rfl rfl) rfl rfl hl.1 rfl (lv_room (Nat.le_of_ble_eq_true rfl)) dX9_opened_72 ⟨Nat.le_of_ble_eq_true rfl, Nat.le_of_ble_eq_true rfl⟩) (fun u1 H locs hp hW hS => ?_)
      obtain ⟨I91, e9, hI91R, fI91, hp⟩ := hp
      rw [e9] at hW
      have f92 := z_fr_sub (L := L_X9_opened_3x) f75 fI91 (by decide)
      have k93 : (I91 12 6).toInt ≤ 501 ∧ ((I91 12 7).toInt = 401 ∨ (I91 12 6).toInt ≤ 500) := (by have q0 : (I91 12 6) = (I74 12 6) := (by rw [fI91 12 6 (by decide)]); have q1 : (I91 12 7) = (I74 12 7) := (by rw [fI91 12 7 (by decide)]); show (I91 12 6).toInt ≤ 501 ∧ ((I91 12 7).toInt = 401 ∨ (I91 12 6).toInt ≤ 500); rw [q0, q1]; first | omega | decide)
      have hM94 := zr_M_e hM84 hp (show ((-12) : Int32).toInt = (-12) by decide) hP.2.2.2.2.1
      have h95 := hM94.1
      have h96 := hM94.2.1
      have h97 := hM94.2.2.1
      have h98 := hM94.2.2.2.1
      have l99 : ((cs78 ++ [(-12)])).length = cs78.length + 1 := by first | rfl | (simp only [List.length_append, List.length_cons, List.length_nil] <;> omega)
      refine lv_iconst (v := 1) hx hb dX9_opened_75 (by decide) ?_
      exact z_zret hx hb hr (by decide) hK hS (Nat.le_of_ble_eq_true rfl) (Nat.le_of_ble_eq_true rfl) hlocks dX9_opened_76 (shC c, ad, I91, JX, PC c ad) hW ⟨I91, rfl, ⟨(by show 0 ≤ (I91 12 1).toInt ∧ (I91 12 1).toInt ≤ 500; exact hI91R.1), (by show 0 ≤ (I91 12 5).toInt ∧ (I91 12 5).toInt ≤ 501; exact hI91R.2.1), (by show (-1) ≤ (I91 12 6).toInt ∧ (I91 12 6).toInt ≤ 1000000; exact hI91R.2.2.1), (by show 0 ≤ (I91 12 9).toInt ∧ (I91 12 9).toInt ≤ 500; exact hI91R.2.2.2.1), (by show 0 ≤ (I91 12 13).toInt ∧ (I91 12 13).toInt ≤ 24; exact hI91R.2.2.2.2)⟩, (by show (I91 12 6).toInt ≤ 501 ∧ ((I91 12 7).toInt = 401 ∨ (I91 12 6).toInt ≤ 500); first | omega | decide), f92, (Or.inl ⟨rfl, zr_ok_of hM94 rfl (by omega) (by omega) (zp_T1 (by decide) (by omega) (by decide) ho83)⟩)⟩
    · obtain ⟨f100, hf101, h102⟩ := hq
      have hb103 := zr_noS hM67 h102
      have hF104 := zr_F_m hM67 hf101
      refine lv_if_ne (tgt := 69) hx hb dX9_opened_64 (by decide) (fun c105 => absurd (by decide) c105) (fun c105 => ?_)
      refine lv_iconst (v := 0) hx hb dX9_opened_67 (by decide) ?_
      exact z_zret hx hb hr (by decide) hK hS (Nat.le_of_ble_eq_true rfl) (Nat.le_of_ble_eq_true rfl) hlocks dX9_opened_68 (shC c, ad, I74, JX, PC c ad) hW ⟨I74, rfl, ⟨(by show 0 ≤ (I74 12 1).toInt ∧ (I74 12 1).toInt ≤ 500; exact hI74R.1), (by show 0 ≤ (I74 12 5).toInt ∧ (I74 12 5).toInt ≤ 501; exact hI74R.2.1), (by show (-1) ≤ (I74 12 6).toInt ∧ (I74 12 6).toInt ≤ 1000000; exact hI74R.2.2.1), (by show 0 ≤ (I74 12 9).toInt ∧ (I74 12 9).toInt ≤ 500; exact hI74R.2.2.2.1), (by show 0 ≤ (I74 12 13).toInt ∧ (I74 12 13).toInt ≤ 24; exact hI74R.2.2.2.2)⟩, (by show (I74 12 6).toInt ≤ 501 ∧ ((I74 12 7).toInt = 401 ∨ (I74 12 6).toInt ≤ 500); first | omega | decide), f75, (Or.inr ⟨rfl, f100, hF104, (zp_T2 (by decide) (by omega) (by decide) hb103)⟩)⟩
noncomputable def L_X9_one_3x : z_L := [(12, 6), (12, 7), (17, 999), (12, 9)]
set_option maxHeartbeats 8000000 in
set_option maxRecDepth 100000 in
theorem sx_X9_one_3x (l : Launch) (G : z_G) (ad : Nat → Nat) (c : z_C) (I : z_I) (hR : z_iR I) (hT : z_iT I) (k : Nat) (hP : zr_P I k) : z_M l yX9_one wsX9_one { frames := 70, cells := 0, slots := 0, locals := 1529 } [.ref (ad 12), .int 3] G (shC c, ad, I, JX, PC c ad) (fun r u1 => ∃ I1 : z_I, u1 = (shC c, ad, I1, JX, PC c ad) ∧ z_iR I1 ∧ z_iT I1 ∧ z_fr L_X9_one_3x I1 I ∧ ((r = 1 ∧ zr_ok 5 3 I I1 k) ∨ (r = 0 ∧ zr_no 5 3 I I1 k))) 0 0 := by
  intro sz
  refine z_headQ (cc := cX9_one) (maxL := 3) (ret := (some .boolean)) (by decide) rfl (Nat.le_of_ble_eq_true rfl) ?_
  intro p e s m below meth c0 ls hIn hK hsz hW hl
  obtain ⟨hx, hb, hr, hml, hown, hts, hlocks, hname⟩ := hIn
  subst hsz
  have hown : s.vm.findClass RX9 = some m.cls := hown
  have hA : ∀ q : Nat, s.heap.size ≤ q → z_A (shC c, ad, I, JX, PC c ad) s.heap.size q := fun q h => Or.inr h
  generalize hAe : z_A (shC c, ad, I, JX, PC c ad) s.heap.size = A at *
  have hS : va_S A s.heap s.heap [] := va_S.rf
  have hl : lv_has ls 3 [(0, .ref (ad 12)), (1, .int 3)] := hl
  have hM0 := zr_M_0 hP
  have hP1 := hP.1
  have hP2 := hP.2.1
  have hP3 := hP.2.2.1
  have hP4 := hP.2.2.2.1
  have hP5 := hP.2.2.2.2.1
  have hP6 := hP.2.2.2.2.2.1
  have hlz : ([] : List Int).length = 0 := rfl
  have kT : (I 12 6).toInt ≤ 501 ∧ ((I 12 7).toInt = 401 ∨ (I 12 6).toInt ≤ 500) := hT
  refine lv_aload_n hx hb dX9_one_0 rfl (lv_at hl 0 rfl) ?_
  refine z_get (T := TX9) (N := 14) (ci := 9) (i := 12) (v := .int (I 12 7)) hx hb hts zj_X9_one_X9 hown hK hW rfl rfl 7 (by decide) (hts (.fieldLink RX9 62 "PetrolBoard$Reader" "token" "I") (me_s (me_l (me_l (List.mem_of_getElem? (i := 0) rfl))))) (fun _ h => h) rfl dX9_one_1 ?_
  refine lv_sipush (v := 311) hx hb dX9_one_4 (by decide) ?_
  refine lv_icmp_eq (tgt := 19) hx hb dX9_one_7 (by decide) (fun c1 => ?_) (fun c1 => ?_)
  · have g2 := z_f_eq rfl z_l311 c1
    have b3 := Int32.toInt_lt (I 12 7)
    refine lv_aload_n hx hb dX9_one_19 rfl (lv_at hl 0 rfl) ?_
    refine lv_iload_n hx hb dX9_one_20 rfl (lv_at hl 1 rfl) ?_
    refine z_ci hW hS hA (va_runV (As := [.int 3]) (rest := []) ⟨hx, hb, hml, hown, hts⟩ (sx_X9_opened_3x l G ad c I ⟨(by show 0 ≤ (I 12 1).toInt ∧ (I 12 1).toInt ≤ 500; exact hR.1), (by show 0 ≤ (I 12 5).toInt ∧ (I 12 5).toInt ≤ 501; exact hR.2.1), (by show (-1) ≤ (I 12 6).toInt ∧ (I 12 6).toInt ≤ 1000000; exact hR.2.2.1), (by show 0 ≤ (I 12 9).toInt ∧ (I 12 9).toInt ≤ 500; exact hR.2.2.2.1), (by show 0 ≤ (I 12 13).toInt ∧ (I 12 13).toInt ≤ 24; exact hR.2.2.2.2)⟩ (by show (I 12 6).toInt ≤ 501 ∧ ((I 12 7).toInt = 401 ∨ (I 12 6).toInt ≤ 500); first | omega | decide) k (zr_P_m hP hM0 (by omega)) (by rw [zr_tkS hM0]; omega) _) (cwV 1 hts gX9_one_X9_opened rfl rfl rfl (by decide +kernel) ⟨Nat.le_of_ble_eq_true rfl, Nat.le_of_ble_eq_true rfl⟩) (z_preV (i := 12) hK hW rfl rfl) rfl rfl hl.1 rfl (lv_room (Nat.le_of_ble_eq_true rfl)) dX9_one_21 ⟨Nat.le_of_ble_eq_true rfl, Nat.le_of_ble_eq_true rfl⟩) (fun r u1 H locs hp hW hS => ?_)
    obtain ⟨I4, e9, hI4R, hI4T, fI4, hp⟩ := hp
    rw [e9] at hW
    have f5 := z_fr_sub (L := L_X9_one_3x) z_fr_0 fI4 (by decide)
    have k6 : (I4 12 6).toInt ≤ 501 ∧ ((I4 12 7).toInt = 401 ∨ (I4 12 6).toInt ≤ 500) := hI4T
    rcases hp with ⟨rfl, hq⟩ | ⟨rfl, hq⟩
    · obtain ⟨k7, cs8, hm9, h11, h12, h13⟩ := hq
      have ho14 := zr_okS hM0 h13
      have hM15 := (show zr_M I I4 k7 cs8 from zr_M_t hM0 hm9 hP.2.2.2.2.1)
      have h16 := hM15.1
      have h17 := hM15.2.1
      have h18 := hM15.2.2.1
      have h19 := hM15.2.2.2.1
      have l20 : (cs8).length = cs8.length := by first | rfl | (simp only [List.length_append, List.length_cons, List.length_nil] <;> omega)
      exact z_zret hx hb hr (by decide) hK hS (Nat.le_of_ble_eq_true rfl) (Nat.le_of_ble_eq_true rfl) hlocks dX9_one_24 (shC c, ad, I4, JX, PC c ad) hW ⟨I4, rfl, ⟨(by show 0 ≤ (I4 12 1).toInt ∧ (I4 12 1).toInt ≤ 500; exact hI4R.1), (by show 0 ≤ (I4 12 5).toInt ∧ (I4 12 5).toInt ≤ 501; exact hI4R.2.1), (by show (-1) ≤ (I4 12 6).toInt ∧ (I4 12 6).toInt ≤ 1000000; exact hI4R.2.2.1), (by show 0 ≤ (I4 12 9).toInt ∧ (I4 12 9).toInt ≤ 500; exact hI4R.2.2.2.1), (by show 0 ≤ (I4 12 13).toInt ∧ (I4 12 13).toInt ≤ 24; exact hI4R.2.2.2.2)⟩, (by show (I4 12 6).toInt ≤ 501 ∧ ((I4 12 7).toInt = 401 ∨ (I4 12 6).toInt ≤ 500); first | omega | decide), f5, (Or.inl ⟨rfl, zr_ok_of hM15 rfl (by omega) (by omega) ho14⟩)⟩
    · obtain ⟨f21, hf22, h23⟩ := hq
      have hb24 := zr_noS hM0 h23
      have hF25 := zr_F_m hM0 hf22
      exact z_zret hx hb hr (by decide) hK hS (Nat.le_of_ble_eq_true rfl) (Nat.le_of_ble_eq_true rfl) hlocks dX9_one_24 (shC c, ad, I4, JX, PC c ad) hW ⟨I4, rfl, ⟨(by show 0 ≤ (I4 12 1).toInt ∧ (I4 12 1).toInt ≤ 500; exact hI4R.1), (by show 0 ≤ (I4 12 5).toInt ∧ (I4 12 5).toInt ≤ 501; exact hI4R.2.1), (by show (-1) ≤ (I4 12 6).toInt ∧ (I4 12 6).toInt ≤ 1000000; exact hI4R.2.2.1), (by show 0 ≤ (I4 12 9).toInt ∧ (I4 12 9).toInt ≤ 500; exact hI4R.2.2.2.1), (by show 0 ≤ (I4 12 13).toInt ∧ (I4 12 13).toInt ≤ 24; exact hI4R.2.2.2.2)⟩, (by show (I4 12 6).toInt ≤ 501 ∧ ((I4 12 7).toInt = 401 ∨ (I4 12 6).toInt ≤ 500); first | omega | decide), f5, (Or.inr ⟨rfl, f21, hF25, hb24⟩)⟩
  · have g26 := z_f_ne rfl z_l311 c1
    have b27 := Int32.toInt_lt (I 12 7)
    refine lv_aload_n hx hb dX9_one_10 rfl (lv_at hl 0 rfl) ?_
    refine z_get (T := TX9) (N := 14) (ci := 9) (i := 12) (v := .int (I 12 7)) hx hb hts zj_X9_one_X9 hown hK hW rfl rfl 7 (by decide) (hts (.fieldLink RX9 62 "PetrolBoard$Reader" "token" "I") (me_s (me_l (me_l (List.mem_of_getElem? (i := 0) rfl))))) (fun _ h => h) rfl dX9_one_11 ?_
    refine lv_bipush (v := 123) hx hb dX9_one_14 (by decide) ?_
    refine lv_icmp_ne (tgt := 25) hx hb dX9_one_16 (by decide) (fun c28 => ?_) (fun c28 => ?_)
    · have g29 := z_f_ne rfl z_l123 c28
      refine lv_aload_n hx hb dX9_one_25 rfl (lv_at hl 0 rfl) ?_
      refine lv_iload_n hx hb dX9_one_26 rfl (lv_at hl 1 rfl) ?_
      refine z_ci hW hS hA (va_runV (As := [.int 3]) (rest := []) ⟨hx, hb, hml, hown, hts⟩ (sx_X9_sum_3x l G ad c I ⟨(by show 0 ≤ (I 12 1).toInt ∧ (I 12 1).toInt ≤ 500; exact hR.1), (by show 0 ≤ (I 12 5).toInt ∧ (I 12 5).toInt ≤ 501; exact hR.2.1), (by show (-1) ≤ (I 12 6).toInt ∧ (I 12 6).toInt ≤ 1000000; exact hR.2.2.1), (by show 0 ≤ (I 12 9).toInt ∧ (I 12 9).toInt ≤ 500; exact hR.2.2.2.1), (by show 0 ≤ (I 12 13).toInt ∧ (I 12 13).toInt ≤ 24; exact hR.2.2.2.2)⟩ (by show (I 12 6).toInt ≤ 501 ∧ ((I 12 7).toInt = 401 ∨ (I 12 6).toInt ≤ 500); first | omega | decide) k (zr_P_m hP hM0 (by omega)) _) (cwV 1 hts gX9_one_X9_sum rfl rfl rfl (by decide +kernel) ⟨Nat.le_of_ble_eq_true rfl, Nat.le_of_ble_eq_true rfl⟩) (z_preV (i := 12) hK hW rfl rfl) rfl rfl hl.1 rfl (lv_room (Nat.le_of_ble_eq_true rfl)) dX9_one_27 ⟨Nat.le_of_ble_eq_true rfl, Nat.le_of_ble_eq_true rfl⟩) (fun r u1 H locs hp hW hS => ?_)
      obtain ⟨I30, e9, hI30R, hI30T, fI30, hp⟩ := hp
      rw [e9] at hW
      have f31 := z_fr_sub (L := L_X9_one_3x) z_fr_0 fI30 (by decide)
      have k32 : (I30 12 6).toInt ≤ 501 ∧ ((I30 12 7).toInt = 401 ∨ (I30 12 6).toInt ≤ 500) := hI30T
      rcases hp with ⟨rfl, hq⟩ | ⟨rfl, hq⟩
      · obtain ⟨k33, cs34, hm35, h36, h37, h38⟩ := hq
        have ho39 := zr_okS hM0 h38
        have hM40 := (show zr_M I I30 k33 cs34 from zr_M_t hM0 hm35 hP.2.2.2.2.1)
        have h41 := hM40.1
        have h42 := hM40.2.1
        have h43 := hM40.2.2.1
        have h44 := hM40.2.2.2.1
        have l45 : (cs34).length = cs34.length := by first | rfl | (simp only [List.length_append, List.length_cons, List.length_nil] <;> omega)
        refine lv_if_ne (tgt := 35) hx hb dX9_one_30 (by decide) (fun c46 => ?_) (fun c46 => absurd c46 (by decide))
        refine lv_aload_n hx hb dX9_one_35 rfl (lv_at hl 0 rfl) ?_
        refine z_get (T := TX9) (N := 14) (ci := 9) (i := 12) (v := .int (I30 12 7)) hx hb hts zj_X9_one_X9 hown hK hW rfl rfl 7 (by decide) (hts (.fieldLink RX9 62 "PetrolBoard$Reader" "token" "I") (me_s (me_l (me_l (List.mem_of_getElem? (i := 0) rfl))))) (fun _ h => h) rfl dX9_one_36 ?_
        refine lv_istore_n (lv' := [(2, .int (I30 12 7)), (0, .ref (ad 12)), (1, .int 3)]) hx hb dX9_one_39 rfl hl (by decide) rfl (fun ls hl => ?_)
        refine lv_iload_n hx hb dX9_one_40 rfl (lv_at hl 0 rfl) ?_
        refine lv_bipush (v := 60) hx hb dX9_one_41 (by decide) ?_
        refine lv_icmp_eq (tgt := 60) hx hb dX9_one_43 (by decide) (fun c47 => ?_) (fun c47 => ?_)
        · have g48 := z_f_eq rfl z_l60 c47
          have b49 := Int32.toInt_lt (I30 12 7)
          refine lv_aload_n hx hb dX9_one_60 rfl (lv_at hl 1 rfl) ?_
          have q50 := zr_Q_n (zr_Q_m hP hM40) (by rw [zr_tkS hM40]; omega)
          refine z_cv hW hS hA (va_runV (As := []) (rest := []) ⟨hx, hb, hml, hown, hts⟩ (sx_X9_step_x l G ad c I30 ⟨(by show 0 ≤ (I30 12 1).toInt ∧ (I30 12 1).toInt ≤ 500; exact hI30R.1), (by show 0 ≤ (I30 12 5).toInt ∧ (I30 12 5).toInt ≤ 501; exact hI30R.2.1), (by show (-1) ≤ (I30 12 6).toInt ∧ (I30 12 6).toInt ≤ 1000000; exact hI30R.2.2.1), (by show 0 ≤ (I30 12 9).toInt ∧ (I30 12 9).toInt ≤ 500; exact hI30R.2.2.2.1), (by show 0 ≤ (I30 12 13).toInt ∧ (I30 12 13).toInt ≤ 24; exact hI30R.2.2.2.2)⟩ (k33 + 1) q50 _) (cwV 0 hts gX9_one_X9_step rfl rfl rfl (by decide +kernel) ⟨Nat.le_of_ble_eq_true rfl, Nat.le_of_ble_eq_true rfl⟩) (z_preV (i := 12) hK hW rfl rfl) rfl rfl hl.1 rfl (lv_room (Nat.le_of_ble_eq_true rfl)) dX9_one_61 ⟨Nat.le_of_ble_eq_true rfl, Nat.le_of_ble_eq_true rfl⟩) (fun u1 H locs hp hW hS => ?_)
          obtain ⟨I51, e9, hI51R, hI51T, fI51, hp⟩ := hp
          rw [e9] at hW
          have f52 := z_fr_sub (L := L_X9_one_3x) f31 fI51 (by decide)
          have k53 : (I51 12 6).toInt ≤ 501 ∧ ((I51 12 7).toInt = 401 ∨ (I51 12 6).toInt ≤ 500) := hI51T
          have hM54 := zr_M_s hM40 hp hP.2.2.2.2.1
          have h55 := hM54.1
          have h56 := hM54.2.1
          have h57 := hM54.2.2.1
          have h58 := hM54.2.2.2.1
          have l59 : (cs34).length = cs34.length := by first | rfl | (simp only [List.length_append, List.length_cons, List.length_nil] <;> omega)
          refine lv_aload_n hx hb dX9_one_64 rfl (lv_at hl 1 rfl) ?_
          refine lv_iload_n hx hb dX9_one_65 rfl (lv_at hl 2 rfl) ?_
          refine z_ci hW hS hA (va_runV (As := [.int 3]) (rest := []) ⟨hx, hb, hml, hown, hts⟩ (sx_X9_sum_3x l G ad c I51 ⟨(by show 0 ≤ (I51 12 1).toInt ∧ (I51 12 1).toInt ≤ 500; exact hI51R.1), (by show 0 ≤ (I51 12 5).toInt ∧ (I51 12 5).toInt ≤ 501; exact hI51R.2.1), (by show (-1) ≤ (I51 12 6).toInt ∧ (I51 12 6).toInt ≤ 1000000; exact hI51R.2.2.1), (by show 0 ≤ (I51 12 9).toInt ∧ (I51 12 9).toInt ≤ 500; exact hI51R.2.2.2.1), (by show 0 ≤ (I51 12 13).toInt ∧ (I51 12 13).toInt ≤ 24; exact hI51R.2.2.2.2)⟩ (by show (I51 12 6).toInt ≤ 501 ∧ ((I51 12 7).toInt = 401 ∨ (I51 12 6).toInt ≤ 500); first | omega | decide) (k33 + 1) (zr_P_m hP hM54 (by omega)) _) (cwV 1 hts gX9_one_X9_sum rfl rfl rfl (by decide +kernel) ⟨Nat.le_of_ble_eq_true rfl, Nat.le_of_ble_eq_true rfl⟩) (z_preV (i := 12) hK hW rfl rfl) rfl rfl hl.1 rfl (lv_room (Nat.le_of_ble_eq_true rfl)) dX9_one_66 ⟨Nat.le_of_ble_eq_true rfl, Nat.le_of_ble_eq_true rfl⟩) (fun r u1 H locs hp hW hS => ?_)
          obtain ⟨I60, e9, hI60R, hI60T, fI60, hp⟩ := hp
          rw [e9] at hW
          have f61 := z_fr_sub (L := L_X9_one_3x) f52 fI60 (by decide)
          have k62 : (I60 12 6).toInt ≤ 501 ∧ ((I60 12 7).toInt = 401 ∨ (I60 12 6).toInt ≤ 500) := hI60T
          rcases hp with ⟨rfl, hq⟩ | ⟨rfl, hq⟩
          · obtain ⟨k63, cs64, hm65, h66, h67, h68⟩ := hq
            have ho69 := zr_okS hM54 h68
            have hM70 := zr_M_t hM54 hm65 hP.2.2.2.2.1
            have h71 := hM70.1
            have h72 := hM70.2.1
            have h73 := hM70.2.2.1
            have h74 := hM70.2.2.2.1
            have l75 : ((cs34 ++ cs64)).length = cs34.length + cs64.length := by first | rfl | (simp only [List.length_append, List.length_cons, List.length_nil] <;> omega)
            refine lv_if_ne (tgt := 74) hx hb dX9_one_69 (by decide) (fun c76 => ?_) (fun c76 => absurd c76 (by decide))
            refine lv_aload_n hx hb dX9_one_74 rfl (lv_at hl 1 rfl) ?_
            refine lv_iload_n hx hb dX9_one_75 rfl (lv_at hl 0 rfl) ?_
            refine lv_bipush (v := 60) hx hb dX9_one_76 (by decide) ?_
            refine lv_icmp_ne (tgt := 86) hx hb dX9_one_78 (by decide) (fun c77 => (by have g := z_f_ne rfl z_l60 c77; omega)) (fun c77 => ?_)
            have g78 := z_f_eq rfl z_l60 c77
            refine lv_bipush (v := (-7)) hx hb dX9_one_81 (by decide) ?_
            refine lv_goto (tgt := 99) hx hb dX9_one_83 (by decide) ?_
            refine z_cv hW hS hA (va_runV (As := [.int (-7)]) (rest := []) ⟨hx, hb, hml, hown, hts⟩ (sx_X9_emit_x l G ad c I60 ⟨(by show 0 ≤ (I60 12 1).toInt ∧ (I60 12 1).toInt ≤ 500; exact hI60R.1), (by show 0 ≤ (I60 12 5).toInt ∧ (I60 12 5).toInt ≤ 501; exact hI60R.2.1), (by show (-1) ≤ (I60 12 6).toInt ∧ (I60 12 6).toInt ≤ 1000000; exact hI60R.2.2.1), (by show 0 ≤ (I60 12 9).toInt ∧ (I60 12 9).toInt ≤ 500; exact hI60R.2.2.2.1), (by show 0 ≤ (I60 12 13).toInt ∧ (I60 12 13).toInt ≤ 24; exact hI60R.2.2.2.2)⟩ (-7) (by omega) _) (cwV 1 hts gX9_one_X9_emit rfl rfl rfl (by decide +kernel) ⟨Nat.le_of_ble_eq_true rfl, Nat.le_of_ble_eq_true rfl⟩) (z_preV (i := 12) hK hW rfl rfl) rfl rfl hl.1 rfl (lv_room (Nat.le_of_ble_eq_true rfl)) dX9_one_99 ⟨Nat.le_of_ble_eq_true rfl, Nat.le_of_ble_eq_true rfl⟩) (fun u1 H locs hp hW hS => ?_)
            obtain ⟨I79, e9, hI79R, fI79, hp⟩ := hp
            rw [e9] at hW
            have f80 := z_fr_sub (L := L_X9_one_3x) f61 fI79 (by decide)
            have k81 : (I79 12 6).toInt ≤ 501 ∧ ((I79 12 7).toInt = 401 ∨ (I79 12 6).toInt ≤ 500) := (by have q0 : (I79 12 6) = (I60 12 6) := (by rw [fI79 12 6 (by decide)]); have q1 : (I79 12 7) = (I60 12 7) := (by rw [fI79 12 7 (by decide)]); show (I79 12 6).toInt ≤ 501 ∧ ((I79 12 7).toInt = 401 ∨ (I79 12 6).toInt ≤ 500); rw [q0, q1]; first | omega | decide)
            have hM82 := zr_M_e hM70 hp (show ((-7) : Int32).toInt = (-7) by decide) hP.2.2.2.2.1
            have h83 := hM82.1
            have h84 := hM82.2.1
            have h85 := hM82.2.2.1
            have h86 := hM82.2.2.2.1
            have l87 : (((cs34 ++ cs64) ++ [(-7)])).length = cs34.length + cs64.length + 1 := by first | rfl | (simp only [List.length_append, List.length_cons, List.length_nil] <;> omega)
            refine lv_iconst (v := 1) hx hb dX9_one_102 (by decide) ?_
            exact z_zret hx hb hr (by decide) hK hS (Nat.le_of_ble_eq_true rfl) (Nat.le_of_ble_eq_true rfl) hlocks dX9_one_103 (shC c, ad, I79, JX, PC c ad) hW ⟨I79, rfl, ⟨(by show 0 ≤ (I79 12 1).toInt ∧ (I79 12 1).toInt ≤ 500; exact hI79R.1), (by show 0 ≤ (I79 12 5).toInt ∧ (I79 12 5).toInt ≤ 501; exact hI79R.2.1), (by show (-1) ≤ (I79 12 6).toInt ∧ (I79 12 6).toInt ≤ 1000000; exact hI79R.2.2.1), (by show 0 ≤ (I79 12 9).toInt ∧ (I79 12 9).toInt ≤ 500; exact hI79R.2.2.2.1), (by show 0 ≤ (I79 12 13).toInt ∧ (I79 12 13).toInt ≤ 24; exact hI79R.2.2.2.2)⟩, (by show (I79 12 6).toInt ≤ 501 ∧ ((I79 12 7).toInt = 401 ∨ (I79 12 6).toInt ≤ 500); first | omega | decide), f80, (Or.inl ⟨rfl, zr_ok_of hM82 (by rw [zr_ce0 (show zr_tk I k33 = 60 by omega), List.append_assoc]) (by omega) (by omega) (zp_T9 (by omega) (by omega) ho39 (zr_cmp (by omega)) ho69)⟩)⟩
          · obtain ⟨f88, hf89, h90⟩ := hq
            have hb91 := zr_noS hM54 h90
            have hF92 := zr_F_m hM54 hf89
            refine lv_if_ne (tgt := 74) hx hb dX9_one_69 (by decide) (fun c93 => absurd (by decide) c93) (fun c93 => ?_)
            refine lv_iconst (v := 0) hx hb dX9_one_72 (by decide) ?_
            exact z_zret hx hb hr (by decide) hK hS (Nat.le_of_ble_eq_true rfl) (Nat.le_of_ble_eq_true rfl) hlocks dX9_one_73 (shC c, ad, I60, JX, PC c ad) hW ⟨I60, rfl, ⟨(by show 0 ≤ (I60 12 1).toInt ∧ (I60 12 1).toInt ≤ 500; exact hI60R.1), (by show 0 ≤ (I60 12 5).toInt ∧ (I60 12 5).toInt ≤ 501; exact hI60R.2.1), (by show (-1) ≤ (I60 12 6).toInt ∧ (I60 12 6).toInt ≤ 1000000; exact hI60R.2.2.1), (by show 0 ≤ (I60 12 9).toInt ∧ (I60 12 9).toInt ≤ 500; exact hI60R.2.2.2.1), (by show 0 ≤ (I60 12 13).toInt ∧ (I60 12 13).toInt ≤ 24; exact hI60R.2.2.2.2)⟩, (by show (I60 12 6).toInt ≤ 501 ∧ ((I60 12 7).toInt = 401 ∨ (I60 12 6).toInt ≤ 500); first | omega | decide), f61, (Or.inr ⟨rfl, f88, hF92, (zp_T8 (by omega) (by omega) ho39 (zr_cmp (by omega)) hb91)⟩)⟩
        · have g94 := z_f_ne rfl z_l60 c47
          have b95 := Int32.toInt_lt (I30 12 7)
          refine lv_iload_n hx hb dX9_one_46 rfl (lv_at hl 0 rfl) ?_
          refine lv_bipush (v := 62) hx hb dX9_one_47 (by decide) ?_
          refine lv_icmp_eq (tgt := 60) hx hb dX9_one_49 (by decide) (fun c96 => ?_) (fun c96 => ?_)
          · have g97 := z_f_eq rfl z_l62 c96
            refine lv_aload_n hx hb dX9_one_60 rfl (lv_at hl 1 rfl) ?_
            have q98 := zr_Q_n (zr_Q_m hP hM40) (by rw [zr_tkS hM40]; omega)
            refine z_cv hW hS hA (va_runV (As := []) (rest := []) ⟨hx, hb, hml, hown, hts⟩ (sx_X9_step_x l G ad c I30 ⟨(by show 0 ≤ (I30 12 1).toInt ∧ (I30 12 1).toInt ≤ 500; exact hI30R.1), (by show 0 ≤ (I30 12 5).toInt ∧ (I30 12 5).toInt ≤ 501; exact hI30R.2.1), (by show (-1) ≤ (I30 12 6).toInt ∧ (I30 12 6).toInt ≤ 1000000; exact hI30R.2.2.1), (by show 0 ≤ (I30 12 9).toInt ∧ (I30 12 9).toInt ≤ 500; exact hI30R.2.2.2.1), (by show 0 ≤ (I30 12 13).toInt ∧ (I30 12 13).toInt ≤ 24; exact hI30R.2.2.2.2)⟩ (k33 + 1) q98 _) (cwV 0 hts gX9_one_X9_step rfl rfl rfl (by decide +kernel) ⟨Nat.le_of_ble_eq_true rfl, Nat.le_of_ble_eq_true rfl⟩) (z_preV (i := 12) hK hW rfl rfl) rfl rfl hl.1 rfl (lv_room (Nat.le_of_ble_eq_true rfl)) dX9_one_61 ⟨Nat.le_of_ble_eq_true rfl, Nat.le_of_ble_eq_true rfl⟩) (fun u1 H locs hp hW hS => ?_)
            obtain ⟨I99, e9, hI99R, hI99T, fI99, hp⟩ := hp
            rw [e9] at hW
            have f100 := z_fr_sub (L := L_X9_one_3x) f31 fI99 (by decide)
            have k101 : (I99 12 6).toInt ≤ 501 ∧ ((I99 12 7).toInt = 401 ∨ (I99 12 6).toInt ≤ 500) := hI99T
            have hM102 := zr_M_s hM40 hp hP.2.2.2.2.1
            have h103 := hM102.1
            have h104 := hM102.2.1
            have h105 := hM102.2.2.1
            have h106 := hM102.2.2.2.1
            have l107 : (cs34).length = cs34.length := by first | rfl | (simp only [List.length_append, List.length_cons, List.length_nil] <;> omega)
            refine lv_aload_n hx hb dX9_one_64 rfl (lv_at hl 1 rfl) ?_
            refine lv_iload_n hx hb dX9_one_65 rfl (lv_at hl 2 rfl) ?_
            refine z_ci hW hS hA (va_runV (As := [.int 3]) (rest := []) ⟨hx, hb, hml, hown, hts⟩ (sx_X9_sum_3x l G ad c I99 ⟨(by show 0 ≤ (I99 12 1).toInt ∧ (I99 12 1).toInt ≤ 500; exact hI99R.1), (by show 0 ≤ (I99 12 5).toInt ∧ (I99 12 5).toInt ≤ 501; exact hI99R.2.1), (by show (-1) ≤ (I99 12 6).toInt ∧ (I99 12 6).toInt ≤ 1000000; exact hI99R.2.2.1), (by show 0 ≤ (I99 12 9).toInt ∧ (I99 12 9).toInt ≤ 500; exact hI99R.2.2.2.1), (by show 0 ≤ (I99 12 13).toInt ∧ (I99 12 13).toInt ≤ 24; exact hI99R.2.2.2.2)⟩ (by show (I99 12 6).toInt ≤ 501 ∧ ((I99 12 7).toInt = 401 ∨ (I99 12 6).toInt ≤ 500); first | omega | decide) (k33 + 1) (zr_P_m hP hM102 (by omega)) _) (cwV 1 hts gX9_one_X9_sum rfl rfl rfl (by decide +kernel) ⟨Nat.le_of_ble_eq_true rfl, Nat.le_of_ble_eq_true rfl⟩) (z_preV (i := 12) hK hW rfl rfl) rfl rfl hl.1 rfl (lv_room (Nat.le_of_ble_eq_true rfl)) dX9_one_66 ⟨Nat.le_of_ble_eq_true rfl, Nat.le_of_ble_eq_true rfl⟩) (fun r u1 H locs hp hW hS => ?_)
            obtain ⟨I108, e9, hI108R, hI108T, fI108, hp⟩ := hp
            rw [e9] at hW
            have f109 := z_fr_sub (L := L_X9_one_3x) f100 fI108 (by decide)
            have k110 : (I108 12 6).toInt ≤ 501 ∧ ((I108 12 7).toInt = 401 ∨ (I108 12 6).toInt ≤ 500) := hI108T
            rcases hp with ⟨rfl, hq⟩ | ⟨rfl, hq⟩
            · obtain ⟨k111, cs112, hm113, h114, h115, h116⟩ := hq
              have ho117 := zr_okS hM102 h116
              have hM118 := zr_M_t hM102 hm113 hP.2.2.2.2.1
              have h119 := hM118.1
              have h120 := hM118.2.1
              have h121 := hM118.2.2.1
              have h122 := hM118.2.2.2.1
              have l123 : ((cs34 ++ cs112)).length = cs34.length + cs112.length := by first | rfl | (simp only [List.length_append, List.length_cons, List.length_nil] <;> omega)
              refine lv_if_ne (tgt := 74) hx hb dX9_one_69 (by decide) (fun c124 => ?_) (fun c124 => absurd c124 (by decide))
              refine lv_aload_n hx hb dX9_one_74 rfl (lv_at hl 1 rfl) ?_
              refine lv_iload_n hx hb dX9_one_75 rfl (lv_at hl 0 rfl) ?_
              refine lv_bipush (v := 60) hx hb dX9_one_76 (by decide) ?_
              refine lv_icmp_ne (tgt := 86) hx hb dX9_one_78 (by decide) (fun c125 => ?_) (fun c125 => (by have g := z_f_eq rfl z_l60 c125; omega))
              have g126 := z_f_ne rfl z_l60 c125
              refine lv_iload_n hx hb dX9_one_86 rfl (lv_at hl 0 rfl) ?_
              refine lv_bipush (v := 62) hx hb dX9_one_87 (by decide) ?_
              refine lv_icmp_ne (tgt := 97) hx hb dX9_one_89 (by decide) (fun c127 => (by have g := z_f_ne rfl z_l62 c127; omega)) (fun c127 => ?_)
              have g128 := z_f_eq rfl z_l62 c127
              refine lv_bipush (v := (-8)) hx hb dX9_one_92 (by decide) ?_
              refine lv_goto (tgt := 99) hx hb dX9_one_94 (by decide) ?_
              refine z_cv hW hS hA (va_runV (As := [.int (-8)]) (rest := []) ⟨hx, hb, hml, hown, hts⟩ (sx_X9_emit_x l G ad c I108 ⟨(by show 0 ≤ (I108 12 1).toInt ∧ (I108 12 1).toInt ≤ 500; exact hI108R.1), (by show 0 ≤ (I108 12 5).toInt ∧ (I108 12 5).toInt ≤ 501; exact hI108R.2.1), (by show (-1) ≤ (I108 12 6).toInt ∧ (I108 12 6).toInt ≤ 1000000; exact hI108R.2.2.1), (by show 0 ≤ (I108 12 9).toInt ∧ (I108 12 9).toInt ≤ 500; exact hI108R.2.2.2.1), (by show 0 ≤ (I108 12 13).toInt ∧ (I108 12 13).toInt ≤ 24; exact hI108R.2.2.2.2)⟩ (-8) (by omega) _) (cwV 1 hts gX9_one_X9_emit rfl rfl rfl (by decide +kernel) ⟨Nat.le_of_ble_eq_true rfl, Nat.le_of_ble_eq_true rfl⟩) (z_preV (i := 12) hK hW rfl rfl) rfl rfl hl.1 rfl (lv_room (Nat.le_of_ble_eq_true rfl)) dX9_one_99 ⟨Nat.le_of_ble_eq_true rfl, Nat.le_of_ble_eq_true rfl⟩) (fun u1 H locs hp hW hS => ?_)
              obtain ⟨I129, e9, hI129R, fI129, hp⟩ := hp
              rw [e9] at hW
              have f130 := z_fr_sub (L := L_X9_one_3x) f109 fI129 (by decide)
              have k131 : (I129 12 6).toInt ≤ 501 ∧ ((I129 12 7).toInt = 401 ∨ (I129 12 6).toInt ≤ 500) := (by have q0 : (I129 12 6) = (I108 12 6) := (by rw [fI129 12 6 (by decide)]); have q1 : (I129 12 7) = (I108 12 7) := (by rw [fI129 12 7 (by decide)]); show (I129 12 6).toInt ≤ 501 ∧ ((I129 12 7).toInt = 401 ∨ (I129 12 6).toInt ≤ 500); rw [q0, q1]; first | omega | decide)
              have hM132 := zr_M_e hM118 hp (show ((-8) : Int32).toInt = (-8) by decide) hP.2.2.2.2.1
              have h133 := hM132.1
              have h134 := hM132.2.1
              have h135 := hM132.2.2.1
              have h136 := hM132.2.2.2.1
              have l137 : (((cs34 ++ cs112) ++ [(-8)])).length = cs34.length + cs112.length + 1 := by first | rfl | (simp only [List.length_append, List.length_cons, List.length_nil] <;> omega)
              refine lv_iconst (v := 1) hx hb dX9_one_102 (by decide) ?_
              exact z_zret hx hb hr (by decide) hK hS (Nat.le_of_ble_eq_true rfl) (Nat.le_of_ble_eq_true rfl) hlocks dX9_one_103 (shC c, ad, I129, JX, PC c ad) hW ⟨I129, rfl, ⟨(by show 0 ≤ (I129 12 1).toInt ∧ (I129 12 1).toInt ≤ 500; exact hI129R.1), (by show 0 ≤ (I129 12 5).toInt ∧ (I129 12 5).toInt ≤ 501; exact hI129R.2.1), (by show (-1) ≤ (I129 12 6).toInt ∧ (I129 12 6).toInt ≤ 1000000; exact hI129R.2.2.1), (by show 0 ≤ (I129 12 9).toInt ∧ (I129 12 9).toInt ≤ 500; exact hI129R.2.2.2.1), (by show 0 ≤ (I129 12 13).toInt ∧ (I129 12 13).toInt ≤ 24; exact hI129R.2.2.2.2)⟩, (by show (I129 12 6).toInt ≤ 501 ∧ ((I129 12 7).toInt = 401 ∨ (I129 12 6).toInt ≤ 500); first | omega | decide), f130, (Or.inl ⟨rfl, zr_ok_of hM132 (by rw [zr_ce1 (show zr_tk I k33 = 62 by omega), List.append_assoc]) (by omega) (by omega) (zp_T9 (by omega) (by omega) ho39 (zr_cmp (by omega)) ho117)⟩)⟩
            · obtain ⟨f138, hf139, h140⟩ := hq
              have hb141 := zr_noS hM102 h140
              have hF142 := zr_F_m hM102 hf139
              refine lv_if_ne (tgt := 74) hx hb dX9_one_69 (by decide) (fun c143 => absurd (by decide) c143) (fun c143 => ?_)
              refine lv_iconst (v := 0) hx hb dX9_one_72 (by decide) ?_
              exact z_zret hx hb hr (by decide) hK hS (Nat.le_of_ble_eq_true rfl) (Nat.le_of_ble_eq_true rfl) hlocks dX9_one_73 (shC c, ad, I108, JX, PC c ad) hW ⟨I108, rfl, ⟨(by show 0 ≤ (I108 12 1).toInt ∧ (I108 12 1).toInt ≤ 500; exact hI108R.1), (by show 0 ≤ (I108 12 5).toInt ∧ (I108 12 5).toInt ≤ 501; exact hI108R.2.1), (by show (-1) ≤ (I108 12 6).toInt ∧ (I108 12 6).toInt ≤ 1000000; exact hI108R.2.2.1), (by show 0 ≤ (I108 12 9).toInt ∧ (I108 12 9).toInt ≤ 500; exact hI108R.2.2.2.1), (by show 0 ≤ (I108 12 13).toInt ∧ (I108 12 13).toInt ≤ 24; exact hI108R.2.2.2.2)⟩, (by show (I108 12 6).toInt ≤ 501 ∧ ((I108 12 7).toInt = 401 ∨ (I108 12 6).toInt ≤ 500); first | omega | decide), f109, (Or.inr ⟨rfl, f138, hF142, (zp_T8 (by omega) (by omega) ho39 (zr_cmp (by omega)) hb141)⟩)⟩
          · have g144 := z_f_ne rfl z_l62 c96
            refine lv_iload_n hx hb dX9_one_52 rfl (lv_at hl 0 rfl) ?_
            refine lv_bipush (v := 61) hx hb dX9_one_53 (by decide) ?_
            refine lv_icmp_eq (tgt := 60) hx hb dX9_one_55 (by decide) (fun c145 => ?_) (fun c145 => ?_)
            · have g146 := z_f_eq rfl z_l61 c145
              refine lv_aload_n hx hb dX9_one_60 rfl (lv_at hl 1 rfl) ?_
              have q147 := zr_Q_n (zr_Q_m hP hM40) (by rw [zr_tkS hM40]; omega)
              refine z_cv hW hS hA (va_runV (As := []) (rest := []) ⟨hx, hb, hml, hown, hts⟩ (sx_X9_step_x l G ad c I30 ⟨(by show 0 ≤ (I30 12 1).toInt ∧ (I30 12 1).toInt ≤ 500; exact hI30R.1), (by show 0 ≤ (I30 12 5).toInt ∧ (I30 12 5).toInt ≤ 501; exact hI30R.2.1), (by show (-1) ≤ (I30 12 6).toInt ∧ (I30 12 6).toInt ≤ 1000000; exact hI30R.2.2.1), (by show 0 ≤ (I30 12 9).toInt ∧ (I30 12 9).toInt ≤ 500; exact hI30R.2.2.2.1), (by show 0 ≤ (I30 12 13).toInt ∧ (I30 12 13).toInt ≤ 24; exact hI30R.2.2.2.2)⟩ (k33 + 1) q147 _) (cwV 0 hts gX9_one_X9_step rfl rfl rfl (by decide +kernel) ⟨Nat.le_of_ble_eq_true rfl, Nat.le_of_ble_eq_true rfl⟩) (z_preV (i := 12) hK hW rfl rfl) rfl rfl hl.1 rfl (lv_room (Nat.le_of_ble_eq_true rfl)) dX9_one_61 ⟨Nat.le_of_ble_eq_true rfl, Nat.le_of_ble_eq_true rfl⟩) (fun u1 H locs hp hW hS => ?_)
              obtain ⟨I148, e9, hI148R, hI148T, fI148, hp⟩ := hp
              rw [e9] at hW
              have f149 := z_fr_sub (L := L_X9_one_3x) f31 fI148 (by decide)
              have k150 : (I148 12 6).toInt ≤ 501 ∧ ((I148 12 7).toInt = 401 ∨ (I148 12 6).toInt ≤ 500) := hI148T
              have hM151 := zr_M_s hM40 hp hP.2.2.2.2.1
              have h152 := hM151.1
              have h153 := hM151.2.1
              have h154 := hM151.2.2.1
              have h155 := hM151.2.2.2.1
              have l156 : (cs34).length = cs34.length := by first | rfl | (simp only [List.length_append, List.length_cons, List.length_nil] <;> omega)
              refine lv_aload_n hx hb dX9_one_64 rfl (lv_at hl 1 rfl) ?_
              refine lv_iload_n hx hb dX9_one_65 rfl (lv_at hl 2 rfl) ?_
              refine z_ci hW hS hA (va_runV (As := [.int 3]) (rest := []) ⟨hx, hb, hml, hown, hts⟩ (sx_X9_sum_3x l G ad c I148 ⟨(by show 0 ≤ (I148 12 1).toInt ∧ (I148 12 1).toInt ≤ 500; exact hI148R.1), (by show 0 ≤ (I148 12 5).toInt ∧ (I148 12 5).toInt ≤ 501; exact hI148R.2.1), (by show (-1) ≤ (I148 12 6).toInt ∧ (I148 12 6).toInt ≤ 1000000; exact hI148R.2.2.1), (by show 0 ≤ (I148 12 9).toInt ∧ (I148 12 9).toInt ≤ 500; exact hI148R.2.2.2.1), (by show 0 ≤ (I148 12 13).toInt ∧ (I148 12 13).toInt ≤ 24; exact hI148R.2.2.2.2)⟩ (by show (I148 12 6).toInt ≤ 501 ∧ ((I148 12 7).toInt = 401 ∨ (I148 12 6).toInt ≤ 500); first | omega | decide) (k33 + 1) (zr_P_m hP hM151 (by omega)) _) (cwV 1 hts gX9_one_X9_sum rfl rfl rfl (by decide +kernel) ⟨Nat.le_of_ble_eq_true rfl, Nat.le_of_ble_eq_true rfl⟩) (z_preV (i := 12) hK hW rfl rfl) rfl rfl hl.1 rfl (lv_room (Nat.le_of_ble_eq_true rfl)) dX9_one_66 ⟨Nat.le_of_ble_eq_true rfl, Nat.le_of_ble_eq_true rfl⟩) (fun r u1 H locs hp hW hS => ?_)
              obtain ⟨I157, e9, hI157R, hI157T, fI157, hp⟩ := hp
              rw [e9] at hW
              have f158 := z_fr_sub (L := L_X9_one_3x) f149 fI157 (by decide)
              have k159 : (I157 12 6).toInt ≤ 501 ∧ ((I157 12 7).toInt = 401 ∨ (I157 12 6).toInt ≤ 500) := hI157T
              rcases hp with ⟨rfl, hq⟩ | ⟨rfl, hq⟩
              · obtain ⟨k160, cs161, hm162, h163, h164, h165⟩ := hq
                have ho166 := zr_okS hM151 h165
                have hM167 := zr_M_t hM151 hm162 hP.2.2.2.2.1
                have h168 := hM167.1
                have h169 := hM167.2.1
                have h170 := hM167.2.2.1
                have h171 := hM167.2.2.2.1
                have l172 : ((cs34 ++ cs161)).length = cs34.length + cs161.length := by first | rfl | (simp only [List.length_append, List.length_cons, List.length_nil] <;> omega)
                refine lv_if_ne (tgt := 74) hx hb dX9_one_69 (by decide) (fun c173 => ?_) (fun c173 => absurd c173 (by decide))
                refine lv_aload_n hx hb dX9_one_74 rfl (lv_at hl 1 rfl) ?_
                refine lv_iload_n hx hb dX9_one_75 rfl (lv_at hl 0 rfl) ?_
                refine lv_bipush (v := 60) hx hb dX9_one_76 (by decide) ?_
                refine lv_icmp_ne (tgt := 86) hx hb dX9_one_78 (by decide) (fun c174 => ?_) (fun c174 => (by have g := z_f_eq rfl z_l60 c174; omega))
                have g175 := z_f_ne rfl z_l60 c174
                refine lv_iload_n hx hb dX9_one_86 rfl (lv_at hl 0 rfl) ?_
                refine lv_bipush (v := 62) hx hb dX9_one_87 (by decide) ?_
                refine lv_icmp_ne (tgt := 97) hx hb dX9_one_89 (by decide) (fun c176 => ?_) (fun c176 => (by have g := z_f_eq rfl z_l62 c176; omega))
                have g177 := z_f_ne rfl z_l62 c176
                refine lv_bipush (v := (-9)) hx hb dX9_one_97 (by decide) ?_
                refine z_cv hW hS hA (va_runV (As := [.int (-9)]) (rest := []) ⟨hx, hb, hml, hown, hts⟩ (sx_X9_emit_x l G ad c I157 ⟨(by show 0 ≤ (I157 12 1).toInt ∧ (I157 12 1).toInt ≤ 500; exact hI157R.1), (by show 0 ≤ (I157 12 5).toInt ∧ (I157 12 5).toInt ≤ 501; exact hI157R.2.1), (by show (-1) ≤ (I157 12 6).toInt ∧ (I157 12 6).toInt ≤ 1000000; exact hI157R.2.2.1), (by show 0 ≤ (I157 12 9).toInt ∧ (I157 12 9).toInt ≤ 500; exact hI157R.2.2.2.1), (by show 0 ≤ (I157 12 13).toInt ∧ (I157 12 13).toInt ≤ 24; exact hI157R.2.2.2.2)⟩ (-9) (by omega) _) (cwV 1 hts gX9_one_X9_emit rfl rfl rfl (by decide +kernel) ⟨Nat.le_of_ble_eq_true rfl, Nat.le_of_ble_eq_true rfl⟩) (z_preV (i := 12) hK hW rfl rfl) rfl rfl hl.1 rfl (lv_room (Nat.le_of_ble_eq_true rfl)) dX9_one_99 ⟨Nat.le_of_ble_eq_true rfl, Nat.le_of_ble_eq_true rfl⟩) (fun u1 H locs hp hW hS => ?_)
                obtain ⟨I178, e9, hI178R, fI178, hp⟩ := hp
                rw [e9] at hW
                have f179 := z_fr_sub (L := L_X9_one_3x) f158 fI178 (by decide)
                have k180 : (I178 12 6).toInt ≤ 501 ∧ ((I178 12 7).toInt = 401 ∨ (I178 12 6).toInt ≤ 500) := (by have q0 : (I178 12 6) = (I157 12 6) := (by rw [fI178 12 6 (by decide)]); have q1 : (I178 12 7) = (I157 12 7) := (by rw [fI178 12 7 (by decide)]); show (I178 12 6).toInt ≤ 501 ∧ ((I178 12 7).toInt = 401 ∨ (I178 12 6).toInt ≤ 500); rw [q0, q1]; first | omega | decide)
                have hM181 := zr_M_e hM167 hp (show ((-9) : Int32).toInt = (-9) by decide) hP.2.2.2.2.1
                have h182 := hM181.1
                have h183 := hM181.2.1
                have h184 := hM181.2.2.1
                have h185 := hM181.2.2.2.1
                have l186 : (((cs34 ++ cs161) ++ [(-9)])).length = cs34.length + cs161.length + 1 := by first | rfl | (simp only [List.length_append, List.length_cons, List.length_nil] <;> omega)
                refine lv_iconst (v := 1) hx hb dX9_one_102 (by decide) ?_
                exact z_zret hx hb hr (by decide) hK hS (Nat.le_of_ble_eq_true rfl) (Nat.le_of_ble_eq_true rfl) hlocks dX9_one_103 (shC c, ad, I178, JX, PC c ad) hW ⟨I178, rfl, ⟨(by show 0 ≤ (I178 12 1).toInt ∧ (I178 12 1).toInt ≤ 500; exact hI178R.1), (by show 0 ≤ (I178 12 5).toInt ∧ (I178 12 5).toInt ≤ 501; exact hI178R.2.1), (by show (-1) ≤ (I178 12 6).toInt ∧ (I178 12 6).toInt ≤ 1000000; exact hI178R.2.2.1), (by show 0 ≤ (I178 12 9).toInt ∧ (I178 12 9).toInt ≤ 500; exact hI178R.2.2.2.1), (by show 0 ≤ (I178 12 13).toInt ∧ (I178 12 13).toInt ≤ 24; exact hI178R.2.2.2.2)⟩, (by show (I178 12 6).toInt ≤ 501 ∧ ((I178 12 7).toInt = 401 ∨ (I178 12 6).toInt ≤ 500); first | omega | decide), f179, (Or.inl ⟨rfl, zr_ok_of hM181 (by rw [zr_ce2 (show zr_tk I k33 = 61 by omega), List.append_assoc]) (by omega) (by omega) (zp_T9 (by omega) (by omega) ho39 (zr_cmp (by omega)) ho166)⟩)⟩
              · obtain ⟨f187, hf188, h189⟩ := hq
                have hb190 := zr_noS hM151 h189
                have hF191 := zr_F_m hM151 hf188
                refine lv_if_ne (tgt := 74) hx hb dX9_one_69 (by decide) (fun c192 => absurd (by decide) c192) (fun c192 => ?_)
                refine lv_iconst (v := 0) hx hb dX9_one_72 (by decide) ?_
                exact z_zret hx hb hr (by decide) hK hS (Nat.le_of_ble_eq_true rfl) (Nat.le_of_ble_eq_true rfl) hlocks dX9_one_73 (shC c, ad, I157, JX, PC c ad) hW ⟨I157, rfl, ⟨(by show 0 ≤ (I157 12 1).toInt ∧ (I157 12 1).toInt ≤ 500; exact hI157R.1), (by show 0 ≤ (I157 12 5).toInt ∧ (I157 12 5).toInt ≤ 501; exact hI157R.2.1), (by show (-1) ≤ (I157 12 6).toInt ∧ (I157 12 6).toInt ≤ 1000000; exact hI157R.2.2.1), (by show 0 ≤ (I157 12 9).toInt ∧ (I157 12 9).toInt ≤ 500; exact hI157R.2.2.2.1), (by show 0 ≤ (I157 12 13).toInt ∧ (I157 12 13).toInt ≤ 24; exact hI157R.2.2.2.2)⟩, (by show (I157 12 6).toInt ≤ 501 ∧ ((I157 12 7).toInt = 401 ∨ (I157 12 6).toInt ≤ 500); first | omega | decide), f158, (Or.inr ⟨rfl, f187, hF191, (zp_T8 (by omega) (by omega) ho39 (zr_cmp (by omega)) hb190)⟩)⟩
            · have g193 := z_f_ne rfl z_l61 c145
              refine lv_iconst (v := 0) hx hb dX9_one_58 (by decide) ?_
              exact z_zret hx hb hr (by decide) hK hS (Nat.le_of_ble_eq_true rfl) (Nat.le_of_ble_eq_true rfl) hlocks dX9_one_59 (shC c, ad, I30, JX, PC c ad) hW ⟨I30, rfl, ⟨(by show 0 ≤ (I30 12 1).toInt ∧ (I30 12 1).toInt ≤ 500; exact hI30R.1), (by show 0 ≤ (I30 12 5).toInt ∧ (I30 12 5).toInt ≤ 501; exact hI30R.2.1), (by show (-1) ≤ (I30 12 6).toInt ∧ (I30 12 6).toInt ≤ 1000000; exact hI30R.2.2.1), (by show 0 ≤ (I30 12 9).toInt ∧ (I30 12 9).toInt ≤ 500; exact hI30R.2.2.2.1), (by show 0 ≤ (I30 12 13).toInt ∧ (I30 12 13).toInt ≤ 24; exact hI30R.2.2.2.2)⟩, (by show (I30 12 6).toInt ≤ 501 ∧ ((I30 12 7).toInt = 401 ∨ (I30 12 6).toInt ≤ 500); first | omega | decide), f31, (Or.inr ⟨rfl, k33, (zr_F_0 hM40), (zp_T7 (by omega) (by omega) ho39 (zr_cmn (by omega) (by omega) (by omega)))⟩)⟩
      · obtain ⟨f194, hf195, h196⟩ := hq
        have hb197 := zr_noS hM0 h196
        have hF198 := zr_F_m hM0 hf195
        refine lv_if_ne (tgt := 35) hx hb dX9_one_30 (by decide) (fun c199 => absurd (by decide) c199) (fun c199 => ?_)
        refine lv_iconst (v := 0) hx hb dX9_one_33 (by decide) ?_
        exact z_zret hx hb hr (by decide) hK hS (Nat.le_of_ble_eq_true rfl) (Nat.le_of_ble_eq_true rfl) hlocks dX9_one_34 (shC c, ad, I30, JX, PC c ad) hW ⟨I30, rfl, ⟨(by show 0 ≤ (I30 12 1).toInt ∧ (I30 12 1).toInt ≤ 500; exact hI30R.1), (by show 0 ≤ (I30 12 5).toInt ∧ (I30 12 5).toInt ≤ 501; exact hI30R.2.1), (by show (-1) ≤ (I30 12 6).toInt ∧ (I30 12 6).toInt ≤ 1000000; exact hI30R.2.2.1), (by show 0 ≤ (I30 12 9).toInt ∧ (I30 12 9).toInt ≤ 500; exact hI30R.2.2.2.1), (by show 0 ≤ (I30 12 13).toInt ∧ (I30 12 13).toInt ≤ 24; exact hI30R.2.2.2.2)⟩, (by show (I30 12 6).toInt ≤ 501 ∧ ((I30 12 7).toInt = 401 ∨ (I30 12 6).toInt ≤ 500); first | omega | decide), f31, (Or.inr ⟨rfl, f194, hF198, (zp_T6 (by omega) (by omega) hb197)⟩)⟩
    · have g200 := z_f_eq rfl z_l123 c28
      refine lv_aload_n hx hb dX9_one_19 rfl (lv_at hl 0 rfl) ?_
      refine lv_iload_n hx hb dX9_one_20 rfl (lv_at hl 1 rfl) ?_
      refine z_ci hW hS hA (va_runV (As := [.int 3]) (rest := []) ⟨hx, hb, hml, hown, hts⟩ (sx_X9_opened_3x l G ad c I ⟨(by show 0 ≤ (I 12 1).toInt ∧ (I 12 1).toInt ≤ 500; exact hR.1), (by show 0 ≤ (I 12 5).toInt ∧ (I 12 5).toInt ≤ 501; exact hR.2.1), (by show (-1) ≤ (I 12 6).toInt ∧ (I 12 6).toInt ≤ 1000000; exact hR.2.2.1), (by show 0 ≤ (I 12 9).toInt ∧ (I 12 9).toInt ≤ 500; exact hR.2.2.2.1), (by show 0 ≤ (I 12 13).toInt ∧ (I 12 13).toInt ≤ 24; exact hR.2.2.2.2)⟩ (by show (I 12 6).toInt ≤ 501 ∧ ((I 12 7).toInt = 401 ∨ (I 12 6).toInt ≤ 500); first | omega | decide) k (zr_P_m hP hM0 (by omega)) (by rw [zr_tkS hM0]; omega) _) (cwV 1 hts gX9_one_X9_opened rfl rfl rfl (by decide +kernel) ⟨Nat.le_of_ble_eq_true rfl, Nat.le_of_ble_eq_true rfl⟩) (z_preV (i := 12) hK hW rfl rfl) rfl rfl hl.1 rfl (lv_room (Nat.le_of_ble_eq_true rfl)) dX9_one_21 ⟨Nat.le_of_ble_eq_true rfl, Nat.le_of_ble_eq_true rfl⟩) (fun r u1 H locs hp hW hS => ?_)
      obtain ⟨I201, e9, hI201R, hI201T, fI201, hp⟩ := hp
      rw [e9] at hW
      have f202 := z_fr_sub (L := L_X9_one_3x) z_fr_0 fI201 (by decide)
      have k203 : (I201 12 6).toInt ≤ 501 ∧ ((I201 12 7).toInt = 401 ∨ (I201 12 6).toInt ≤ 500) := hI201T
      rcases hp with ⟨rfl, hq⟩ | ⟨rfl, hq⟩
      · obtain ⟨k204, cs205, hm206, h207, h208, h209⟩ := hq
        have ho210 := zr_okS hM0 h209
        have hM211 := (show zr_M I I201 k204 cs205 from zr_M_t hM0 hm206 hP.2.2.2.2.1)
        have h212 := hM211.1
        have h213 := hM211.2.1
        have h214 := hM211.2.2.1
        have h215 := hM211.2.2.2.1
        have l216 : (cs205).length = cs205.length := by first | rfl | (simp only [List.length_append, List.length_cons, List.length_nil] <;> omega)
        exact z_zret hx hb hr (by decide) hK hS (Nat.le_of_ble_eq_true rfl) (Nat.le_of_ble_eq_true rfl) hlocks dX9_one_24 (shC c, ad, I201, JX, PC c ad) hW ⟨I201, rfl, ⟨(by show 0 ≤ (I201 12 1).toInt ∧ (I201 12 1).toInt ≤ 500; exact hI201R.1), (by show 0 ≤ (I201 12 5).toInt ∧ (I201 12 5).toInt ≤ 501; exact hI201R.2.1), (by show (-1) ≤ (I201 12 6).toInt ∧ (I201 12 6).toInt ≤ 1000000; exact hI201R.2.2.1), (by show 0 ≤ (I201 12 9).toInt ∧ (I201 12 9).toInt ≤ 500; exact hI201R.2.2.2.1), (by show 0 ≤ (I201 12 13).toInt ∧ (I201 12 13).toInt ≤ 24; exact hI201R.2.2.2.2)⟩, (by show (I201 12 6).toInt ≤ 501 ∧ ((I201 12 7).toInt = 401 ∨ (I201 12 6).toInt ≤ 500); first | omega | decide), f202, (Or.inl ⟨rfl, zr_ok_of hM211 rfl (by omega) (by omega) ho210⟩)⟩
      · obtain ⟨f217, hf218, h219⟩ := hq
        have hb220 := zr_noS hM0 h219
        have hF221 := zr_F_m hM0 hf218
        exact z_zret hx hb hr (by decide) hK hS (Nat.le_of_ble_eq_true rfl) (Nat.le_of_ble_eq_true rfl) hlocks dX9_one_24 (shC c, ad, I201, JX, PC c ad) hW ⟨I201, rfl, ⟨(by show 0 ≤ (I201 12 1).toInt ∧ (I201 12 1).toInt ≤ 500; exact hI201R.1), (by show 0 ≤ (I201 12 5).toInt ∧ (I201 12 5).toInt ≤ 501; exact hI201R.2.1), (by show (-1) ≤ (I201 12 6).toInt ∧ (I201 12 6).toInt ≤ 1000000; exact hI201R.2.2.1), (by show 0 ≤ (I201 12 9).toInt ∧ (I201 12 9).toInt ≤ 500; exact hI201R.2.2.2.1), (by show 0 ≤ (I201 12 13).toInt ∧ (I201 12 13).toInt ≤ 24; exact hI201R.2.2.2.2)⟩, (by show (I201 12 6).toInt ≤ 501 ∧ ((I201 12 7).toInt = 401 ∨ (I201 12 6).toInt ≤ 500); first | omega | decide), f202, (Or.inr ⟨rfl, f217, hF221, hb220⟩)⟩
noncomputable def L_X9_all_3x : z_L := [(12, 6), (12, 7), (17, 999), (12, 9)]
set_option maxHeartbeats 8000000 in
set_option maxRecDepth 100000 in
theorem sx_X9_all_3x (l : Launch) (G : z_G) (ad : Nat → Nat) (c : z_C) (I : z_I) (hR : z_iR I) (hT : z_iT I) (k : Nat) (hP : zr_P I k) : z_M l yX9_all wsX9_all { frames := 71, cells := 0, slots := 0, locals := 1551 } [.ref (ad 12), .int 3] G (shC c, ad, I, JX, PC c ad) (fun r u1 => ∃ I1 : z_I, u1 = (shC c, ad, I1, JX, PC c ad) ∧ z_iR I1 ∧ z_iT I1 ∧ z_fr L_X9_all_3x I1 I ∧ ((r = 1 ∧ zr_ok 4 3 I I1 k) ∨ (r = 0 ∧ zr_no 4 3 I I1 k))) 0 0 := by
  intro sz
  refine z_headQ (cc := cX9_all) (maxL := 3) (ret := (some .boolean)) (by decide) rfl (Nat.le_of_ble_eq_true rfl) ?_
  intro p e s m below meth c0 ls hIn hK hsz hW hl
  obtain ⟨hx, hb, hr, hml, hown, hts, hlocks, hname⟩ := hIn
  subst hsz
  have hown : s.vm.findClass RX9 = some m.cls := hown
  have hA : ∀ q : Nat, s.heap.size ≤ q → z_A (shC c, ad, I, JX, PC c ad) s.heap.size q := fun q h => Or.inr h
  generalize hAe : z_A (shC c, ad, I, JX, PC c ad) s.heap.size = A at *
  have hS : va_S A s.heap s.heap [] := va_S.rf
  have hl : lv_has ls 3 [(0, .ref (ad 12)), (1, .int 3)] := hl
  have hM0 := zr_M_0 hP
  have hP1 := hP.1
  have hP2 := hP.2.1
  have hP3 := hP.2.2.1
  have hP4 := hP.2.2.2.1
  have hP5 := hP.2.2.2.2.1
  have hP6 := hP.2.2.2.2.2.1
  have hlz : ([] : List Int).length = 0 := rfl
  have kT : (I 12 6).toInt ≤ 501 ∧ ((I 12 7).toInt = 401 ∨ (I 12 6).toInt ≤ 500) := hT
  refine lv_aload_n hx hb dX9_all_0 rfl (lv_at hl 0 rfl) ?_
  refine lv_iload_n hx hb dX9_all_1 rfl (lv_at hl 1 rfl) ?_
  refine z_ci hW hS hA (va_runV (As := [.int 3]) (rest := []) ⟨hx, hb, hml, hown, hts⟩ (sx_X9_one_3x l G ad c I ⟨(by show 0 ≤ (I 12 1).toInt ∧ (I 12 1).toInt ≤ 500; exact hR.1), (by show 0 ≤ (I 12 5).toInt ∧ (I 12 5).toInt ≤ 501; exact hR.2.1), (by show (-1) ≤ (I 12 6).toInt ∧ (I 12 6).toInt ≤ 1000000; exact hR.2.2.1), (by show 0 ≤ (I 12 9).toInt ∧ (I 12 9).toInt ≤ 500; exact hR.2.2.2.1), (by show 0 ≤ (I 12 13).toInt ∧ (I 12 13).toInt ≤ 24; exact hR.2.2.2.2)⟩ (by show (I 12 6).toInt ≤ 501 ∧ ((I 12 7).toInt = 401 ∨ (I 12 6).toInt ≤ 500); first | omega | decide) k (zr_P_m hP hM0 (by omega)) _) (cwV 1 hts gX9_all_X9_one rfl rfl rfl (by decide +kernel) ⟨Nat.le_of_ble_eq_true rfl, Nat.le_of_ble_eq_true rfl⟩) (z_preV (i := 12) hK hW rfl rfl) rfl rfl hl.1 rfl (lv_room (Nat.le_of_ble_eq_true rfl)) dX9_all_2 ⟨Nat.le_of_ble_eq_true rfl, Nat.le_of_ble_eq_true rfl⟩) (fun r u1 H locs hp hW hS => ?_)
  obtain ⟨I1, e9, hI1R, hI1T, fI1, hp⟩ := hp
  rw [e9] at hW
  have f2 := z_fr_sub (L := L_X9_all_3x) z_fr_0 fI1 (by decide)
  have k3 : (I1 12 6).toInt ≤ 501 ∧ ((I1 12 7).toInt = 401 ∨ (I1 12 6).toInt ≤ 500) := hI1T
  rcases hp with ⟨rfl, hq⟩ | ⟨rfl, hq⟩
  · obtain ⟨k4, cs5, hm6, h7, h8, h9⟩ := hq
    have ho10 := zr_okS hM0 h9
    have hM11 := (show zr_M I I1 k4 cs5 from zr_M_t hM0 hm6 hP.2.2.2.2.1)
    have h12 := hM11.1
    have h13 := hM11.2.1
    have h14 := hM11.2.2.1
    have h15 := hM11.2.2.2.1
    have l16 : (cs5).length = cs5.length := by first | rfl | (simp only [List.length_append, List.length_cons, List.length_nil] <;> omega)
    refine lv_if_ne (tgt := 10) hx hb dX9_all_5 (by decide) (fun c17 => ?_) (fun c17 => absurd c17 (by decide))
    refine lv_iconst (v := 0) hx hb dX9_all_10 (by decide) ?_
    refine lv_istore_n (lv' := [(2, .int 0), (0, .ref (ad 12)), (1, .int 3)]) hx hb dX9_all_11 rfl hl (by decide) rfl (fun ls hl => ?_)
    have lp18 : ∀ (f : Nat) (y19 : Int32) (I20 : z_I) (H : Heap) (locs : List Loc) (ls : Array Slot), (2147483647 < y19.toInt + (f : Int)) → (0 ≤ y19.toInt) → (z_iR I20) → (z_iT I20) → (zr_lp 4 3 I I20 k y19.toInt) → (z_fr L_X9_all_3x I20 I) → z_W G A (shC c, ad, I20, JX, PC c ad) H → va_S A s.heap H locs → lv_has ls 3 [(2, .int y19), (0, .ref (ad 12)), (1, .int 3)] → W p l e (headSpec wsX9_all { frames := 71, cells := 0, slots := 0, locals := 1551 }).room s m ([.ref (ad 12), .int 3] : List Value).toArray below meth c0 H locs 0 0 (MQ below (va_Qi (fun (r : Int32) (u1 : z_U) => ∃ I1 : z_I, u1 = (shC c, ad, I1, JX, PC c ad) ∧ z_iR I1 ∧ z_iT I1 ∧ z_fr L_X9_all_3x I1 I ∧ ((r = 1 ∧ zr_ok 4 3 I I1 k) ∨ (r = 0 ∧ zr_no 4 3 I I1 k))) (z_B G A) A) ([.ref (ad 12), .int 3] : List Value).toArray s 0 0 A) (F0 m 12 ls []) := by
      intro f
      induction f with
      | zero => intro y19 I20  H locs ls lp18m lp18l2 lp18R lp18T lp18LP lp18fr hW hS hl; exact absurd lp18m (by have := Int32.toInt_lt y19; have := Int32.le_toInt y19; omega)
      | succ f lp18ih =>
        intro y19 I20  H locs ls lp18m lp18l2 lp18R lp18T lp18LP lp18fr hW hS hl
        have k21 : (I20 12 6).toInt ≤ 501 ∧ ((I20 12 7).toInt = 401 ∨ (I20 12 6).toInt ≤ 500) := lp18T
        refine lv_iload_n hx hb dX9_all_12 rfl (lv_at hl 0 rfl) ?_
        obtain ⟨k22, cs23, hm24, h25, h26, lp27⟩ := lp18LP
        have hM28 := hm24
        have h29 := hM28.1
        have h30 := hM28.2.1
        have h31 := hM28.2.2.1
        have h32 := hM28.2.2.2.1
        have l33 : (cs23).length = cs23.length := by first | rfl | (simp only [List.length_append, List.length_cons, List.length_nil] <;> omega)
        refine lv_sipush (v := 500) hx hb dX9_all_13 (by decide) ?_
        refine lv_icmp_ge (tgt := 55) hx hb dX9_all_16 (by decide) (fun c34 => ?_) (fun c34 => ?_)
        · have g35 := z_f_ge rfl z_l500 c34
          have b36 := Int32.toInt_lt y19
          refine lv_iconst (v := 1) hx hb dX9_all_55 (by decide) ?_
          exact z_zret hx hb hr (by decide) hK hS (Nat.le_of_ble_eq_true rfl) (Nat.le_of_ble_eq_true rfl) hlocks dX9_all_56 (shC c, ad, I20, JX, PC c ad) hW ⟨I20, rfl, ⟨(by show 0 ≤ (I20 12 1).toInt ∧ (I20 12 1).toInt ≤ 500; exact lp18R.1), (by show 0 ≤ (I20 12 5).toInt ∧ (I20 12 5).toInt ≤ 501; exact lp18R.2.1), (by show (-1) ≤ (I20 12 6).toInt ∧ (I20 12 6).toInt ≤ 1000000; exact lp18R.2.2.1), (by show 0 ≤ (I20 12 9).toInt ∧ (I20 12 9).toInt ≤ 500; exact lp18R.2.2.2.1), (by show 0 ≤ (I20 12 13).toInt ∧ (I20 12 13).toInt ≤ 24; exact lp18R.2.2.2.2)⟩, (by show (I20 12 6).toInt ≤ 501 ∧ ((I20 12 7).toInt = 401 ∨ (I20 12 6).toInt ≤ 500); first | omega | decide), lp18fr, (False.elim (by omega))⟩
        · have g37 := z_f_nge rfl z_l500 c34
          have b38 := Int32.toInt_lt y19
          refine lv_aload_n hx hb dX9_all_19 rfl (lv_at hl 1 rfl) ?_
          refine z_get (T := TX9) (N := 14) (ci := 9) (i := 12) (v := .int (I20 12 7)) hx hb hts zj_X9_all_X9 hown hK hW rfl rfl 7 (by decide) (hts (.fieldLink RX9 62 "PetrolBoard$Reader" "token" "I") (me_s (me_l (me_l (List.mem_of_getElem? (i := 0) rfl))))) (fun _ h => h) rfl dX9_all_20 ?_
          refine lv_sipush (v := 310) hx hb dX9_all_23 (by decide) ?_
          refine lv_icmp_ne (tgt := 55) hx hb dX9_all_26 (by decide) (fun c39 => ?_) (fun c39 => ?_)
          · have g40 := z_f_ne rfl z_l310 c39
            have b41 := Int32.toInt_lt (I20 12 7)
            refine lv_iconst (v := 1) hx hb dX9_all_55 (by decide) ?_
            exact z_zret hx hb hr (by decide) hK hS (Nat.le_of_ble_eq_true rfl) (Nat.le_of_ble_eq_true rfl) hlocks dX9_all_56 (shC c, ad, I20, JX, PC c ad) hW ⟨I20, rfl, ⟨(by show 0 ≤ (I20 12 1).toInt ∧ (I20 12 1).toInt ≤ 500; exact lp18R.1), (by show 0 ≤ (I20 12 5).toInt ∧ (I20 12 5).toInt ≤ 501; exact lp18R.2.1), (by show (-1) ≤ (I20 12 6).toInt ∧ (I20 12 6).toInt ≤ 1000000; exact lp18R.2.2.1), (by show 0 ≤ (I20 12 9).toInt ∧ (I20 12 9).toInt ≤ 500; exact lp18R.2.2.2.1), (by show 0 ≤ (I20 12 13).toInt ∧ (I20 12 13).toInt ≤ 24; exact lp18R.2.2.2.2)⟩, (by show (I20 12 6).toInt ≤ 501 ∧ ((I20 12 7).toInt = 401 ∨ (I20 12 6).toInt ≤ 500); first | omega | decide), lp18fr, (Or.inl ⟨rfl, zr_ok_of hM28 rfl (by omega) (by omega) (zp_L3 (Or.inr (Or.inr (Or.inr rfl))) lp27 (zr_g4n (by omega)))⟩)⟩
          · have g42 := z_f_eq rfl z_l310 c39
            have b43 := Int32.toInt_lt (I20 12 7)
            refine lv_aload_n hx hb dX9_all_29 rfl (lv_at hl 1 rfl) ?_
            have q44 := zr_Q_n (zr_Q_m hP hM28) (by rw [zr_tkS hM28]; omega)
            refine z_cv hW hS hA (va_runV (As := []) (rest := []) ⟨hx, hb, hml, hown, hts⟩ (sx_X9_step_x l G ad c I20 ⟨(by show 0 ≤ (I20 12 1).toInt ∧ (I20 12 1).toInt ≤ 500; exact lp18R.1), (by show 0 ≤ (I20 12 5).toInt ∧ (I20 12 5).toInt ≤ 501; exact lp18R.2.1), (by show (-1) ≤ (I20 12 6).toInt ∧ (I20 12 6).toInt ≤ 1000000; exact lp18R.2.2.1), (by show 0 ≤ (I20 12 9).toInt ∧ (I20 12 9).toInt ≤ 500; exact lp18R.2.2.2.1), (by show 0 ≤ (I20 12 13).toInt ∧ (I20 12 13).toInt ≤ 24; exact lp18R.2.2.2.2)⟩ (k22 + 1) q44 _) (cwV 0 hts gX9_all_X9_step rfl rfl rfl (by decide +kernel) ⟨Nat.le_of_ble_eq_true rfl, Nat.le_of_ble_eq_true rfl⟩) (z_preV (i := 12) hK hW rfl rfl) rfl rfl hl.1 rfl (lv_room (Nat.le_of_ble_eq_true rfl)) dX9_all_30 ⟨Nat.le_of_ble_eq_true rfl, Nat.le_of_ble_eq_true rfl⟩) (fun u1 H locs hp hW hS => ?_)
            obtain ⟨I45, e9, hI45R, hI45T, fI45, hp⟩ := hp
            rw [e9] at hW
            have f46 := z_fr_sub (L := L_X9_all_3x) lp18fr fI45 (by decide)
            have k47 : (I45 12 6).toInt ≤ 501 ∧ ((I45 12 7).toInt = 401 ∨ (I45 12 6).toInt ≤ 500) := hI45T
            have hM48 := zr_M_s hM28 hp hP.2.2.2.2.1
            have h49 := hM48.1
            have h50 := hM48.2.1
            have h51 := hM48.2.2.1
            have h52 := hM48.2.2.2.1
            have l53 : (cs23).length = cs23.length := by first | rfl | (simp only [List.length_append, List.length_cons, List.length_nil] <;> omega)
            refine lv_aload_n hx hb dX9_all_33 rfl (lv_at hl 1 rfl) ?_
            refine lv_iload_n hx hb dX9_all_34 rfl (lv_at hl 2 rfl) ?_
            refine z_ci hW hS hA (va_runV (As := [.int 3]) (rest := []) ⟨hx, hb, hml, hown, hts⟩ (sx_X9_one_3x l G ad c I45 ⟨(by show 0 ≤ (I45 12 1).toInt ∧ (I45 12 1).toInt ≤ 500; exact hI45R.1), (by show 0 ≤ (I45 12 5).toInt ∧ (I45 12 5).toInt ≤ 501; exact hI45R.2.1), (by show (-1) ≤ (I45 12 6).toInt ∧ (I45 12 6).toInt ≤ 1000000; exact hI45R.2.2.1), (by show 0 ≤ (I45 12 9).toInt ∧ (I45 12 9).toInt ≤ 500; exact hI45R.2.2.2.1), (by show 0 ≤ (I45 12 13).toInt ∧ (I45 12 13).toInt ≤ 24; exact hI45R.2.2.2.2)⟩ (by show (I45 12 6).toInt ≤ 501 ∧ ((I45 12 7).toInt = 401 ∨ (I45 12 6).toInt ≤ 500); first | omega | decide) (k22 + 1) (zr_P_m hP hM48 (by omega)) _) (cwV 1 hts gX9_all_X9_one rfl rfl rfl (by decide +kernel) ⟨Nat.le_of_ble_eq_true rfl, Nat.le_of_ble_eq_true rfl⟩) (z_preV (i := 12) hK hW rfl rfl) rfl rfl hl.1 rfl (lv_room (Nat.le_of_ble_eq_true rfl)) dX9_all_35 ⟨Nat.le_of_ble_eq_true rfl, Nat.le_of_ble_eq_true rfl⟩) (fun r u1 H locs hp hW hS => ?_)
            obtain ⟨I54, e9, hI54R, hI54T, fI54, hp⟩ := hp
            rw [e9] at hW
            have f55 := z_fr_sub (L := L_X9_all_3x) f46 fI54 (by decide)
            have k56 : (I54 12 6).toInt ≤ 501 ∧ ((I54 12 7).toInt = 401 ∨ (I54 12 6).toInt ≤ 500) := hI54T
            rcases hp with ⟨rfl, hq⟩ | ⟨rfl, hq⟩
            · obtain ⟨k57, cs58, hm59, h60, h61, h62⟩ := hq
              have ho63 := zr_okS hM48 h62
              have hM64 := zr_M_t hM48 hm59 hP.2.2.2.2.1
              have h65 := hM64.1
              have h66 := hM64.2.1
              have h67 := hM64.2.2.1
              have h68 := hM64.2.2.2.1
              have l69 : ((cs23 ++ cs58)).length = cs23.length + cs58.length := by first | rfl | (simp only [List.length_append, List.length_cons, List.length_nil] <;> omega)
              refine lv_if_ne (tgt := 43) hx hb dX9_all_38 (by decide) (fun c70 => ?_) (fun c70 => absurd c70 (by decide))
              refine lv_aload_n hx hb dX9_all_43 rfl (lv_at hl 1 rfl) ?_
              refine lv_bipush (v := (-10)) hx hb dX9_all_44 (by decide) ?_
              refine z_cv hW hS hA (va_runV (As := [.int (-10)]) (rest := []) ⟨hx, hb, hml, hown, hts⟩ (sx_X9_emit_x l G ad c I54 ⟨(by show 0 ≤ (I54 12 1).toInt ∧ (I54 12 1).toInt ≤ 500; exact hI54R.1), (by show 0 ≤ (I54 12 5).toInt ∧ (I54 12 5).toInt ≤ 501; exact hI54R.2.1), (by show (-1) ≤ (I54 12 6).toInt ∧ (I54 12 6).toInt ≤ 1000000; exact hI54R.2.2.1), (by show 0 ≤ (I54 12 9).toInt ∧ (I54 12 9).toInt ≤ 500; exact hI54R.2.2.2.1), (by show 0 ≤ (I54 12 13).toInt ∧ (I54 12 13).toInt ≤ 24; exact hI54R.2.2.2.2)⟩ (-10) (by omega) _) (cwV 1 hts gX9_all_X9_emit rfl rfl rfl (by decide +kernel) ⟨Nat.le_of_ble_eq_true rfl, Nat.le_of_ble_eq_true rfl⟩) (z_preV (i := 12) hK hW rfl rfl) rfl rfl hl.1 rfl (lv_room (Nat.le_of_ble_eq_true rfl)) dX9_all_46 ⟨Nat.le_of_ble_eq_true rfl, Nat.le_of_ble_eq_true rfl⟩) (fun u1 H locs hp hW hS => ?_)
              obtain ⟨I71, e9, hI71R, fI71, hp⟩ := hp
              rw [e9] at hW
              have f72 := z_fr_sub (L := L_X9_all_3x) f55 fI71 (by decide)
              have k73 : (I71 12 6).toInt ≤ 501 ∧ ((I71 12 7).toInt = 401 ∨ (I71 12 6).toInt ≤ 500) := (by have q0 : (I71 12 6) = (I54 12 6) := (by rw [fI71 12 6 (by decide)]); have q1 : (I71 12 7) = (I54 12 7) := (by rw [fI71 12 7 (by decide)]); show (I71 12 6).toInt ≤ 501 ∧ ((I71 12 7).toInt = 401 ∨ (I71 12 6).toInt ≤ 500); rw [q0, q1]; first | omega | decide)
              have hM74 := zr_M_e hM64 hp (show ((-10) : Int32).toInt = (-10) by decide) hP.2.2.2.2.1
              have h75 := hM74.1
              have h76 := hM74.2.1
              have h77 := hM74.2.2.1
              have h78 := hM74.2.2.2.1
              have l79 : (((cs23 ++ cs58) ++ [(-10)])).length = cs23.length + cs58.length + 1 := by first | rfl | (simp only [List.length_append, List.length_cons, List.length_nil] <;> omega)
              obtain ⟨x80, ex80⟩ : ∃ y : Int32, y = y19 + 1 := ⟨_, rfl⟩
              have tx80 : x80.toInt = y19.toInt + 1 := z_tadd ex80 rfl z_l1 (by omega) (by omega)
              refine lv_iinc (v := x80) (lv' := [(2, .int x80), (0, .ref (ad 12)), (1, .int 3)]) hx hb dX9_all_49 hl (k := 0) rfl (by rw [ex80]; rfl) (by decide) rfl (fun ls hl => ?_)
              refine lv_goto (tgt := 12) hx hb dX9_all_52 (by decide) ?_
              exact lp18ih x80 I71  _ _ _ (by omega) (by omega) ⟨(by show 0 ≤ (I71 12 1).toInt ∧ (I71 12 1).toInt ≤ 500; exact hI71R.1), (by show 0 ≤ (I71 12 5).toInt ∧ (I71 12 5).toInt ≤ 501; exact hI71R.2.1), (by show (-1) ≤ (I71 12 6).toInt ∧ (I71 12 6).toInt ≤ 1000000; exact hI71R.2.2.1), (by show 0 ≤ (I71 12 9).toInt ∧ (I71 12 9).toInt ≤ 500; exact hI71R.2.2.2.1), (by show 0 ≤ (I71 12 13).toInt ∧ (I71 12 13).toInt ≤ 24; exact hI71R.2.2.2.2)⟩ (by show (I71 12 6).toInt ≤ 501 ∧ ((I71 12 7).toInt = 401 ∨ (I71 12 6).toInt ≤ 500); first | omega | decide) (zr_lp_of hM74 (by rw [zr_e4 (show zr_tk I k22 = 310 by omega), List.append_assoc]) (by omega) (by omega) (zp_L2 (by decide) (Or.inr (Or.inr (Or.inr rfl))) lp27 (zr_g4p (by omega)) ho63)) f72 hW hS (lv_sub hl [0, 1, 2] rfl)
            · obtain ⟨f81, hf82, h83⟩ := hq
              have hb84 := zr_noS hM48 h83
              have hF85 := zr_F_m hM48 hf82
              refine lv_if_ne (tgt := 43) hx hb dX9_all_38 (by decide) (fun c86 => absurd (by decide) c86) (fun c86 => ?_)
              refine lv_iconst (v := 0) hx hb dX9_all_41 (by decide) ?_
              exact z_zret hx hb hr (by decide) hK hS (Nat.le_of_ble_eq_true rfl) (Nat.le_of_ble_eq_true rfl) hlocks dX9_all_42 (shC c, ad, I54, JX, PC c ad) hW ⟨I54, rfl, ⟨(by show 0 ≤ (I54 12 1).toInt ∧ (I54 12 1).toInt ≤ 500; exact hI54R.1), (by show 0 ≤ (I54 12 5).toInt ∧ (I54 12 5).toInt ≤ 501; exact hI54R.2.1), (by show (-1) ≤ (I54 12 6).toInt ∧ (I54 12 6).toInt ≤ 1000000; exact hI54R.2.2.1), (by show 0 ≤ (I54 12 9).toInt ∧ (I54 12 9).toInt ≤ 500; exact hI54R.2.2.2.1), (by show 0 ≤ (I54 12 13).toInt ∧ (I54 12 13).toInt ≤ 24; exact hI54R.2.2.2.2)⟩, (by show (I54 12 6).toInt ≤ 501 ∧ ((I54 12 7).toInt = 401 ∨ (I54 12 6).toInt ≤ 500); first | omega | decide), f55, (Or.inr ⟨rfl, f81, hF85, (zp_L5 (by decide) (Or.inr (Or.inr (Or.inr rfl))) lp27 (zr_g4p (by omega)) hb84)⟩)⟩
    exact lp18 4294967296 (0) I1  _ _ _ (z_m0u _) (by rw [z_l0]; omega) ⟨(by show 0 ≤ (I1 12 1).toInt ∧ (I1 12 1).toInt ≤ 500; exact hI1R.1), (by show 0 ≤ (I1 12 5).toInt ∧ (I1 12 5).toInt ≤ 501; exact hI1R.2.1), (by show (-1) ≤ (I1 12 6).toInt ∧ (I1 12 6).toInt ≤ 1000000; exact hI1R.2.2.1), (by show 0 ≤ (I1 12 9).toInt ∧ (I1 12 9).toInt ≤ 500; exact hI1R.2.2.2.1), (by show 0 ≤ (I1 12 13).toInt ∧ (I1 12 13).toInt ≤ 24; exact hI1R.2.2.2.2)⟩ (by show (I1 12 6).toInt ≤ 501 ∧ ((I1 12 7).toInt = 401 ∨ (I1 12 6).toInt ≤ 500); first | omega | decide) (zr_lp_of hM11 rfl (by have := z_l0; omega) (by omega) (zp_L1 (by decide) (Or.inr (Or.inr (Or.inr rfl))) ho10)) f2 hW hS (lv_sub hl [0, 1, 2] rfl)
  · obtain ⟨f87, hf88, h89⟩ := hq
    have hb90 := zr_noS hM0 h89
    have hF91 := zr_F_m hM0 hf88
    refine lv_if_ne (tgt := 10) hx hb dX9_all_5 (by decide) (fun c92 => absurd (by decide) c92) (fun c92 => ?_)
    refine lv_iconst (v := 0) hx hb dX9_all_8 (by decide) ?_
    exact z_zret hx hb hr (by decide) hK hS (Nat.le_of_ble_eq_true rfl) (Nat.le_of_ble_eq_true rfl) hlocks dX9_all_9 (shC c, ad, I1, JX, PC c ad) hW ⟨I1, rfl, ⟨(by show 0 ≤ (I1 12 1).toInt ∧ (I1 12 1).toInt ≤ 500; exact hI1R.1), (by show 0 ≤ (I1 12 5).toInt ∧ (I1 12 5).toInt ≤ 501; exact hI1R.2.1), (by show (-1) ≤ (I1 12 6).toInt ∧ (I1 12 6).toInt ≤ 1000000; exact hI1R.2.2.1), (by show 0 ≤ (I1 12 9).toInt ∧ (I1 12 9).toInt ≤ 500; exact hI1R.2.2.2.1), (by show 0 ≤ (I1 12 13).toInt ∧ (I1 12 13).toInt ≤ 24; exact hI1R.2.2.2.2)⟩, (by show (I1 12 6).toInt ≤ 501 ∧ ((I1 12 7).toInt = 401 ∨ (I1 12 6).toInt ≤ 500); first | omega | decide), f2, (Or.inr ⟨rfl, f87, hF91, (zp_L4 (by decide) (Or.inr (Or.inr (Or.inr rfl))) hb90)⟩)⟩
noncomputable def L_X9_either_3x : z_L := [(12, 6), (12, 7), (17, 999), (12, 9)]
set_option maxHeartbeats 8000000 in
set_option maxRecDepth 100000 in
theorem sx_X9_either_3x (l : Launch) (G : z_G) (ad : Nat → Nat) (c : z_C) (I : z_I) (hR : z_iR I) (hT : z_iT I) (k : Nat) (hP : zr_P I k) : z_M l yX9_either wsX9_either { frames := 72, cells := 0, slots := 0, locals := 1573 } [.ref (ad 12), .int 3] G (shC c, ad, I, JX, PC c ad) (fun r u1 => ∃ I1 : z_I, u1 = (shC c, ad, I1, JX, PC c ad) ∧ z_iR I1 ∧ z_iT I1 ∧ z_fr L_X9_either_3x I1 I ∧ ((r = 1 ∧ zr_ok 3 3 I I1 k) ∨ (r = 0 ∧ zr_no 3 3 I I1 k))) 0 0 := by
  intro sz
  refine z_headQ (cc := cX9_either) (maxL := 3) (ret := (some .boolean)) (by decide) rfl (Nat.le_of_ble_eq_true rfl) ?_
  intro p e s m below meth c0 ls hIn hK hsz hW hl
  obtain ⟨hx, hb, hr, hml, hown, hts, hlocks, hname⟩ := hIn
  subst hsz
  have hown : s.vm.findClass RX9 = some m.cls := hown
  have hA : ∀ q : Nat, s.heap.size ≤ q → z_A (shC c, ad, I, JX, PC c ad) s.heap.size q := fun q h => Or.inr h
  generalize hAe : z_A (shC c, ad, I, JX, PC c ad) s.heap.size = A at *
  have hS : va_S A s.heap s.heap [] := va_S.rf
  have hl : lv_has ls 3 [(0, .ref (ad 12)), (1, .int 3)] := hl
  have hM0 := zr_M_0 hP
  have hP1 := hP.1
  have hP2 := hP.2.1
  have hP3 := hP.2.2.1
  have hP4 := hP.2.2.2.1
  have hP5 := hP.2.2.2.2.1
  have hP6 := hP.2.2.2.2.2.1
  have hlz : ([] : List Int).length = 0 := rfl
  have kT : (I 12 6).toInt ≤ 501 ∧ ((I 12 7).toInt = 401 ∨ (I 12 6).toInt ≤ 500) := hT
  refine lv_aload_n hx hb dX9_either_0 rfl (lv_at hl 0 rfl) ?_
  refine lv_iload_n hx hb dX9_either_1 rfl (lv_at hl 1 rfl) ?_
  refine z_ci hW hS hA (va_runV (As := [.int 3]) (rest := []) ⟨hx, hb, hml, hown, hts⟩ (sx_X9_all_3x l G ad c I ⟨(by show 0 ≤ (I 12 1).toInt ∧ (I 12 1).toInt ≤ 500; exact hR.1), (by show 0 ≤ (I 12 5).toInt ∧ (I 12 5).toInt ≤ 501; exact hR.2.1), (by show (-1) ≤ (I 12 6).toInt ∧ (I 12 6).toInt ≤ 1000000; exact hR.2.2.1), (by show 0 ≤ (I 12 9).toInt ∧ (I 12 9).toInt ≤ 500; exact hR.2.2.2.1), (by show 0 ≤ (I 12 13).toInt ∧ (I 12 13).toInt ≤ 24; exact hR.2.2.2.2)⟩ (by show (I 12 6).toInt ≤ 501 ∧ ((I 12 7).toInt = 401 ∨ (I 12 6).toInt ≤ 500); first | omega | decide) k (zr_P_m hP hM0 (by omega)) _) (cwV 1 hts gX9_either_X9_all rfl rfl rfl (by decide +kernel) ⟨Nat.le_of_ble_eq_true rfl, Nat.le_of_ble_eq_true rfl⟩) (z_preV (i := 12) hK hW rfl rfl) rfl rfl hl.1 rfl (lv_room (Nat.le_of_ble_eq_true rfl)) dX9_either_2 ⟨Nat.le_of_ble_eq_true rfl, Nat.le_of_ble_eq_true rfl⟩) (fun r u1 H locs hp hW hS => ?_)
  obtain ⟨I1, e9, hI1R, hI1T, fI1, hp⟩ := hp
  rw [e9] at hW
  have f2 := z_fr_sub (L := L_X9_either_3x) z_fr_0 fI1 (by decide)
  have k3 : (I1 12 6).toInt ≤ 501 ∧ ((I1 12 7).toInt = 401 ∨ (I1 12 6).toInt ≤ 500) := hI1T
  rcases hp with ⟨rfl, hq⟩ | ⟨rfl, hq⟩
  · obtain ⟨k4, cs5, hm6, h7, h8, h9⟩ := hq
    have ho10 := zr_okS hM0 h9
    have hM11 := (show zr_M I I1 k4 cs5 from zr_M_t hM0 hm6 hP.2.2.2.2.1)
    have h12 := hM11.1
    have h13 := hM11.2.1
    have h14 := hM11.2.2.1
    have h15 := hM11.2.2.2.1
    have l16 : (cs5).length = cs5.length := by first | rfl | (simp only [List.length_append, List.length_cons, List.length_nil] <;> omega)
    refine lv_if_ne (tgt := 10) hx hb dX9_either_5 (by decide) (fun c17 => ?_) (fun c17 => absurd c17 (by decide))
    refine lv_iconst (v := 0) hx hb dX9_either_10 (by decide) ?_
    refine lv_istore_n (lv' := [(2, .int 0), (0, .ref (ad 12)), (1, .int 3)]) hx hb dX9_either_11 rfl hl (by decide) rfl (fun ls hl => ?_)
    have lp18 : ∀ (f : Nat) (y19 : Int32) (I20 : z_I) (H : Heap) (locs : List Loc) (ls : Array Slot), (2147483647 < y19.toInt + (f : Int)) → (0 ≤ y19.toInt) → (z_iR I20) → (z_iT I20) → (zr_lp 3 3 I I20 k y19.toInt) → (z_fr L_X9_either_3x I20 I) → z_W G A (shC c, ad, I20, JX, PC c ad) H → va_S A s.heap H locs → lv_has ls 3 [(2, .int y19), (0, .ref (ad 12)), (1, .int 3)] → W p l e (headSpec wsX9_either { frames := 72, cells := 0, slots := 0, locals := 1573 }).room s m ([.ref (ad 12), .int 3] : List Value).toArray below meth c0 H locs 0 0 (MQ below (va_Qi (fun (r : Int32) (u1 : z_U) => ∃ I1 : z_I, u1 = (shC c, ad, I1, JX, PC c ad) ∧ z_iR I1 ∧ z_iT I1 ∧ z_fr L_X9_either_3x I1 I ∧ ((r = 1 ∧ zr_ok 3 3 I I1 k) ∨ (r = 0 ∧ zr_no 3 3 I I1 k))) (z_B G A) A) ([.ref (ad 12), .int 3] : List Value).toArray s 0 0 A) (F0 m 12 ls []) := by
      intro f
      induction f with
      | zero => intro y19 I20  H locs ls lp18m lp18l2 lp18R lp18T lp18LP lp18fr hW hS hl; exact absurd lp18m (by have := Int32.toInt_lt y19; have := Int32.le_toInt y19; omega)
      | succ f lp18ih =>
        intro y19 I20  H locs ls lp18m lp18l2 lp18R lp18T lp18LP lp18fr hW hS hl
        have k21 : (I20 12 6).toInt ≤ 501 ∧ ((I20 12 7).toInt = 401 ∨ (I20 12 6).toInt ≤ 500) := lp18T
        refine lv_iload_n hx hb dX9_either_12 rfl (lv_at hl 0 rfl) ?_
        obtain ⟨k22, cs23, hm24, h25, h26, lp27⟩ := lp18LP
        have hM28 := hm24
        have h29 := hM28.1
        have h30 := hM28.2.1
        have h31 := hM28.2.2.1
        have h32 := hM28.2.2.2.1
        have l33 : (cs23).length = cs23.length := by first | rfl | (simp only [List.length_append, List.length_cons, List.length_nil] <;> omega)
        refine lv_sipush (v := 500) hx hb dX9_either_13 (by decide) ?_
        refine lv_icmp_ge (tgt := 55) hx hb dX9_either_16 (by decide) (fun c34 => ?_) (fun c34 => ?_)
        · have g35 := z_f_ge rfl z_l500 c34
          have b36 := Int32.toInt_lt y19
          refine lv_iconst (v := 1) hx hb dX9_either_55 (by decide) ?_
          exact z_zret hx hb hr (by decide) hK hS (Nat.le_of_ble_eq_true rfl) (Nat.le_of_ble_eq_true rfl) hlocks dX9_either_56 (shC c, ad, I20, JX, PC c ad) hW ⟨I20, rfl, ⟨(by show 0 ≤ (I20 12 1).toInt ∧ (I20 12 1).toInt ≤ 500; exact lp18R.1), (by show 0 ≤ (I20 12 5).toInt ∧ (I20 12 5).toInt ≤ 501; exact lp18R.2.1), (by show (-1) ≤ (I20 12 6).toInt ∧ (I20 12 6).toInt ≤ 1000000; exact lp18R.2.2.1), (by show 0 ≤ (I20 12 9).toInt ∧ (I20 12 9).toInt ≤ 500; exact lp18R.2.2.2.1), (by show 0 ≤ (I20 12 13).toInt ∧ (I20 12 13).toInt ≤ 24; exact lp18R.2.2.2.2)⟩, (by show (I20 12 6).toInt ≤ 501 ∧ ((I20 12 7).toInt = 401 ∨ (I20 12 6).toInt ≤ 500); first | omega | decide), lp18fr, (False.elim (by omega))⟩
        · have g37 := z_f_nge rfl z_l500 c34
          have b38 := Int32.toInt_lt y19
          refine lv_aload_n hx hb dX9_either_19 rfl (lv_at hl 1 rfl) ?_
          refine z_get (T := TX9) (N := 14) (ci := 9) (i := 12) (v := .int (I20 12 7)) hx hb hts zj_X9_either_X9 hown hK hW rfl rfl 7 (by decide) (hts (.fieldLink RX9 62 "PetrolBoard$Reader" "token" "I") (me_s (me_l (me_l (List.mem_of_getElem? (i := 0) rfl))))) (fun _ h => h) rfl dX9_either_20 ?_
          refine lv_sipush (v := 309) hx hb dX9_either_23 (by decide) ?_
          refine lv_icmp_ne (tgt := 55) hx hb dX9_either_26 (by decide) (fun c39 => ?_) (fun c39 => ?_)
          · have g40 := z_f_ne rfl z_l309 c39
            have b41 := Int32.toInt_lt (I20 12 7)
            refine lv_iconst (v := 1) hx hb dX9_either_55 (by decide) ?_
            exact z_zret hx hb hr (by decide) hK hS (Nat.le_of_ble_eq_true rfl) (Nat.le_of_ble_eq_true rfl) hlocks dX9_either_56 (shC c, ad, I20, JX, PC c ad) hW ⟨I20, rfl, ⟨(by show 0 ≤ (I20 12 1).toInt ∧ (I20 12 1).toInt ≤ 500; exact lp18R.1), (by show 0 ≤ (I20 12 5).toInt ∧ (I20 12 5).toInt ≤ 501; exact lp18R.2.1), (by show (-1) ≤ (I20 12 6).toInt ∧ (I20 12 6).toInt ≤ 1000000; exact lp18R.2.2.1), (by show 0 ≤ (I20 12 9).toInt ∧ (I20 12 9).toInt ≤ 500; exact lp18R.2.2.2.1), (by show 0 ≤ (I20 12 13).toInt ∧ (I20 12 13).toInt ≤ 24; exact lp18R.2.2.2.2)⟩, (by show (I20 12 6).toInt ≤ 501 ∧ ((I20 12 7).toInt = 401 ∨ (I20 12 6).toInt ≤ 500); first | omega | decide), lp18fr, (Or.inl ⟨rfl, zr_ok_of hM28 rfl (by omega) (by omega) (zp_L3 (Or.inr (Or.inr (Or.inl rfl))) lp27 (zr_g3n (by omega)))⟩)⟩
          · have g42 := z_f_eq rfl z_l309 c39
            have b43 := Int32.toInt_lt (I20 12 7)
            refine lv_aload_n hx hb dX9_either_29 rfl (lv_at hl 1 rfl) ?_
            have q44 := zr_Q_n (zr_Q_m hP hM28) (by rw [zr_tkS hM28]; omega)
            refine z_cv hW hS hA (va_runV (As := []) (rest := []) ⟨hx, hb, hml, hown, hts⟩ (sx_X9_step_x l G ad c I20 ⟨(by show 0 ≤ (I20 12 1).toInt ∧ (I20 12 1).toInt ≤ 500; exact lp18R.1), (by show 0 ≤ (I20 12 5).toInt ∧ (I20 12 5).toInt ≤ 501; exact lp18R.2.1), (by show (-1) ≤ (I20 12 6).toInt ∧ (I20 12 6).toInt ≤ 1000000; exact lp18R.2.2.1), (by show 0 ≤ (I20 12 9).toInt ∧ (I20 12 9).toInt ≤ 500; exact lp18R.2.2.2.1), (by show 0 ≤ (I20 12 13).toInt ∧ (I20 12 13).toInt ≤ 24; exact lp18R.2.2.2.2)⟩ (k22 + 1) q44 _) (cwV 0 hts gX9_either_X9_step rfl rfl rfl (by decide +kernel) ⟨Nat.le_of_ble_eq_true rfl, Nat.le_of_ble_eq_true rfl⟩) (z_preV (i := 12) hK hW rfl rfl) rfl rfl hl.1 rfl (lv_room (Nat.le_of_ble_eq_true rfl)) dX9_either_30 ⟨Nat.le_of_ble_eq_true rfl, Nat.le_of_ble_eq_true rfl⟩) (fun u1 H locs hp hW hS => ?_)
            obtain ⟨I45, e9, hI45R, hI45T, fI45, hp⟩ := hp
            rw [e9] at hW
            have f46 := z_fr_sub (L := L_X9_either_3x) lp18fr fI45 (by decide)
            have k47 : (I45 12 6).toInt ≤ 501 ∧ ((I45 12 7).toInt = 401 ∨ (I45 12 6).toInt ≤ 500) := hI45T
            have hM48 := zr_M_s hM28 hp hP.2.2.2.2.1
            have h49 := hM48.1
            have h50 := hM48.2.1
            have h51 := hM48.2.2.1
            have h52 := hM48.2.2.2.1
            have l53 : (cs23).length = cs23.length := by first | rfl | (simp only [List.length_append, List.length_cons, List.length_nil] <;> omega)
            refine lv_aload_n hx hb dX9_either_33 rfl (lv_at hl 1 rfl) ?_
            refine lv_iload_n hx hb dX9_either_34 rfl (lv_at hl 2 rfl) ?_
            refine z_ci hW hS hA (va_runV (As := [.int 3]) (rest := []) ⟨hx, hb, hml, hown, hts⟩ (sx_X9_all_3x l G ad c I45 ⟨(by show 0 ≤ (I45 12 1).toInt ∧ (I45 12 1).toInt ≤ 500; exact hI45R.1), (by show 0 ≤ (I45 12 5).toInt ∧ (I45 12 5).toInt ≤ 501; exact hI45R.2.1), (by show (-1) ≤ (I45 12 6).toInt ∧ (I45 12 6).toInt ≤ 1000000; exact hI45R.2.2.1), (by show 0 ≤ (I45 12 9).toInt ∧ (I45 12 9).toInt ≤ 500; exact hI45R.2.2.2.1), (by show 0 ≤ (I45 12 13).toInt ∧ (I45 12 13).toInt ≤ 24; exact hI45R.2.2.2.2)⟩ (by show (I45 12 6).toInt ≤ 501 ∧ ((I45 12 7).toInt = 401 ∨ (I45 12 6).toInt ≤ 500); first | omega | decide) (k22 + 1) (zr_P_m hP hM48 (by omega)) _) (cwV 1 hts gX9_either_X9_all rfl rfl rfl (by decide +kernel) ⟨Nat.le_of_ble_eq_true rfl, Nat.le_of_ble_eq_true rfl⟩) (z_preV (i := 12) hK hW rfl rfl) rfl rfl hl.1 rfl (lv_room (Nat.le_of_ble_eq_true rfl)) dX9_either_35 ⟨Nat.le_of_ble_eq_true rfl, Nat.le_of_ble_eq_true rfl⟩) (fun r u1 H locs hp hW hS => ?_)
            obtain ⟨I54, e9, hI54R, hI54T, fI54, hp⟩ := hp
            rw [e9] at hW
            have f55 := z_fr_sub (L := L_X9_either_3x) f46 fI54 (by decide)
            have k56 : (I54 12 6).toInt ≤ 501 ∧ ((I54 12 7).toInt = 401 ∨ (I54 12 6).toInt ≤ 500) := hI54T
            rcases hp with ⟨rfl, hq⟩ | ⟨rfl, hq⟩
            · obtain ⟨k57, cs58, hm59, h60, h61, h62⟩ := hq
              have ho63 := zr_okS hM48 h62
              have hM64 := zr_M_t hM48 hm59 hP.2.2.2.2.1
              have h65 := hM64.1
              have h66 := hM64.2.1
              have h67 := hM64.2.2.1
              have h68 := hM64.2.2.2.1
              have l69 : ((cs23 ++ cs58)).length = cs23.length + cs58.length := by first | rfl | (simp only [List.length_append, List.length_cons, List.length_nil] <;> omega)
              refine lv_if_ne (tgt := 43) hx hb dX9_either_38 (by decide) (fun c70 => ?_) (fun c70 => absurd c70 (by decide))
              refine lv_aload_n hx hb dX9_either_43 rfl (lv_at hl 1 rfl) ?_
              refine lv_bipush (v := (-11)) hx hb dX9_either_44 (by decide) ?_
              refine z_cv hW hS hA (va_runV (As := [.int (-11)]) (rest := []) ⟨hx, hb, hml, hown, hts⟩ (sx_X9_emit_x l G ad c I54 ⟨(by show 0 ≤ (I54 12 1).toInt ∧ (I54 12 1).toInt ≤ 500; exact hI54R.1), (by show 0 ≤ (I54 12 5).toInt ∧ (I54 12 5).toInt ≤ 501; exact hI54R.2.1), (by show (-1) ≤ (I54 12 6).toInt ∧ (I54 12 6).toInt ≤ 1000000; exact hI54R.2.2.1), (by show 0 ≤ (I54 12 9).toInt ∧ (I54 12 9).toInt ≤ 500; exact hI54R.2.2.2.1), (by show 0 ≤ (I54 12 13).toInt ∧ (I54 12 13).toInt ≤ 24; exact hI54R.2.2.2.2)⟩ (-11) (by omega) _) (cwV 1 hts gX9_either_X9_emit rfl rfl rfl (by decide +kernel) ⟨Nat.le_of_ble_eq_true rfl, Nat.le_of_ble_eq_true rfl⟩) (z_preV (i := 12) hK hW rfl rfl) rfl rfl hl.1 rfl (lv_room (Nat.le_of_ble_eq_true rfl)) dX9_either_46 ⟨Nat.le_of_ble_eq_true rfl, Nat.le_of_ble_eq_true rfl⟩) (fun u1 H locs hp hW hS => ?_)
              obtain ⟨I71, e9, hI71R, fI71, hp⟩ := hp
              rw [e9] at hW
              have f72 := z_fr_sub (L := L_X9_either_3x) f55 fI71 (by decide)
              have k73 : (I71 12 6).toInt ≤ 501 ∧ ((I71 12 7).toInt = 401 ∨ (I71 12 6).toInt ≤ 500) := (by have q0 : (I71 12 6) = (I54 12 6) := (by rw [fI71 12 6 (by decide)]); have q1 : (I71 12 7) = (I54 12 7) := (by rw [fI71 12 7 (by decide)]); show (I71 12 6).toInt ≤ 501 ∧ ((I71 12 7).toInt = 401 ∨ (I71 12 6).toInt ≤ 500); rw [q0, q1]; first | omega | decide)
              have hM74 := zr_M_e hM64 hp (show ((-11) : Int32).toInt = (-11) by decide) hP.2.2.2.2.1
              have h75 := hM74.1
              have h76 := hM74.2.1
              have h77 := hM74.2.2.1
              have h78 := hM74.2.2.2.1
              have l79 : (((cs23 ++ cs58) ++ [(-11)])).length = cs23.length + cs58.length + 1 := by first | rfl | (simp only [List.length_append, List.length_cons, List.length_nil] <;> omega)
              obtain ⟨x80, ex80⟩ : ∃ y : Int32, y = y19 + 1 := ⟨_, rfl⟩
              have tx80 : x80.toInt = y19.toInt + 1 := z_tadd ex80 rfl z_l1 (by omega) (by omega)
              refine lv_iinc (v := x80) (lv' := [(2, .int x80), (0, .ref (ad 12)), (1, .int 3)]) hx hb dX9_either_49 hl (k := 0) rfl (by rw [ex80]; rfl) (by decide) rfl (fun ls hl => ?_)
              refine lv_goto (tgt := 12) hx hb dX9_either_52 (by decide) ?_
              exact lp18ih x80 I71  _ _ _ (by omega) (by omega) ⟨(by show 0 ≤ (I71 12 1).toInt ∧ (I71 12 1).toInt ≤ 500; exact hI71R.1), (by show 0 ≤ (I71 12 5).toInt ∧ (I71 12 5).toInt ≤ 501; exact hI71R.2.1), (by show (-1) ≤ (I71 12 6).toInt ∧ (I71 12 6).toInt ≤ 1000000; exact hI71R.2.2.1), (by show 0 ≤ (I71 12 9).toInt ∧ (I71 12 9).toInt ≤ 500; exact hI71R.2.2.2.1), (by show 0 ≤ (I71 12 13).toInt ∧ (I71 12 13).toInt ≤ 24; exact hI71R.2.2.2.2)⟩ (by show (I71 12 6).toInt ≤ 501 ∧ ((I71 12 7).toInt = 401 ∨ (I71 12 6).toInt ≤ 500); first | omega | decide) (zr_lp_of hM74 (by rw [zr_e3 (show zr_tk I k22 = 309 by omega), List.append_assoc]) (by omega) (by omega) (zp_L2 (by decide) (Or.inr (Or.inr (Or.inl rfl))) lp27 (zr_g3p (by omega)) ho63)) f72 hW hS (lv_sub hl [0, 1, 2] rfl)
            · obtain ⟨f81, hf82, h83⟩ := hq
              have hb84 := zr_noS hM48 h83
              have hF85 := zr_F_m hM48 hf82
              refine lv_if_ne (tgt := 43) hx hb dX9_either_38 (by decide) (fun c86 => absurd (by decide) c86) (fun c86 => ?_)
              refine lv_iconst (v := 0) hx hb dX9_either_41 (by decide) ?_
              exact z_zret hx hb hr (by decide) hK hS (Nat.le_of_ble_eq_true rfl) (Nat.le_of_ble_eq_true rfl) hlocks dX9_either_42 (shC c, ad, I54, JX, PC c ad) hW ⟨I54, rfl, ⟨(by show 0 ≤ (I54 12 1).toInt ∧ (I54 12 1).toInt ≤ 500; exact hI54R.1), (by show 0 ≤ (I54 12 5).toInt ∧ (I54 12 5).toInt ≤ 501; exact hI54R.2.1), (by show (-1) ≤ (I54 12 6).toInt ∧ (I54 12 6).toInt ≤ 1000000; exact hI54R.2.2.1), (by show 0 ≤ (I54 12 9).toInt ∧ (I54 12 9).toInt ≤ 500; exact hI54R.2.2.2.1), (by show 0 ≤ (I54 12 13).toInt ∧ (I54 12 13).toInt ≤ 24; exact hI54R.2.2.2.2)⟩, (by show (I54 12 6).toInt ≤ 501 ∧ ((I54 12 7).toInt = 401 ∨ (I54 12 6).toInt ≤ 500); first | omega | decide), f55, (Or.inr ⟨rfl, f81, hF85, (zp_L5 (by decide) (Or.inr (Or.inr (Or.inl rfl))) lp27 (zr_g3p (by omega)) hb84)⟩)⟩
    exact lp18 4294967296 (0) I1  _ _ _ (z_m0u _) (by rw [z_l0]; omega) ⟨(by show 0 ≤ (I1 12 1).toInt ∧ (I1 12 1).toInt ≤ 500; exact hI1R.1), (by show 0 ≤ (I1 12 5).toInt ∧ (I1 12 5).toInt ≤ 501; exact hI1R.2.1), (by show (-1) ≤ (I1 12 6).toInt ∧ (I1 12 6).toInt ≤ 1000000; exact hI1R.2.2.1), (by show 0 ≤ (I1 12 9).toInt ∧ (I1 12 9).toInt ≤ 500; exact hI1R.2.2.2.1), (by show 0 ≤ (I1 12 13).toInt ∧ (I1 12 13).toInt ≤ 24; exact hI1R.2.2.2.2)⟩ (by show (I1 12 6).toInt ≤ 501 ∧ ((I1 12 7).toInt = 401 ∨ (I1 12 6).toInt ≤ 500); first | omega | decide) (zr_lp_of hM11 rfl (by have := z_l0; omega) (by omega) (zp_L1 (by decide) (Or.inr (Or.inr (Or.inl rfl))) ho10)) f2 hW hS (lv_sub hl [0, 1, 2] rfl)
  · obtain ⟨f87, hf88, h89⟩ := hq
    have hb90 := zr_noS hM0 h89
    have hF91 := zr_F_m hM0 hf88
    refine lv_if_ne (tgt := 10) hx hb dX9_either_5 (by decide) (fun c92 => absurd (by decide) c92) (fun c92 => ?_)
    refine lv_iconst (v := 0) hx hb dX9_either_8 (by decide) ?_
    exact z_zret hx hb hr (by decide) hK hS (Nat.le_of_ble_eq_true rfl) (Nat.le_of_ble_eq_true rfl) hlocks dX9_either_9 (shC c, ad, I1, JX, PC c ad) hW ⟨I1, rfl, ⟨(by show 0 ≤ (I1 12 1).toInt ∧ (I1 12 1).toInt ≤ 500; exact hI1R.1), (by show 0 ≤ (I1 12 5).toInt ∧ (I1 12 5).toInt ≤ 501; exact hI1R.2.1), (by show (-1) ≤ (I1 12 6).toInt ∧ (I1 12 6).toInt ≤ 1000000; exact hI1R.2.2.1), (by show 0 ≤ (I1 12 9).toInt ∧ (I1 12 9).toInt ≤ 500; exact hI1R.2.2.2.1), (by show 0 ≤ (I1 12 13).toInt ∧ (I1 12 13).toInt ≤ 24; exact hI1R.2.2.2.2)⟩, (by show (I1 12 6).toInt ≤ 501 ∧ ((I1 12 7).toInt = 401 ∨ (I1 12 6).toInt ≤ 500); first | omega | decide), f2, (Or.inr ⟨rfl, f87, hF91, (zp_L4 (by decide) (Or.inr (Or.inr (Or.inl rfl))) hb90)⟩)⟩
noncomputable def L_X9_atom_2x : z_L := [(12, 6), (12, 7), (17, 999), (12, 9)]
set_option maxHeartbeats 8000000 in
set_option maxRecDepth 100000 in
theorem sx_X9_atom_2x (l : Launch) (G : z_G) (ad : Nat → Nat) (c : z_C) (I : z_I) (hR : z_iR I) (hT : z_iT I) (k : Nat) (hP : zr_P I k) : z_M l yX9_atom wsX9_atom { frames := 54, cells := 0, slots := 0, locals := 1209 } [.ref (ad 12), .int 2] G (shC c, ad, I, JX, PC c ad) (fun r u1 => ∃ I1 : z_I, u1 = (shC c, ad, I1, JX, PC c ad) ∧ z_iR I1 ∧ z_iT I1 ∧ z_fr L_X9_atom_2x I1 I ∧ ((r = 1 ∧ zr_ok 2 2 I I1 k) ∨ (r = 0 ∧ zr_no 2 2 I I1 k))) 0 0 := by
  intro sz
  refine z_headQ (cc := cX9_atom) (maxL := 3) (ret := (some .boolean)) (by decide) rfl (Nat.le_of_ble_eq_true rfl) ?_
  intro p e s m below meth c0 ls hIn hK hsz hW hl
  obtain ⟨hx, hb, hr, hml, hown, hts, hlocks, hname⟩ := hIn
  subst hsz
  have hown : s.vm.findClass RX9 = some m.cls := hown
  have hA : ∀ q : Nat, s.heap.size ≤ q → z_A (shC c, ad, I, JX, PC c ad) s.heap.size q := fun q h => Or.inr h
  generalize hAe : z_A (shC c, ad, I, JX, PC c ad) s.heap.size = A at *
  have hS : va_S A s.heap s.heap [] := va_S.rf
  have hl : lv_has ls 3 [(0, .ref (ad 12)), (1, .int 2)] := hl
  have hM0 := zr_M_0 hP
  have hP1 := hP.1
  have hP2 := hP.2.1
  have hP3 := hP.2.2.1
  have hP4 := hP.2.2.2.1
  have hP5 := hP.2.2.2.2.1
  have hP6 := hP.2.2.2.2.2.1
  have hlz : ([] : List Int).length = 0 := rfl
  have kT : (I 12 6).toInt ≤ 501 ∧ ((I 12 7).toInt = 401 ∨ (I 12 6).toInt ≤ 500) := hT
  refine lv_aload_n hx hb dX9_atom_0 rfl (lv_at hl 0 rfl) ?_
  refine z_get (T := TX9) (N := 14) (ci := 9) (i := 12) (v := .int (I 12 7)) hx hb hts zj_X9_atom_X9 hown hK hW rfl rfl 7 (by decide) (hts (.fieldLink RX9 62 "PetrolBoard$Reader" "token" "I") (me_s (me_l (me_l (List.mem_of_getElem? (i := 0) rfl))))) (fun _ h => h) rfl dX9_atom_1 ?_
  refine lv_sipush (v := 400) hx hb dX9_atom_4 (by decide) ?_
  refine lv_icmp_eq (tgt := 30) hx hb dX9_atom_7 (by decide) (fun c1 => ?_) (fun c1 => ?_)
  · have g2 := z_f_eq rfl z_l400 c1
    have b3 := Int32.toInt_lt (I 12 7)
    refine lv_aload_n hx hb dX9_atom_30 rfl (lv_at hl 0 rfl) ?_
    refine lv_aload_n hx hb dX9_atom_31 rfl (lv_at hl 0 rfl) ?_
    refine z_get (T := TX9) (N := 14) (ci := 9) (i := 12) (v := .int (I 12 7)) hx hb hts zj_X9_atom_X9 hown hK hW rfl rfl 7 (by decide) (hts (.fieldLink RX9 62 "PetrolBoard$Reader" "token" "I") (me_s (me_l (me_l (List.mem_of_getElem? (i := 0) rfl))))) (fun _ h => h) rfl dX9_atom_32 ?_
    refine lv_sipush (v := 400) hx hb dX9_atom_35 (by decide) ?_
    refine lv_icmp_ne (tgt := 48) hx hb dX9_atom_38 (by decide) (fun c4 => (by have g := z_f_ne rfl z_l400 c4; omega)) (fun c4 => ?_)
    have g5 := z_f_eq rfl z_l400 c4
    refine lv_aload_n hx hb dX9_atom_41 rfl (lv_at hl 0 rfl) ?_
    refine z_ci hW hS hA (va_runV (As := []) (rest := [.ref (ad 12)]) ⟨hx, hb, hml, hown, hts⟩ (sx_X9_numberHere_x l G ad c I ⟨(by show 0 ≤ (I 12 1).toInt ∧ (I 12 1).toInt ≤ 500; exact hR.1), (by show 0 ≤ (I 12 5).toInt ∧ (I 12 5).toInt ≤ 501; exact hR.2.1), (by show (-1) ≤ (I 12 6).toInt ∧ (I 12 6).toInt ≤ 1000000; exact hR.2.2.1), (by show 0 ≤ (I 12 9).toInt ∧ (I 12 9).toInt ≤ 500; exact hR.2.2.2.1), (by show 0 ≤ (I 12 13).toInt ∧ (I 12 13).toInt ≤ 24; exact hR.2.2.2.2)⟩ k  (zr_P_m hP hM0 (by omega))  _) (cwV 0 hts gX9_atom_X9_numberHere rfl rfl rfl (by decide +kernel) ⟨Nat.le_of_ble_eq_true rfl, Nat.le_of_ble_eq_true rfl⟩) (z_preV (i := 12) hK hW rfl rfl) rfl rfl hl.1 rfl (lv_room (Nat.le_of_ble_eq_true rfl)) dX9_atom_42 ⟨Nat.le_of_ble_eq_true rfl, Nat.le_of_ble_eq_true rfl⟩) (fun r u1 H locs hp hW hS => ?_)
    obtain ⟨e9, hp⟩ := hp
    rw [e9] at hW
    refine lv_topi (fun x6 ex6 => ?_)
    have h7 := hp
    rw [← ex6, zr_vaS hM0] at h7
    refine lv_goto (tgt := 59) hx hb dX9_atom_45 (by decide) ?_
    have h8 := hP.2.2.2.2.2.2 k hP.2.1 (by omega)
    refine z_cv hW hS hA (va_runV (As := [.int x6]) (rest := []) ⟨hx, hb, hml, hown, hts⟩ (sx_X9_emit_x l G ad c I ⟨(by show 0 ≤ (I 12 1).toInt ∧ (I 12 1).toInt ≤ 500; exact hR.1), (by show 0 ≤ (I 12 5).toInt ∧ (I 12 5).toInt ≤ 501; exact hR.2.1), (by show (-1) ≤ (I 12 6).toInt ∧ (I 12 6).toInt ≤ 1000000; exact hR.2.2.1), (by show 0 ≤ (I 12 9).toInt ∧ (I 12 9).toInt ≤ 500; exact hR.2.2.2.1), (by show 0 ≤ (I 12 13).toInt ∧ (I 12 13).toInt ≤ 24; exact hR.2.2.2.2)⟩ x6 (by omega) _) (cwV 1 hts gX9_atom_X9_emit rfl rfl rfl (by decide +kernel) ⟨Nat.le_of_ble_eq_true rfl, Nat.le_of_ble_eq_true rfl⟩) (z_preV (i := 12) hK hW rfl rfl) rfl rfl hl.1 rfl (lv_room (Nat.le_of_ble_eq_true rfl)) dX9_atom_59 ⟨Nat.le_of_ble_eq_true rfl, Nat.le_of_ble_eq_true rfl⟩) (fun u1 H locs hp hW hS => ?_)
    obtain ⟨I9, e9, hI9R, fI9, hp⟩ := hp
    rw [e9] at hW
    have f10 := z_fr_sub (L := L_X9_atom_2x) z_fr_0 fI9 (by decide)
    have k11 : (I9 12 6).toInt ≤ 501 ∧ ((I9 12 7).toInt = 401 ∨ (I9 12 6).toInt ≤ 500) := (by have q0 : (I9 12 6) = (I 12 6) := (by rw [fI9 12 6 (by decide)]); have q1 : (I9 12 7) = (I 12 7) := (by rw [fI9 12 7 (by decide)]); show (I9 12 6).toInt ≤ 501 ∧ ((I9 12 7).toInt = 401 ∨ (I9 12 6).toInt ≤ 500); rw [q0, q1]; first | omega | decide)
    have hM12 := (show zr_M I I9 k [zr_va I k] from zr_M_e hM0 hp h7 hP.2.2.2.2.1)
    have h13 := hM12.1
    have h14 := hM12.2.1
    have h15 := hM12.2.2.1
    have h16 := hM12.2.2.2.1
    have l17 : ([zr_va I k]).length = 1 := by first | rfl | (simp only [List.length_append, List.length_cons, List.length_nil] <;> omega)
    refine lv_aload_n hx hb dX9_atom_62 rfl (lv_at hl 0 rfl) ?_
    have q18 := zr_Q_n (zr_Q_m hP hM12) (by rw [zr_tkS hM12]; omega)
    refine z_cv hW hS hA (va_runV (As := []) (rest := []) ⟨hx, hb, hml, hown, hts⟩ (sx_X9_step_x l G ad c I9 ⟨(by show 0 ≤ (I9 12 1).toInt ∧ (I9 12 1).toInt ≤ 500; exact hI9R.1), (by show 0 ≤ (I9 12 5).toInt ∧ (I9 12 5).toInt ≤ 501; exact hI9R.2.1), (by show (-1) ≤ (I9 12 6).toInt ∧ (I9 12 6).toInt ≤ 1000000; exact hI9R.2.2.1), (by show 0 ≤ (I9 12 9).toInt ∧ (I9 12 9).toInt ≤ 500; exact hI9R.2.2.2.1), (by show 0 ≤ (I9 12 13).toInt ∧ (I9 12 13).toInt ≤ 24; exact hI9R.2.2.2.2)⟩ (k + 1) q18 _) (cwV 0 hts gX9_atom_X9_step rfl rfl rfl (by decide +kernel) ⟨Nat.le_of_ble_eq_true rfl, Nat.le_of_ble_eq_true rfl⟩) (z_preV (i := 12) hK hW rfl rfl) rfl rfl hl.1 rfl (lv_room (Nat.le_of_ble_eq_true rfl)) dX9_atom_63 ⟨Nat.le_of_ble_eq_true rfl, Nat.le_of_ble_eq_true rfl⟩) (fun u1 H locs hp hW hS => ?_)
    obtain ⟨I19, e9, hI19R, hI19T, fI19, hp⟩ := hp
    rw [e9] at hW
    have f20 := z_fr_sub (L := L_X9_atom_2x) f10 fI19 (by decide)
    have k21 : (I19 12 6).toInt ≤ 501 ∧ ((I19 12 7).toInt = 401 ∨ (I19 12 6).toInt ≤ 500) := hI19T
    have hM22 := zr_M_s hM12 hp hP.2.2.2.2.1
    have h23 := hM22.1
    have h24 := hM22.2.1
    have h25 := hM22.2.2.1
    have h26 := hM22.2.2.2.1
    have l27 : ([zr_va I k]).length = 1 := by first | rfl | (simp only [List.length_append, List.length_cons, List.length_nil] <;> omega)
    refine lv_iconst (v := 1) hx hb dX9_atom_66 (by decide) ?_
    exact z_zret hx hb hr (by decide) hK hS (Nat.le_of_ble_eq_true rfl) (Nat.le_of_ble_eq_true rfl) hlocks dX9_atom_67 (shC c, ad, I19, JX, PC c ad) hW ⟨I19, rfl, ⟨(by show 0 ≤ (I19 12 1).toInt ∧ (I19 12 1).toInt ≤ 500; exact hI19R.1), (by show 0 ≤ (I19 12 5).toInt ∧ (I19 12 5).toInt ≤ 501; exact hI19R.2.1), (by show (-1) ≤ (I19 12 6).toInt ∧ (I19 12 6).toInt ≤ 1000000; exact hI19R.2.2.1), (by show 0 ≤ (I19 12 9).toInt ∧ (I19 12 9).toInt ≤ 500; exact hI19R.2.2.2.1), (by show 0 ≤ (I19 12 13).toInt ∧ (I19 12 13).toInt ≤ 24; exact hI19R.2.2.2.2)⟩, (by show (I19 12 6).toInt ≤ 501 ∧ ((I19 12 7).toInt = 401 ∨ (I19 12 6).toInt ≤ 500); first | omega | decide), f20, (Or.inl ⟨rfl, zr_ok_of hM22 rfl (by omega) (by omega) (zp_A1 (by omega))⟩)⟩
  · have g28 := z_f_ne rfl z_l400 c1
    have b29 := Int32.toInt_lt (I 12 7)
    refine lv_aload_n hx hb dX9_atom_10 rfl (lv_at hl 0 rfl) ?_
    refine z_get (T := TX9) (N := 14) (ci := 9) (i := 12) (v := .int (I 12 7)) hx hb hts zj_X9_atom_X9 hown hK hW rfl rfl 7 (by decide) (hts (.fieldLink RX9 62 "PetrolBoard$Reader" "token" "I") (me_s (me_l (me_l (List.mem_of_getElem? (i := 0) rfl))))) (fun _ h => h) rfl dX9_atom_11 ?_
    refine lv_sipush (v := 314) hx hb dX9_atom_14 (by decide) ?_
    refine lv_icmp_lt (tgt := 68) hx hb dX9_atom_17 (by decide) (fun c30 => ?_) (fun c30 => ?_)
    · have g31 := z_f_lt rfl z_l314 c30
      refine lv_aload_n hx hb dX9_atom_68 rfl (lv_at hl 0 rfl) ?_
      refine z_get (T := TX9) (N := 14) (ci := 9) (i := 12) (v := .int (I 12 7)) hx hb hts zj_X9_atom_X9 hown hK hW rfl rfl 7 (by decide) (hts (.fieldLink RX9 62 "PetrolBoard$Reader" "token" "I") (me_s (me_l (me_l (List.mem_of_getElem? (i := 0) rfl))))) (fun _ h => h) rfl dX9_atom_69 ?_
      refine lv_istore_n (lv' := [(2, .int (I 12 7)), (0, .ref (ad 12)), (1, .int 2)]) hx hb dX9_atom_72 rfl hl (by decide) rfl (fun ls hl => ?_)
      refine lv_iload_n hx hb dX9_atom_73 rfl (lv_at hl 0 rfl) ?_
      refine lv_bipush (v := 40) hx hb dX9_atom_74 (by decide) ?_
      refine lv_icmp_eq (tgt := 93) hx hb dX9_atom_76 (by decide) (fun c32 => ?_) (fun c32 => ?_)
      · have g33 := z_f_eq rfl z_l40 c32
        refine lv_iload_n hx hb dX9_atom_93 rfl (lv_at hl 2 rfl) ?_
        refine lv_bipush (v := 9) hx hb dX9_atom_94 (by decide) ?_
        refine lv_icmp_lt (tgt := 101) hx hb dX9_atom_96 (by decide) (fun c34 => ?_) (fun c34 => absurd (by decide) c34)
        refine lv_aload_n hx hb dX9_atom_101 rfl (lv_at hl 1 rfl) ?_
        have q35 := zr_Q_n (zr_Q_m hP hM0) (by rw [zr_tkS hM0]; omega)
        refine z_cv hW hS hA (va_runV (As := []) (rest := []) ⟨hx, hb, hml, hown, hts⟩ (sx_X9_step_x l G ad c I ⟨(by show 0 ≤ (I 12 1).toInt ∧ (I 12 1).toInt ≤ 500; exact hR.1), (by show 0 ≤ (I 12 5).toInt ∧ (I 12 5).toInt ≤ 501; exact hR.2.1), (by show (-1) ≤ (I 12 6).toInt ∧ (I 12 6).toInt ≤ 1000000; exact hR.2.2.1), (by show 0 ≤ (I 12 9).toInt ∧ (I 12 9).toInt ≤ 500; exact hR.2.2.2.1), (by show 0 ≤ (I 12 13).toInt ∧ (I 12 13).toInt ≤ 24; exact hR.2.2.2.2)⟩ (k + 1) q35 _) (cwV 0 hts gX9_atom_X9_step rfl rfl rfl (by decide +kernel) ⟨Nat.le_of_ble_eq_true rfl, Nat.le_of_ble_eq_true rfl⟩) (z_preV (i := 12) hK hW rfl rfl) rfl rfl hl.1 rfl (lv_room (Nat.le_of_ble_eq_true rfl)) dX9_atom_102 ⟨Nat.le_of_ble_eq_true rfl, Nat.le_of_ble_eq_true rfl⟩) (fun u1 H locs hp hW hS => ?_)
        obtain ⟨I36, e9, hI36R, hI36T, fI36, hp⟩ := hp
        rw [e9] at hW
        have f37 := z_fr_sub (L := L_X9_atom_2x) z_fr_0 fI36 (by decide)
        have k38 : (I36 12 6).toInt ≤ 501 ∧ ((I36 12 7).toInt = 401 ∨ (I36 12 6).toInt ≤ 500) := hI36T
        have hM39 := zr_M_s hM0 hp hP.2.2.2.2.1
        have h40 := hM39.1
        have h41 := hM39.2.1
        have h42 := hM39.2.2.1
        have h43 := hM39.2.2.2.1
        have l44 : (([] : List Int) : List Int).length = 0 := rfl
        refine lv_iload_n hx hb dX9_atom_105 rfl (lv_at hl 0 rfl) ?_
        refine lv_bipush (v := 40) hx hb dX9_atom_106 (by decide) ?_
        refine lv_icmp_ne (tgt := 136) hx hb dX9_atom_108 (by decide) (fun c45 => (by have g := z_f_ne rfl z_l40 c45; omega)) (fun c45 => ?_)
        have g46 := z_f_eq rfl z_l40 c45
        refine lv_aload_n hx hb dX9_atom_111 rfl (lv_at hl 1 rfl) ?_
        refine lv_iload_n hx hb dX9_atom_112 rfl (lv_at hl 2 rfl) ?_
        refine lv_iconst (v := 1) hx hb dX9_atom_113 (by decide) ?_
        refine lv_iadd hx hb dX9_atom_114 ?_
        refine z_topi (v := 3) (by decide) ?_
        refine z_ci hW hS hA (va_runV (As := [.int 3]) (rest := []) ⟨hx, hb, hml, hown, hts⟩ (sx_X9_sum_3x l G ad c I36 ⟨(by show 0 ≤ (I36 12 1).toInt ∧ (I36 12 1).toInt ≤ 500; exact hI36R.1), (by show 0 ≤ (I36 12 5).toInt ∧ (I36 12 5).toInt ≤ 501; exact hI36R.2.1), (by show (-1) ≤ (I36 12 6).toInt ∧ (I36 12 6).toInt ≤ 1000000; exact hI36R.2.2.1), (by show 0 ≤ (I36 12 9).toInt ∧ (I36 12 9).toInt ≤ 500; exact hI36R.2.2.2.1), (by show 0 ≤ (I36 12 13).toInt ∧ (I36 12 13).toInt ≤ 24; exact hI36R.2.2.2.2)⟩ (by show (I36 12 6).toInt ≤ 501 ∧ ((I36 12 7).toInt = 401 ∨ (I36 12 6).toInt ≤ 500); first | omega | decide) (k + 1) (zr_P_m hP hM39 (by omega)) _) (cwV 1 hts gX9_atom_X9_sum rfl rfl rfl (by decide +kernel) ⟨Nat.le_of_ble_eq_true rfl, Nat.le_of_ble_eq_true rfl⟩) (z_preV (i := 12) hK hW rfl rfl) rfl rfl hl.1 rfl (lv_room (Nat.le_of_ble_eq_true rfl)) dX9_atom_115 ⟨Nat.le_of_ble_eq_true rfl, Nat.le_of_ble_eq_true rfl⟩) (fun r u1 H locs hp hW hS => ?_)
        obtain ⟨I47, e9, hI47R, hI47T, fI47, hp⟩ := hp
        rw [e9] at hW
        have f48 := z_fr_sub (L := L_X9_atom_2x) f37 fI47 (by decide)
        have k49 : (I47 12 6).toInt ≤ 501 ∧ ((I47 12 7).toInt = 401 ∨ (I47 12 6).toInt ≤ 500) := hI47T
        rcases hp with ⟨rfl, hq⟩ | ⟨rfl, hq⟩
        · obtain ⟨k50, cs51, hm52, h53, h54, h55⟩ := hq
          have ho56 := zr_okS hM39 h55
          have hM57 := (show zr_M I I47 k50 cs51 from zr_M_t hM39 hm52 hP.2.2.2.2.1)
          have h58 := hM57.1
          have h59 := hM57.2.1
          have h60 := hM57.2.2.1
          have h61 := hM57.2.2.2.1
          have l62 : (cs51).length = cs51.length := by first | rfl | (simp only [List.length_append, List.length_cons, List.length_nil] <;> omega)
          refine lv_if_eq (tgt := 134) hx hb dX9_atom_118 (by decide) (fun c63 => absurd c63 (by decide)) (fun c63 => ?_)
          refine lv_aload_n hx hb dX9_atom_121 rfl (lv_at hl 1 rfl) ?_
          refine lv_bipush (v := 41) hx hb dX9_atom_122 (by decide) ?_
          refine z_ci hW hS hA (va_runV (As := [.int 41]) (rest := []) ⟨hx, hb, hml, hown, hts⟩ (sx_X9_taken_x l G ad c I47 ⟨(by show 0 ≤ (I47 12 1).toInt ∧ (I47 12 1).toInt ≤ 500; exact hI47R.1), (by show 0 ≤ (I47 12 5).toInt ∧ (I47 12 5).toInt ≤ 501; exact hI47R.2.1), (by show (-1) ≤ (I47 12 6).toInt ∧ (I47 12 6).toInt ≤ 1000000; exact hI47R.2.2.1), (by show 0 ≤ (I47 12 9).toInt ∧ (I47 12 9).toInt ≤ 500; exact hI47R.2.2.2.1), (by show 0 ≤ (I47 12 13).toInt ∧ (I47 12 13).toInt ≤ 24; exact hI47R.2.2.2.2)⟩ (by show (I47 12 6).toInt ≤ 501 ∧ ((I47 12 7).toInt = 401 ∨ (I47 12 6).toInt ≤ 500); first | omega | decide) k50 41 (zr_P_m hP hM57 (by omega)) (by first | omega | decide) _) (cwV 1 hts gX9_atom_X9_taken rfl rfl rfl (by decide +kernel) ⟨Nat.le_of_ble_eq_true rfl, Nat.le_of_ble_eq_true rfl⟩) (z_preV (i := 12) hK hW rfl rfl) rfl rfl hl.1 rfl (lv_room (Nat.le_of_ble_eq_true rfl)) dX9_atom_124 ⟨Nat.le_of_ble_eq_true rfl, Nat.le_of_ble_eq_true rfl⟩) (fun r u1 H locs hp hW hS => ?_)
          obtain ⟨I64, e9, hI64R, hI64T, fI64, hp⟩ := hp
          rw [e9] at hW
          have f65 := z_fr_sub (L := L_X9_atom_2x) f48 fI64 (by decide)
          have k66 : (I64 12 6).toInt ≤ 501 ∧ ((I64 12 7).toInt = 401 ∨ (I64 12 6).toInt ≤ 500) := hI64T
          rcases hp with ⟨rfl, h67, h68⟩ | ⟨rfl, h67, h68⟩
          · rw [zr_tkS hM57] at h67
            have z69 := z_l41
            have hM70 := zr_M_s hM57 h68 hP.2.2.2.2.1
            have h71 := hM70.1
            have h72 := hM70.2.1
            have h73 := hM70.2.2.1
            have h74 := hM70.2.2.2.1
            have l75 : (cs51).length = cs51.length := by first | rfl | (simp only [List.length_append, List.length_cons, List.length_nil] <;> omega)
            refine lv_if_eq (tgt := 134) hx hb dX9_atom_127 (by decide) (fun c76 => absurd c76 (by decide)) (fun c76 => ?_)
            refine lv_iconst (v := 1) hx hb dX9_atom_130 (by decide) ?_
            refine lv_goto (tgt := 135) hx hb dX9_atom_131 (by decide) ?_
            exact z_zret hx hb hr (by decide) hK hS (Nat.le_of_ble_eq_true rfl) (Nat.le_of_ble_eq_true rfl) hlocks dX9_atom_135 (shC c, ad, I64, JX, PC c ad) hW ⟨I64, rfl, ⟨(by show 0 ≤ (I64 12 1).toInt ∧ (I64 12 1).toInt ≤ 500; exact hI64R.1), (by show 0 ≤ (I64 12 5).toInt ∧ (I64 12 5).toInt ≤ 501; exact hI64R.2.1), (by show (-1) ≤ (I64 12 6).toInt ∧ (I64 12 6).toInt ≤ 1000000; exact hI64R.2.2.1), (by show 0 ≤ (I64 12 9).toInt ∧ (I64 12 9).toInt ≤ 500; exact hI64R.2.2.2.1), (by show 0 ≤ (I64 12 13).toInt ∧ (I64 12 13).toInt ≤ 24; exact hI64R.2.2.2.2)⟩, (by show (I64 12 6).toInt ≤ 501 ∧ ((I64 12 7).toInt = 401 ∨ (I64 12 6).toInt ≤ 500); first | omega | decide), f65, (Or.inl ⟨rfl, zr_ok_of hM70 rfl (by omega) (by omega) (zp_A4 (by decide) (by omega) (by decide) ho56 (by omega))⟩)⟩
          · rw [zr_tkS hM57] at h67
            have z77 := z_l41
            have hM78 := zr_M_s hM57 h68 hP.2.2.2.2.1
            have h79 := hM78.1
            have h80 := hM78.2.1
            have h81 := hM78.2.2.1
            have h82 := hM78.2.2.2.1
            have l83 : (cs51).length = cs51.length := by first | rfl | (simp only [List.length_append, List.length_cons, List.length_nil] <;> omega)
            refine lv_if_eq (tgt := 134) hx hb dX9_atom_127 (by decide) (fun c84 => ?_) (fun c84 => absurd (by decide) c84)
            refine lv_iconst (v := 0) hx hb dX9_atom_134 (by decide) ?_
            exact z_zret hx hb hr (by decide) hK hS (Nat.le_of_ble_eq_true rfl) (Nat.le_of_ble_eq_true rfl) hlocks dX9_atom_135 (shC c, ad, I64, JX, PC c ad) hW ⟨I64, rfl, ⟨(by show 0 ≤ (I64 12 1).toInt ∧ (I64 12 1).toInt ≤ 500; exact hI64R.1), (by show 0 ≤ (I64 12 5).toInt ∧ (I64 12 5).toInt ≤ 501; exact hI64R.2.1), (by show (-1) ≤ (I64 12 6).toInt ∧ (I64 12 6).toInt ≤ 1000000; exact hI64R.2.2.1), (by show 0 ≤ (I64 12 9).toInt ∧ (I64 12 9).toInt ≤ 500; exact hI64R.2.2.2.1), (by show 0 ≤ (I64 12 13).toInt ∧ (I64 12 13).toInt ≤ 24; exact hI64R.2.2.2.2)⟩, (by show (I64 12 6).toInt ≤ 501 ∧ ((I64 12 7).toInt = 401 ∨ (I64 12 6).toInt ≤ 500); first | omega | decide), f65, (Or.inr ⟨rfl, k50, (zr_F_0 hM78), (zp_A5 (by decide) (by omega) (by decide) ho56 (by omega))⟩)⟩
        · obtain ⟨f85, hf86, h87⟩ := hq
          have hb88 := zr_noS hM39 h87
          have hF89 := zr_F_m hM39 hf86
          refine lv_if_eq (tgt := 134) hx hb dX9_atom_118 (by decide) (fun c90 => ?_) (fun c90 => absurd (by decide) c90)
          refine lv_iconst (v := 0) hx hb dX9_atom_134 (by decide) ?_
          exact z_zret hx hb hr (by decide) hK hS (Nat.le_of_ble_eq_true rfl) (Nat.le_of_ble_eq_true rfl) hlocks dX9_atom_135 (shC c, ad, I47, JX, PC c ad) hW ⟨I47, rfl, ⟨(by show 0 ≤ (I47 12 1).toInt ∧ (I47 12 1).toInt ≤ 500; exact hI47R.1), (by show 0 ≤ (I47 12 5).toInt ∧ (I47 12 5).toInt ≤ 501; exact hI47R.2.1), (by show (-1) ≤ (I47 12 6).toInt ∧ (I47 12 6).toInt ≤ 1000000; exact hI47R.2.2.1), (by show 0 ≤ (I47 12 9).toInt ∧ (I47 12 9).toInt ≤ 500; exact hI47R.2.2.2.1), (by show 0 ≤ (I47 12 13).toInt ∧ (I47 12 13).toInt ≤ 24; exact hI47R.2.2.2.2)⟩, (by show (I47 12 6).toInt ≤ 501 ∧ ((I47 12 7).toInt = 401 ∨ (I47 12 6).toInt ≤ 500); first | omega | decide), f48, (Or.inr ⟨rfl, f85, hF89, (zp_A6 (by decide) (by omega) (by decide) hb88)⟩)⟩
      · have g91 := z_f_ne rfl z_l40 c32
        refine lv_iload_n hx hb dX9_atom_79 rfl (lv_at hl 0 rfl) ?_
        refine lv_sipush (v := 312) hx hb dX9_atom_80 (by decide) ?_
        refine lv_icmp_eq (tgt := 93) hx hb dX9_atom_83 (by decide) (fun c92 => ?_) (fun c92 => ?_)
        · have g93 := z_f_eq rfl z_l312 c92
          refine lv_iload_n hx hb dX9_atom_93 rfl (lv_at hl 2 rfl) ?_
          refine lv_bipush (v := 9) hx hb dX9_atom_94 (by decide) ?_
          refine lv_icmp_lt (tgt := 101) hx hb dX9_atom_96 (by decide) (fun c94 => ?_) (fun c94 => absurd (by decide) c94)
          refine lv_aload_n hx hb dX9_atom_101 rfl (lv_at hl 1 rfl) ?_
          have q95 := zr_Q_n (zr_Q_m hP hM0) (by rw [zr_tkS hM0]; omega)
          refine z_cv hW hS hA (va_runV (As := []) (rest := []) ⟨hx, hb, hml, hown, hts⟩ (sx_X9_step_x l G ad c I ⟨(by show 0 ≤ (I 12 1).toInt ∧ (I 12 1).toInt ≤ 500; exact hR.1), (by show 0 ≤ (I 12 5).toInt ∧ (I 12 5).toInt ≤ 501; exact hR.2.1), (by show (-1) ≤ (I 12 6).toInt ∧ (I 12 6).toInt ≤ 1000000; exact hR.2.2.1), (by show 0 ≤ (I 12 9).toInt ∧ (I 12 9).toInt ≤ 500; exact hR.2.2.2.1), (by show 0 ≤ (I 12 13).toInt ∧ (I 12 13).toInt ≤ 24; exact hR.2.2.2.2)⟩ (k + 1) q95 _) (cwV 0 hts gX9_atom_X9_step rfl rfl rfl (by decide +kernel) ⟨Nat.le_of_ble_eq_true rfl, Nat.le_of_ble_eq_true rfl⟩) (z_preV (i := 12) hK hW rfl rfl) rfl rfl hl.1 rfl (lv_room (Nat.le_of_ble_eq_true rfl)) dX9_atom_102 ⟨Nat.le_of_ble_eq_true rfl, Nat.le_of_ble_eq_true rfl⟩) (fun u1 H locs hp hW hS => ?_)
          obtain ⟨I96, e9, hI96R, hI96T, fI96, hp⟩ := hp
          rw [e9] at hW
          have f97 := z_fr_sub (L := L_X9_atom_2x) z_fr_0 fI96 (by decide)
          have k98 : (I96 12 6).toInt ≤ 501 ∧ ((I96 12 7).toInt = 401 ∨ (I96 12 6).toInt ≤ 500) := hI96T
          have hM99 := zr_M_s hM0 hp hP.2.2.2.2.1
          have h100 := hM99.1
          have h101 := hM99.2.1
          have h102 := hM99.2.2.1
          have h103 := hM99.2.2.2.1
          have l104 : (([] : List Int) : List Int).length = 0 := rfl
          refine lv_iload_n hx hb dX9_atom_105 rfl (lv_at hl 0 rfl) ?_
          refine lv_bipush (v := 40) hx hb dX9_atom_106 (by decide) ?_
          refine lv_icmp_ne (tgt := 136) hx hb dX9_atom_108 (by decide) (fun c105 => ?_) (fun c105 => (by have g := z_f_eq rfl z_l40 c105; omega))
          have g106 := z_f_ne rfl z_l40 c105
          refine lv_aload_n hx hb dX9_atom_136 rfl (lv_at hl 1 rfl) ?_
          refine lv_bipush (v := 40) hx hb dX9_atom_137 (by decide) ?_
          refine z_ci hW hS hA (va_runV (As := [.int 40]) (rest := []) ⟨hx, hb, hml, hown, hts⟩ (sx_X9_taken_x l G ad c I96 ⟨(by show 0 ≤ (I96 12 1).toInt ∧ (I96 12 1).toInt ≤ 500; exact hI96R.1), (by show 0 ≤ (I96 12 5).toInt ∧ (I96 12 5).toInt ≤ 501; exact hI96R.2.1), (by show (-1) ≤ (I96 12 6).toInt ∧ (I96 12 6).toInt ≤ 1000000; exact hI96R.2.2.1), (by show 0 ≤ (I96 12 9).toInt ∧ (I96 12 9).toInt ≤ 500; exact hI96R.2.2.2.1), (by show 0 ≤ (I96 12 13).toInt ∧ (I96 12 13).toInt ≤ 24; exact hI96R.2.2.2.2)⟩ (by show (I96 12 6).toInt ≤ 501 ∧ ((I96 12 7).toInt = 401 ∨ (I96 12 6).toInt ≤ 500); first | omega | decide) (k + 1) 40 (zr_P_m hP hM99 (by omega)) (by first | omega | decide) _) (cwV 1 hts gX9_atom_X9_taken rfl rfl rfl (by decide +kernel) ⟨Nat.le_of_ble_eq_true rfl, Nat.le_of_ble_eq_true rfl⟩) (z_preV (i := 12) hK hW rfl rfl) rfl rfl hl.1 rfl (lv_room (Nat.le_of_ble_eq_true rfl)) dX9_atom_139 ⟨Nat.le_of_ble_eq_true rfl, Nat.le_of_ble_eq_true rfl⟩) (fun r u1 H locs hp hW hS => ?_)
          obtain ⟨I107, e9, hI107R, hI107T, fI107, hp⟩ := hp
          rw [e9] at hW
          have f108 := z_fr_sub (L := L_X9_atom_2x) f97 fI107 (by decide)
          have k109 : (I107 12 6).toInt ≤ 501 ∧ ((I107 12 7).toInt = 401 ∨ (I107 12 6).toInt ≤ 500) := hI107T
          rcases hp with ⟨rfl, h110, h111⟩ | ⟨rfl, h110, h111⟩
          · rw [zr_tkS hM99] at h110
            have z112 := z_l40
            have hM113 := zr_M_s hM99 h111 hP.2.2.2.2.1
            have h114 := hM113.1
            have h115 := hM113.2.1
            have h116 := hM113.2.2.1
            have h117 := hM113.2.2.2.1
            have l118 : (([] : List Int) : List Int).length = 0 := rfl
            refine lv_if_eq (tgt := 183) hx hb dX9_atom_142 (by decide) (fun c119 => absurd c119 (by decide)) (fun c119 => ?_)
            refine lv_aload_n hx hb dX9_atom_145 rfl (lv_at hl 1 rfl) ?_
            refine lv_iload_n hx hb dX9_atom_146 rfl (lv_at hl 2 rfl) ?_
            refine lv_iconst (v := 1) hx hb dX9_atom_147 (by decide) ?_
            refine lv_iadd hx hb dX9_atom_148 ?_
            refine z_topi (v := 3) (by decide) ?_
            refine z_ci hW hS hA (va_runV (As := [.int 3]) (rest := []) ⟨hx, hb, hml, hown, hts⟩ (sx_X9_sum_3x l G ad c I107 ⟨(by show 0 ≤ (I107 12 1).toInt ∧ (I107 12 1).toInt ≤ 500; exact hI107R.1), (by show 0 ≤ (I107 12 5).toInt ∧ (I107 12 5).toInt ≤ 501; exact hI107R.2.1), (by show (-1) ≤ (I107 12 6).toInt ∧ (I107 12 6).toInt ≤ 1000000; exact hI107R.2.2.1), (by show 0 ≤ (I107 12 9).toInt ∧ (I107 12 9).toInt ≤ 500; exact hI107R.2.2.2.1), (by show 0 ≤ (I107 12 13).toInt ∧ (I107 12 13).toInt ≤ 24; exact hI107R.2.2.2.2)⟩ (by show (I107 12 6).toInt ≤ 501 ∧ ((I107 12 7).toInt = 401 ∨ (I107 12 6).toInt ≤ 500); first | omega | decide) ((k + 1) + 1) (zr_P_m hP hM113 (by omega)) _) (cwV 1 hts gX9_atom_X9_sum rfl rfl rfl (by decide +kernel) ⟨Nat.le_of_ble_eq_true rfl, Nat.le_of_ble_eq_true rfl⟩) (z_preV (i := 12) hK hW rfl rfl) rfl rfl hl.1 rfl (lv_room (Nat.le_of_ble_eq_true rfl)) dX9_atom_149 ⟨Nat.le_of_ble_eq_true rfl, Nat.le_of_ble_eq_true rfl⟩) (fun r u1 H locs hp hW hS => ?_)
            obtain ⟨I120, e9, hI120R, hI120T, fI120, hp⟩ := hp
            rw [e9] at hW
            have f121 := z_fr_sub (L := L_X9_atom_2x) f108 fI120 (by decide)
            have k122 : (I120 12 6).toInt ≤ 501 ∧ ((I120 12 7).toInt = 401 ∨ (I120 12 6).toInt ≤ 500) := hI120T
            rcases hp with ⟨rfl, hq⟩ | ⟨rfl, hq⟩
            · obtain ⟨k123, cs124, hm125, h126, h127, h128⟩ := hq
              have ho129 := zr_okS hM113 h128
              have hM130 := (show zr_M I I120 k123 cs124 from zr_M_t hM113 hm125 hP.2.2.2.2.1)
              have h131 := hM130.1
              have h132 := hM130.2.1
              have h133 := hM130.2.2.1
              have h134 := hM130.2.2.2.1
              have l135 : (cs124).length = cs124.length := by first | rfl | (simp only [List.length_append, List.length_cons, List.length_nil] <;> omega)
              refine lv_if_eq (tgt := 183) hx hb dX9_atom_152 (by decide) (fun c136 => absurd c136 (by decide)) (fun c136 => ?_)
              refine lv_aload_n hx hb dX9_atom_155 rfl (lv_at hl 1 rfl) ?_
              refine lv_bipush (v := 44) hx hb dX9_atom_156 (by decide) ?_
              refine z_ci hW hS hA (va_runV (As := [.int 44]) (rest := []) ⟨hx, hb, hml, hown, hts⟩ (sx_X9_taken_x l G ad c I120 ⟨(by show 0 ≤ (I120 12 1).toInt ∧ (I120 12 1).toInt ≤ 500; exact hI120R.1), (by show 0 ≤ (I120 12 5).toInt ∧ (I120 12 5).toInt ≤ 501; exact hI120R.2.1), (by show (-1) ≤ (I120 12 6).toInt ∧ (I120 12 6).toInt ≤ 1000000; exact hI120R.2.2.1), (by show 0 ≤ (I120 12 9).toInt ∧ (I120 12 9).toInt ≤ 500; exact hI120R.2.2.2.1), (by show 0 ≤ (I120 12 13).toInt ∧ (I120 12 13).toInt ≤ 24; exact hI120R.2.2.2.2)⟩ (by show (I120 12 6).toInt ≤ 501 ∧ ((I120 12 7).toInt = 401 ∨ (I120 12 6).toInt ≤ 500); first | omega | decide) k123 44 (zr_P_m hP hM130 (by omega)) (by first | omega | decide) _) (cwV 1 hts gX9_atom_X9_taken rfl rfl rfl (by decide +kernel) ⟨Nat.le_of_ble_eq_true rfl, Nat.le_of_ble_eq_true rfl⟩) (z_preV (i := 12) hK hW rfl rfl) rfl rfl hl.1 rfl (lv_room (Nat.le_of_ble_eq_true rfl)) dX9_atom_158 ⟨Nat.le_of_ble_eq_true rfl, Nat.le_of_ble_eq_true rfl⟩) (fun r u1 H locs hp hW hS => ?_)
              obtain ⟨I137, e9, hI137R, hI137T, fI137, hp⟩ := hp
              rw [e9] at hW
              have f138 := z_fr_sub (L := L_X9_atom_2x) f121 fI137 (by decide)
              have k139 : (I137 12 6).toInt ≤ 501 ∧ ((I137 12 7).toInt = 401 ∨ (I137 12 6).toInt ≤ 500) := hI137T
              rcases hp with ⟨rfl, h140, h141⟩ | ⟨rfl, h140, h141⟩
              · rw [zr_tkS hM130] at h140
                have z142 := z_l44
                have hM143 := zr_M_s hM130 h141 hP.2.2.2.2.1
                have h144 := hM143.1
                have h145 := hM143.2.1
                have h146 := hM143.2.2.1
                have h147 := hM143.2.2.2.1
                have l148 : (cs124).length = cs124.length := by first | rfl | (simp only [List.length_append, List.length_cons, List.length_nil] <;> omega)
                refine lv_if_eq (tgt := 183) hx hb dX9_atom_161 (by decide) (fun c149 => absurd c149 (by decide)) (fun c149 => ?_)
                refine lv_aload_n hx hb dX9_atom_164 rfl (lv_at hl 1 rfl) ?_
                refine lv_iload_n hx hb dX9_atom_165 rfl (lv_at hl 2 rfl) ?_
                refine lv_iconst (v := 1) hx hb dX9_atom_166 (by decide) ?_
                refine lv_iadd hx hb dX9_atom_167 ?_
                refine z_topi (v := 3) (by decide) ?_
                refine z_ci hW hS hA (va_runV (As := [.int 3]) (rest := []) ⟨hx, hb, hml, hown, hts⟩ (sx_X9_sum_3x l G ad c I137 ⟨(by show 0 ≤ (I137 12 1).toInt ∧ (I137 12 1).toInt ≤ 500; exact hI137R.1), (by show 0 ≤ (I137 12 5).toInt ∧ (I137 12 5).toInt ≤ 501; exact hI137R.2.1), (by show (-1) ≤ (I137 12 6).toInt ∧ (I137 12 6).toInt ≤ 1000000; exact hI137R.2.2.1), (by show 0 ≤ (I137 12 9).toInt ∧ (I137 12 9).toInt ≤ 500; exact hI137R.2.2.2.1), (by show 0 ≤ (I137 12 13).toInt ∧ (I137 12 13).toInt ≤ 24; exact hI137R.2.2.2.2)⟩ (by show (I137 12 6).toInt ≤ 501 ∧ ((I137 12 7).toInt = 401 ∨ (I137 12 6).toInt ≤ 500); first | omega | decide) (k123 + 1) (zr_P_m hP hM143 (by omega)) _) (cwV 1 hts gX9_atom_X9_sum rfl rfl rfl (by decide +kernel) ⟨Nat.le_of_ble_eq_true rfl, Nat.le_of_ble_eq_true rfl⟩) (z_preV (i := 12) hK hW rfl rfl) rfl rfl hl.1 rfl (lv_room (Nat.le_of_ble_eq_true rfl)) dX9_atom_168 ⟨Nat.le_of_ble_eq_true rfl, Nat.le_of_ble_eq_true rfl⟩) (fun r u1 H locs hp hW hS => ?_)
                obtain ⟨I150, e9, hI150R, hI150T, fI150, hp⟩ := hp
                rw [e9] at hW
                have f151 := z_fr_sub (L := L_X9_atom_2x) f138 fI150 (by decide)
                have k152 : (I150 12 6).toInt ≤ 501 ∧ ((I150 12 7).toInt = 401 ∨ (I150 12 6).toInt ≤ 500) := hI150T
                rcases hp with ⟨rfl, hq⟩ | ⟨rfl, hq⟩
                · obtain ⟨k153, cs154, hm155, h156, h157, h158⟩ := hq
                  have ho159 := zr_okS hM143 h158
                  have hM160 := zr_M_t hM143 hm155 hP.2.2.2.2.1
                  have h161 := hM160.1
                  have h162 := hM160.2.1
                  have h163 := hM160.2.2.1
                  have h164 := hM160.2.2.2.1
                  have l165 : ((cs124 ++ cs154)).length = cs124.length + cs154.length := by first | rfl | (simp only [List.length_append, List.length_cons, List.length_nil] <;> omega)
                  refine lv_if_eq (tgt := 183) hx hb dX9_atom_171 (by decide) (fun c166 => absurd c166 (by decide)) (fun c166 => ?_)
                  refine lv_aload_n hx hb dX9_atom_174 rfl (lv_at hl 1 rfl) ?_
                  refine lv_bipush (v := 41) hx hb dX9_atom_175 (by decide) ?_
                  refine z_ci hW hS hA (va_runV (As := [.int 41]) (rest := []) ⟨hx, hb, hml, hown, hts⟩ (sx_X9_taken_x l G ad c I150 ⟨(by show 0 ≤ (I150 12 1).toInt ∧ (I150 12 1).toInt ≤ 500; exact hI150R.1), (by show 0 ≤ (I150 12 5).toInt ∧ (I150 12 5).toInt ≤ 501; exact hI150R.2.1), (by show (-1) ≤ (I150 12 6).toInt ∧ (I150 12 6).toInt ≤ 1000000; exact hI150R.2.2.1), (by show 0 ≤ (I150 12 9).toInt ∧ (I150 12 9).toInt ≤ 500; exact hI150R.2.2.2.1), (by show 0 ≤ (I150 12 13).toInt ∧ (I150 12 13).toInt ≤ 24; exact hI150R.2.2.2.2)⟩ (by show (I150 12 6).toInt ≤ 501 ∧ ((I150 12 7).toInt = 401 ∨ (I150 12 6).toInt ≤ 500); first | omega | decide) k153 41 (zr_P_m hP hM160 (by omega)) (by first | omega | decide) _) (cwV 1 hts gX9_atom_X9_taken rfl rfl rfl (by decide +kernel) ⟨Nat.le_of_ble_eq_true rfl, Nat.le_of_ble_eq_true rfl⟩) (z_preV (i := 12) hK hW rfl rfl) rfl rfl hl.1 rfl (lv_room (Nat.le_of_ble_eq_true rfl)) dX9_atom_177 ⟨Nat.le_of_ble_eq_true rfl, Nat.le_of_ble_eq_true rfl⟩) (fun r u1 H locs hp hW hS => ?_)
                  obtain ⟨I167, e9, hI167R, hI167T, fI167, hp⟩ := hp
                  rw [e9] at hW
                  have f168 := z_fr_sub (L := L_X9_atom_2x) f151 fI167 (by decide)
                  have k169 : (I167 12 6).toInt ≤ 501 ∧ ((I167 12 7).toInt = 401 ∨ (I167 12 6).toInt ≤ 500) := hI167T
                  rcases hp with ⟨rfl, h170, h171⟩ | ⟨rfl, h170, h171⟩
                  · rw [zr_tkS hM160] at h170
                    have z172 := z_l41
                    have hM173 := zr_M_s hM160 h171 hP.2.2.2.2.1
                    have h174 := hM173.1
                    have h175 := hM173.2.1
                    have h176 := hM173.2.2.1
                    have h177 := hM173.2.2.2.1
                    have l178 : ((cs124 ++ cs154)).length = cs124.length + cs154.length := by first | rfl | (simp only [List.length_append, List.length_cons, List.length_nil] <;> omega)
                    refine lv_if_ne (tgt := 185) hx hb dX9_atom_180 (by decide) (fun c179 => ?_) (fun c179 => absurd c179 (by decide))
                    refine lv_aload_n hx hb dX9_atom_185 rfl (lv_at hl 1 rfl) ?_
                    refine lv_iload_n hx hb dX9_atom_186 rfl (lv_at hl 0 rfl) ?_
                    refine lv_sipush (v := 312) hx hb dX9_atom_187 (by decide) ?_
                    refine lv_icmp_ne (tgt := 198) hx hb dX9_atom_190 (by decide) (fun c180 => (by have g := z_f_ne rfl z_l312 c180; omega)) (fun c180 => ?_)
                    have g181 := z_f_eq rfl z_l312 c180
                    refine lv_bipush (v := (-5)) hx hb dX9_atom_193 (by decide) ?_
                    refine lv_goto (tgt := 200) hx hb dX9_atom_195 (by decide) ?_
                    refine z_cv hW hS hA (va_runV (As := [.int (-5)]) (rest := []) ⟨hx, hb, hml, hown, hts⟩ (sx_X9_emit_x l G ad c I167 ⟨(by show 0 ≤ (I167 12 1).toInt ∧ (I167 12 1).toInt ≤ 500; exact hI167R.1), (by show 0 ≤ (I167 12 5).toInt ∧ (I167 12 5).toInt ≤ 501; exact hI167R.2.1), (by show (-1) ≤ (I167 12 6).toInt ∧ (I167 12 6).toInt ≤ 1000000; exact hI167R.2.2.1), (by show 0 ≤ (I167 12 9).toInt ∧ (I167 12 9).toInt ≤ 500; exact hI167R.2.2.2.1), (by show 0 ≤ (I167 12 13).toInt ∧ (I167 12 13).toInt ≤ 24; exact hI167R.2.2.2.2)⟩ (-5) (by omega) _) (cwV 1 hts gX9_atom_X9_emit rfl rfl rfl (by decide +kernel) ⟨Nat.le_of_ble_eq_true rfl, Nat.le_of_ble_eq_true rfl⟩) (z_preV (i := 12) hK hW rfl rfl) rfl rfl hl.1 rfl (lv_room (Nat.le_of_ble_eq_true rfl)) dX9_atom_200 ⟨Nat.le_of_ble_eq_true rfl, Nat.le_of_ble_eq_true rfl⟩) (fun u1 H locs hp hW hS => ?_)
                    obtain ⟨I182, e9, hI182R, fI182, hp⟩ := hp
                    rw [e9] at hW
                    have f183 := z_fr_sub (L := L_X9_atom_2x) f168 fI182 (by decide)
                    have k184 : (I182 12 6).toInt ≤ 501 ∧ ((I182 12 7).toInt = 401 ∨ (I182 12 6).toInt ≤ 500) := (by have q0 : (I182 12 6) = (I167 12 6) := (by rw [fI182 12 6 (by decide)]); have q1 : (I182 12 7) = (I167 12 7) := (by rw [fI182 12 7 (by decide)]); show (I182 12 6).toInt ≤ 501 ∧ ((I182 12 7).toInt = 401 ∨ (I182 12 6).toInt ≤ 500); rw [q0, q1]; first | omega | decide)
                    have hM185 := zr_M_e hM173 hp (show ((-5) : Int32).toInt = (-5) by decide) hP.2.2.2.2.1
                    have h186 := hM185.1
                    have h187 := hM185.2.1
                    have h188 := hM185.2.2.1
                    have h189 := hM185.2.2.2.1
                    have l190 : (((cs124 ++ cs154) ++ [(-5)])).length = cs124.length + cs154.length + 1 := by first | rfl | (simp only [List.length_append, List.length_cons, List.length_nil] <;> omega)
                    refine lv_iconst (v := 1) hx hb dX9_atom_203 (by decide) ?_
                    exact z_zret hx hb hr (by decide) hK hS (Nat.le_of_ble_eq_true rfl) (Nat.le_of_ble_eq_true rfl) hlocks dX9_atom_204 (shC c, ad, I182, JX, PC c ad) hW ⟨I182, rfl, ⟨(by show 0 ≤ (I182 12 1).toInt ∧ (I182 12 1).toInt ≤ 500; exact hI182R.1), (by show 0 ≤ (I182 12 5).toInt ∧ (I182 12 5).toInt ≤ 501; exact hI182R.2.1), (by show (-1) ≤ (I182 12 6).toInt ∧ (I182 12 6).toInt ≤ 1000000; exact hI182R.2.2.1), (by show 0 ≤ (I182 12 9).toInt ∧ (I182 12 9).toInt ≤ 500; exact hI182R.2.2.2.1), (by show 0 ≤ (I182 12 13).toInt ∧ (I182 12 13).toInt ≤ 24; exact hI182R.2.2.2.2)⟩, (by show (I182 12 6).toInt ≤ 501 ∧ ((I182 12 7).toInt = 401 ∨ (I182 12 6).toInt ≤ 500); first | omega | decide), f183, (Or.inl ⟨rfl, zr_ok_of hM185 (by rw [show (307 - zr_tk I k) = (-5) by omega]; simp only [List.append_assoc]) (by omega) (by omega) (zp_A12 (by decide) (by omega) (by decide) (by omega) ho129 (by omega) ho159 (by omega))⟩)⟩
                  · rw [zr_tkS hM160] at h170
                    have z191 := z_l41
                    have hM192 := zr_M_s hM160 h171 hP.2.2.2.2.1
                    have h193 := hM192.1
                    have h194 := hM192.2.1
                    have h195 := hM192.2.2.1
                    have h196 := hM192.2.2.2.1
                    have l197 : ((cs124 ++ cs154)).length = cs124.length + cs154.length := by first | rfl | (simp only [List.length_append, List.length_cons, List.length_nil] <;> omega)
                    refine lv_if_ne (tgt := 185) hx hb dX9_atom_180 (by decide) (fun c198 => absurd (by decide) c198) (fun c198 => ?_)
                    refine lv_iconst (v := 0) hx hb dX9_atom_183 (by decide) ?_
                    exact z_zret hx hb hr (by decide) hK hS (Nat.le_of_ble_eq_true rfl) (Nat.le_of_ble_eq_true rfl) hlocks dX9_atom_184 (shC c, ad, I167, JX, PC c ad) hW ⟨I167, rfl, ⟨(by show 0 ≤ (I167 12 1).toInt ∧ (I167 12 1).toInt ≤ 500; exact hI167R.1), (by show 0 ≤ (I167 12 5).toInt ∧ (I167 12 5).toInt ≤ 501; exact hI167R.2.1), (by show (-1) ≤ (I167 12 6).toInt ∧ (I167 12 6).toInt ≤ 1000000; exact hI167R.2.2.1), (by show 0 ≤ (I167 12 9).toInt ∧ (I167 12 9).toInt ≤ 500; exact hI167R.2.2.2.1), (by show 0 ≤ (I167 12 13).toInt ∧ (I167 12 13).toInt ≤ 24; exact hI167R.2.2.2.2)⟩, (by show (I167 12 6).toInt ≤ 501 ∧ ((I167 12 7).toInt = 401 ∨ (I167 12 6).toInt ≤ 500); first | omega | decide), f168, (Or.inr ⟨rfl, k153, (zr_F_0 hM192), (zp_A11 (by decide) (by omega) (by decide) (by omega) ho129 (by omega) ho159 (by omega))⟩)⟩
                · obtain ⟨f199, hf200, h201⟩ := hq
                  have hb202 := zr_noS hM143 h201
                  have hF203 := zr_F_m hM143 hf200
                  refine lv_if_eq (tgt := 183) hx hb dX9_atom_171 (by decide) (fun c204 => ?_) (fun c204 => absurd (by decide) c204)
                  refine lv_iconst (v := 0) hx hb dX9_atom_183 (by decide) ?_
                  exact z_zret hx hb hr (by decide) hK hS (Nat.le_of_ble_eq_true rfl) (Nat.le_of_ble_eq_true rfl) hlocks dX9_atom_184 (shC c, ad, I150, JX, PC c ad) hW ⟨I150, rfl, ⟨(by show 0 ≤ (I150 12 1).toInt ∧ (I150 12 1).toInt ≤ 500; exact hI150R.1), (by show 0 ≤ (I150 12 5).toInt ∧ (I150 12 5).toInt ≤ 501; exact hI150R.2.1), (by show (-1) ≤ (I150 12 6).toInt ∧ (I150 12 6).toInt ≤ 1000000; exact hI150R.2.2.1), (by show 0 ≤ (I150 12 9).toInt ∧ (I150 12 9).toInt ≤ 500; exact hI150R.2.2.2.1), (by show 0 ≤ (I150 12 13).toInt ∧ (I150 12 13).toInt ≤ 24; exact hI150R.2.2.2.2)⟩, (by show (I150 12 6).toInt ≤ 501 ∧ ((I150 12 7).toInt = 401 ∨ (I150 12 6).toInt ≤ 500); first | omega | decide), f151, (Or.inr ⟨rfl, f199, hF203, (zp_A10 (by decide) (by omega) (by decide) (by omega) ho129 (by omega) hb202)⟩)⟩
              · rw [zr_tkS hM130] at h140
                have z205 := z_l44
                have hM206 := zr_M_s hM130 h141 hP.2.2.2.2.1
                have h207 := hM206.1
                have h208 := hM206.2.1
                have h209 := hM206.2.2.1
                have h210 := hM206.2.2.2.1
                have l211 : (cs124).length = cs124.length := by first | rfl | (simp only [List.length_append, List.length_cons, List.length_nil] <;> omega)
                refine lv_if_eq (tgt := 183) hx hb dX9_atom_161 (by decide) (fun c212 => ?_) (fun c212 => absurd (by decide) c212)
                refine lv_iconst (v := 0) hx hb dX9_atom_183 (by decide) ?_
                exact z_zret hx hb hr (by decide) hK hS (Nat.le_of_ble_eq_true rfl) (Nat.le_of_ble_eq_true rfl) hlocks dX9_atom_184 (shC c, ad, I137, JX, PC c ad) hW ⟨I137, rfl, ⟨(by show 0 ≤ (I137 12 1).toInt ∧ (I137 12 1).toInt ≤ 500; exact hI137R.1), (by show 0 ≤ (I137 12 5).toInt ∧ (I137 12 5).toInt ≤ 501; exact hI137R.2.1), (by show (-1) ≤ (I137 12 6).toInt ∧ (I137 12 6).toInt ≤ 1000000; exact hI137R.2.2.1), (by show 0 ≤ (I137 12 9).toInt ∧ (I137 12 9).toInt ≤ 500; exact hI137R.2.2.2.1), (by show 0 ≤ (I137 12 13).toInt ∧ (I137 12 13).toInt ≤ 24; exact hI137R.2.2.2.2)⟩, (by show (I137 12 6).toInt ≤ 501 ∧ ((I137 12 7).toInt = 401 ∨ (I137 12 6).toInt ≤ 500); first | omega | decide), f138, (Or.inr ⟨rfl, k123, (zr_F_0 hM206), (zp_A9 (by decide) (by omega) (by decide) (by omega) ho129 (by omega))⟩)⟩
            · obtain ⟨f213, hf214, h215⟩ := hq
              have hb216 := zr_noS hM113 h215
              have hF217 := zr_F_m hM113 hf214
              refine lv_if_eq (tgt := 183) hx hb dX9_atom_152 (by decide) (fun c218 => ?_) (fun c218 => absurd (by decide) c218)
              refine lv_iconst (v := 0) hx hb dX9_atom_183 (by decide) ?_
              exact z_zret hx hb hr (by decide) hK hS (Nat.le_of_ble_eq_true rfl) (Nat.le_of_ble_eq_true rfl) hlocks dX9_atom_184 (shC c, ad, I120, JX, PC c ad) hW ⟨I120, rfl, ⟨(by show 0 ≤ (I120 12 1).toInt ∧ (I120 12 1).toInt ≤ 500; exact hI120R.1), (by show 0 ≤ (I120 12 5).toInt ∧ (I120 12 5).toInt ≤ 501; exact hI120R.2.1), (by show (-1) ≤ (I120 12 6).toInt ∧ (I120 12 6).toInt ≤ 1000000; exact hI120R.2.2.1), (by show 0 ≤ (I120 12 9).toInt ∧ (I120 12 9).toInt ≤ 500; exact hI120R.2.2.2.1), (by show 0 ≤ (I120 12 13).toInt ∧ (I120 12 13).toInt ≤ 24; exact hI120R.2.2.2.2)⟩, (by show (I120 12 6).toInt ≤ 501 ∧ ((I120 12 7).toInt = 401 ∨ (I120 12 6).toInt ≤ 500); first | omega | decide), f121, (Or.inr ⟨rfl, f213, hF217, (zp_A8 (by decide) (by omega) (by decide) (by omega) hb216)⟩)⟩
          · rw [zr_tkS hM99] at h110
            have z219 := z_l40
            have hM220 := zr_M_s hM99 h111 hP.2.2.2.2.1
            have h221 := hM220.1
            have h222 := hM220.2.1
            have h223 := hM220.2.2.1
            have h224 := hM220.2.2.2.1
            have l225 : (([] : List Int) : List Int).length = 0 := rfl
            refine lv_if_eq (tgt := 183) hx hb dX9_atom_142 (by decide) (fun c226 => ?_) (fun c226 => absurd (by decide) c226)
            refine lv_iconst (v := 0) hx hb dX9_atom_183 (by decide) ?_
            exact z_zret hx hb hr (by decide) hK hS (Nat.le_of_ble_eq_true rfl) (Nat.le_of_ble_eq_true rfl) hlocks dX9_atom_184 (shC c, ad, I107, JX, PC c ad) hW ⟨I107, rfl, ⟨(by show 0 ≤ (I107 12 1).toInt ∧ (I107 12 1).toInt ≤ 500; exact hI107R.1), (by show 0 ≤ (I107 12 5).toInt ∧ (I107 12 5).toInt ≤ 501; exact hI107R.2.1), (by show (-1) ≤ (I107 12 6).toInt ∧ (I107 12 6).toInt ≤ 1000000; exact hI107R.2.2.1), (by show 0 ≤ (I107 12 9).toInt ∧ (I107 12 9).toInt ≤ 500; exact hI107R.2.2.2.1), (by show 0 ≤ (I107 12 13).toInt ∧ (I107 12 13).toInt ≤ 24; exact hI107R.2.2.2.2)⟩, (by show (I107 12 6).toInt ≤ 501 ∧ ((I107 12 7).toInt = 401 ∨ (I107 12 6).toInt ≤ 500); first | omega | decide), f108, (Or.inr ⟨rfl, (k + 1), (zr_F_0 hM220), (zp_A7 (by omega) (by decide) (by omega))⟩)⟩
        · have g227 := z_f_ne rfl z_l312 c92
          refine lv_iload_n hx hb dX9_atom_86 rfl (lv_at hl 0 rfl) ?_
          refine lv_sipush (v := 313) hx hb dX9_atom_87 (by decide) ?_
          refine lv_icmp_ne (tgt := 99) hx hb dX9_atom_90 (by decide) (fun c228 => ?_) (fun c228 => ?_)
          · have g229 := z_f_ne rfl z_l313 c228
            refine lv_iconst (v := 0) hx hb dX9_atom_99 (by decide) ?_
            exact z_zret hx hb hr (by decide) hK hS (Nat.le_of_ble_eq_true rfl) (Nat.le_of_ble_eq_true rfl) hlocks dX9_atom_100 (shC c, ad, I, JX, PC c ad) hW ⟨I, rfl, ⟨(by show 0 ≤ (I 12 1).toInt ∧ (I 12 1).toInt ≤ 500; exact hR.1), (by show 0 ≤ (I 12 5).toInt ∧ (I 12 5).toInt ≤ 501; exact hR.2.1), (by show (-1) ≤ (I 12 6).toInt ∧ (I 12 6).toInt ≤ 1000000; exact hR.2.2.1), (by show 0 ≤ (I 12 9).toInt ∧ (I 12 9).toInt ≤ 500; exact hR.2.2.2.1), (by show 0 ≤ (I 12 13).toInt ∧ (I 12 13).toInt ≤ 24; exact hR.2.2.2.2)⟩, (by show (I 12 6).toInt ≤ 501 ∧ ((I 12 7).toInt = 401 ∨ (I 12 6).toInt ≤ 500); first | omega | decide), z_fr_0, (Or.inr ⟨rfl, k, (zr_F_0 hM0), (zp_A3 (by omega) (by omega) (Or.inr ⟨by omega, by omega, by omega⟩))⟩)⟩
          · have g230 := z_f_eq rfl z_l313 c228
            refine lv_iload_n hx hb dX9_atom_93 rfl (lv_at hl 2 rfl) ?_
            refine lv_bipush (v := 9) hx hb dX9_atom_94 (by decide) ?_
            refine lv_icmp_lt (tgt := 101) hx hb dX9_atom_96 (by decide) (fun c231 => ?_) (fun c231 => absurd (by decide) c231)
            refine lv_aload_n hx hb dX9_atom_101 rfl (lv_at hl 1 rfl) ?_
            have q232 := zr_Q_n (zr_Q_m hP hM0) (by rw [zr_tkS hM0]; omega)
            refine z_cv hW hS hA (va_runV (As := []) (rest := []) ⟨hx, hb, hml, hown, hts⟩ (sx_X9_step_x l G ad c I ⟨(by show 0 ≤ (I 12 1).toInt ∧ (I 12 1).toInt ≤ 500; exact hR.1), (by show 0 ≤ (I 12 5).toInt ∧ (I 12 5).toInt ≤ 501; exact hR.2.1), (by show (-1) ≤ (I 12 6).toInt ∧ (I 12 6).toInt ≤ 1000000; exact hR.2.2.1), (by show 0 ≤ (I 12 9).toInt ∧ (I 12 9).toInt ≤ 500; exact hR.2.2.2.1), (by show 0 ≤ (I 12 13).toInt ∧ (I 12 13).toInt ≤ 24; exact hR.2.2.2.2)⟩ (k + 1) q232 _) (cwV 0 hts gX9_atom_X9_step rfl rfl rfl (by decide +kernel) ⟨Nat.le_of_ble_eq_true rfl, Nat.le_of_ble_eq_true rfl⟩) (z_preV (i := 12) hK hW rfl rfl) rfl rfl hl.1 rfl (lv_room (Nat.le_of_ble_eq_true rfl)) dX9_atom_102 ⟨Nat.le_of_ble_eq_true rfl, Nat.le_of_ble_eq_true rfl⟩) (fun u1 H locs hp hW hS => ?_)
            obtain ⟨I233, e9, hI233R, hI233T, fI233, hp⟩ := hp
            rw [e9] at hW
            have f234 := z_fr_sub (L := L_X9_atom_2x) z_fr_0 fI233 (by decide)
            have k235 : (I233 12 6).toInt ≤ 501 ∧ ((I233 12 7).toInt = 401 ∨ (I233 12 6).toInt ≤ 500) := hI233T
            have hM236 := zr_M_s hM0 hp hP.2.2.2.2.1
            have h237 := hM236.1
            have h238 := hM236.2.1
            have h239 := hM236.2.2.1
            have h240 := hM236.2.2.2.1
            have l241 : (([] : List Int) : List Int).length = 0 := rfl
            refine lv_iload_n hx hb dX9_atom_105 rfl (lv_at hl 0 rfl) ?_
            refine lv_bipush (v := 40) hx hb dX9_atom_106 (by decide) ?_
            refine lv_icmp_ne (tgt := 136) hx hb dX9_atom_108 (by decide) (fun c242 => ?_) (fun c242 => (by have g := z_f_eq rfl z_l40 c242; omega))
            have g243 := z_f_ne rfl z_l40 c242
            refine lv_aload_n hx hb dX9_atom_136 rfl (lv_at hl 1 rfl) ?_
            refine lv_bipush (v := 40) hx hb dX9_atom_137 (by decide) ?_
            refine z_ci hW hS hA (va_runV (As := [.int 40]) (rest := []) ⟨hx, hb, hml, hown, hts⟩ (sx_X9_taken_x l G ad c I233 ⟨(by show 0 ≤ (I233 12 1).toInt ∧ (I233 12 1).toInt ≤ 500; exact hI233R.1), (by show 0 ≤ (I233 12 5).toInt ∧ (I233 12 5).toInt ≤ 501; exact hI233R.2.1), (by show (-1) ≤ (I233 12 6).toInt ∧ (I233 12 6).toInt ≤ 1000000; exact hI233R.2.2.1), (by show 0 ≤ (I233 12 9).toInt ∧ (I233 12 9).toInt ≤ 500; exact hI233R.2.2.2.1), (by show 0 ≤ (I233 12 13).toInt ∧ (I233 12 13).toInt ≤ 24; exact hI233R.2.2.2.2)⟩ (by show (I233 12 6).toInt ≤ 501 ∧ ((I233 12 7).toInt = 401 ∨ (I233 12 6).toInt ≤ 500); first | omega | decide) (k + 1) 40 (zr_P_m hP hM236 (by omega)) (by first | omega | decide) _) (cwV 1 hts gX9_atom_X9_taken rfl rfl rfl (by decide +kernel) ⟨Nat.le_of_ble_eq_true rfl, Nat.le_of_ble_eq_true rfl⟩) (z_preV (i := 12) hK hW rfl rfl) rfl rfl hl.1 rfl (lv_room (Nat.le_of_ble_eq_true rfl)) dX9_atom_139 ⟨Nat.le_of_ble_eq_true rfl, Nat.le_of_ble_eq_true rfl⟩) (fun r u1 H locs hp hW hS => ?_)
            obtain ⟨I244, e9, hI244R, hI244T, fI244, hp⟩ := hp
            rw [e9] at hW
            have f245 := z_fr_sub (L := L_X9_atom_2x) f234 fI244 (by decide)
            have k246 : (I244 12 6).toInt ≤ 501 ∧ ((I244 12 7).toInt = 401 ∨ (I244 12 6).toInt ≤ 500) := hI244T
            rcases hp with ⟨rfl, h247, h248⟩ | ⟨rfl, h247, h248⟩
            · rw [zr_tkS hM236] at h247
              have z249 := z_l40
              have hM250 := zr_M_s hM236 h248 hP.2.2.2.2.1
              have h251 := hM250.1
              have h252 := hM250.2.1
              have h253 := hM250.2.2.1
              have h254 := hM250.2.2.2.1
              have l255 : (([] : List Int) : List Int).length = 0 := rfl
              refine lv_if_eq (tgt := 183) hx hb dX9_atom_142 (by decide) (fun c256 => absurd c256 (by decide)) (fun c256 => ?_)
              refine lv_aload_n hx hb dX9_atom_145 rfl (lv_at hl 1 rfl) ?_
              refine lv_iload_n hx hb dX9_atom_146 rfl (lv_at hl 2 rfl) ?_
              refine lv_iconst (v := 1) hx hb dX9_atom_147 (by decide) ?_
              refine lv_iadd hx hb dX9_atom_148 ?_
              refine z_topi (v := 3) (by decide) ?_
              refine z_ci hW hS hA (va_runV (As := [.int 3]) (rest := []) ⟨hx, hb, hml, hown, hts⟩ (sx_X9_sum_3x l G ad c I244 ⟨(by show 0 ≤ (I244 12 1).toInt ∧ (I244 12 1).toInt ≤ 500; exact hI244R.1), (by show 0 ≤ (I244 12 5).toInt ∧ (I244 12 5).toInt ≤ 501; exact hI244R.2.1), (by show (-1) ≤ (I244 12 6).toInt ∧ (I244 12 6).toInt ≤ 1000000; exact hI244R.2.2.1), (by show 0 ≤ (I244 12 9).toInt ∧ (I244 12 9).toInt ≤ 500; exact hI244R.2.2.2.1), (by show 0 ≤ (I244 12 13).toInt ∧ (I244 12 13).toInt ≤ 24; exact hI244R.2.2.2.2)⟩ (by show (I244 12 6).toInt ≤ 501 ∧ ((I244 12 7).toInt = 401 ∨ (I244 12 6).toInt ≤ 500); first | omega | decide) ((k + 1) + 1) (zr_P_m hP hM250 (by omega)) _) (cwV 1 hts gX9_atom_X9_sum rfl rfl rfl (by decide +kernel) ⟨Nat.le_of_ble_eq_true rfl, Nat.le_of_ble_eq_true rfl⟩) (z_preV (i := 12) hK hW rfl rfl) rfl rfl hl.1 rfl (lv_room (Nat.le_of_ble_eq_true rfl)) dX9_atom_149 ⟨Nat.le_of_ble_eq_true rfl, Nat.le_of_ble_eq_true rfl⟩) (fun r u1 H locs hp hW hS => ?_)
              obtain ⟨I257, e9, hI257R, hI257T, fI257, hp⟩ := hp
              rw [e9] at hW
              have f258 := z_fr_sub (L := L_X9_atom_2x) f245 fI257 (by decide)
              have k259 : (I257 12 6).toInt ≤ 501 ∧ ((I257 12 7).toInt = 401 ∨ (I257 12 6).toInt ≤ 500) := hI257T
              rcases hp with ⟨rfl, hq⟩ | ⟨rfl, hq⟩
              · obtain ⟨k260, cs261, hm262, h263, h264, h265⟩ := hq
                have ho266 := zr_okS hM250 h265
                have hM267 := (show zr_M I I257 k260 cs261 from zr_M_t hM250 hm262 hP.2.2.2.2.1)
                have h268 := hM267.1
                have h269 := hM267.2.1
                have h270 := hM267.2.2.1
                have h271 := hM267.2.2.2.1
                have l272 : (cs261).length = cs261.length := by first | rfl | (simp only [List.length_append, List.length_cons, List.length_nil] <;> omega)
                refine lv_if_eq (tgt := 183) hx hb dX9_atom_152 (by decide) (fun c273 => absurd c273 (by decide)) (fun c273 => ?_)
                refine lv_aload_n hx hb dX9_atom_155 rfl (lv_at hl 1 rfl) ?_
                refine lv_bipush (v := 44) hx hb dX9_atom_156 (by decide) ?_
                refine z_ci hW hS hA (va_runV (As := [.int 44]) (rest := []) ⟨hx, hb, hml, hown, hts⟩ (sx_X9_taken_x l G ad c I257 ⟨(by show 0 ≤ (I257 12 1).toInt ∧ (I257 12 1).toInt ≤ 500; exact hI257R.1), (by show 0 ≤ (I257 12 5).toInt ∧ (I257 12 5).toInt ≤ 501; exact hI257R.2.1), (by show (-1) ≤ (I257 12 6).toInt ∧ (I257 12 6).toInt ≤ 1000000; exact hI257R.2.2.1), (by show 0 ≤ (I257 12 9).toInt ∧ (I257 12 9).toInt ≤ 500; exact hI257R.2.2.2.1), (by show 0 ≤ (I257 12 13).toInt ∧ (I257 12 13).toInt ≤ 24; exact hI257R.2.2.2.2)⟩ (by show (I257 12 6).toInt ≤ 501 ∧ ((I257 12 7).toInt = 401 ∨ (I257 12 6).toInt ≤ 500); first | omega | decide) k260 44 (zr_P_m hP hM267 (by omega)) (by first | omega | decide) _) (cwV 1 hts gX9_atom_X9_taken rfl rfl rfl (by decide +kernel) ⟨Nat.le_of_ble_eq_true rfl, Nat.le_of_ble_eq_true rfl⟩) (z_preV (i := 12) hK hW rfl rfl) rfl rfl hl.1 rfl (lv_room (Nat.le_of_ble_eq_true rfl)) dX9_atom_158 ⟨Nat.le_of_ble_eq_true rfl, Nat.le_of_ble_eq_true rfl⟩) (fun r u1 H locs hp hW hS => ?_)
                obtain ⟨I274, e9, hI274R, hI274T, fI274, hp⟩ := hp
                rw [e9] at hW
                have f275 := z_fr_sub (L := L_X9_atom_2x) f258 fI274 (by decide)
                have k276 : (I274 12 6).toInt ≤ 501 ∧ ((I274 12 7).toInt = 401 ∨ (I274 12 6).toInt ≤ 500) := hI274T
                rcases hp with ⟨rfl, h277, h278⟩ | ⟨rfl, h277, h278⟩
                · rw [zr_tkS hM267] at h277
                  have z279 := z_l44
                  have hM280 := zr_M_s hM267 h278 hP.2.2.2.2.1
                  have h281 := hM280.1
                  have h282 := hM280.2.1
                  have h283 := hM280.2.2.1
                  have h284 := hM280.2.2.2.1
                  have l285 : (cs261).length = cs261.length := by first | rfl | (simp only [List.length_append, List.length_cons, List.length_nil] <;> omega)
                  refine lv_if_eq (tgt := 183) hx hb dX9_atom_161 (by decide) (fun c286 => absurd c286 (by decide)) (fun c286 => ?_)
                  refine lv_aload_n hx hb dX9_atom_164 rfl (lv_at hl 1 rfl) ?_
                  refine lv_iload_n hx hb dX9_atom_165 rfl (lv_at hl 2 rfl) ?_
                  refine lv_iconst (v := 1) hx hb dX9_atom_166 (by decide) ?_
                  refine lv_iadd hx hb dX9_atom_167 ?_
                  refine z_topi (v := 3) (by decide) ?_
                  refine z_ci hW hS hA (va_runV (As := [.int 3]) (rest := []) ⟨hx, hb, hml, hown, hts⟩ (sx_X9_sum_3x l G ad c I274 ⟨(by show 0 ≤ (I274 12 1).toInt ∧ (I274 12 1).toInt ≤ 500; exact hI274R.1), (by show 0 ≤ (I274 12 5).toInt ∧ (I274 12 5).toInt ≤ 501; exact hI274R.2.1), (by show (-1) ≤ (I274 12 6).toInt ∧ (I274 12 6).toInt ≤ 1000000; exact hI274R.2.2.1), (by show 0 ≤ (I274 12 9).toInt ∧ (I274 12 9).toInt ≤ 500; exact hI274R.2.2.2.1), (by show 0 ≤ (I274 12 13).toInt ∧ (I274 12 13).toInt ≤ 24; exact hI274R.2.2.2.2)⟩ (by show (I274 12 6).toInt ≤ 501 ∧ ((I274 12 7).toInt = 401 ∨ (I274 12 6).toInt ≤ 500); first | omega | decide) (k260 + 1) (zr_P_m hP hM280 (by omega)) _) (cwV 1 hts gX9_atom_X9_sum rfl rfl rfl (by decide +kernel) ⟨Nat.le_of_ble_eq_true rfl, Nat.le_of_ble_eq_true rfl⟩) (z_preV (i := 12) hK hW rfl rfl) rfl rfl hl.1 rfl (lv_room (Nat.le_of_ble_eq_true rfl)) dX9_atom_168 ⟨Nat.le_of_ble_eq_true rfl, Nat.le_of_ble_eq_true rfl⟩) (fun r u1 H locs hp hW hS => ?_)
                  obtain ⟨I287, e9, hI287R, hI287T, fI287, hp⟩ := hp
                  rw [e9] at hW
                  have f288 := z_fr_sub (L := L_X9_atom_2x) f275 fI287 (by decide)
                  have k289 : (I287 12 6).toInt ≤ 501 ∧ ((I287 12 7).toInt = 401 ∨ (I287 12 6).toInt ≤ 500) := hI287T
                  rcases hp with ⟨rfl, hq⟩ | ⟨rfl, hq⟩
                  · obtain ⟨k290, cs291, hm292, h293, h294, h295⟩ := hq
                    have ho296 := zr_okS hM280 h295
                    have hM297 := zr_M_t hM280 hm292 hP.2.2.2.2.1
                    have h298 := hM297.1
                    have h299 := hM297.2.1
                    have h300 := hM297.2.2.1
                    have h301 := hM297.2.2.2.1
                    have l302 : ((cs261 ++ cs291)).length = cs261.length + cs291.length := by first | rfl | (simp only [List.length_append, List.length_cons, List.length_nil] <;> omega)
                    refine lv_if_eq (tgt := 183) hx hb dX9_atom_171 (by decide) (fun c303 => absurd c303 (by decide)) (fun c303 => ?_)
                    refine lv_aload_n hx hb dX9_atom_174 rfl (lv_at hl 1 rfl) ?_
                    refine lv_bipush (v := 41) hx hb dX9_atom_175 (by decide) ?_
                    refine z_ci hW hS hA (va_runV (As := [.int 41]) (rest := []) ⟨hx, hb, hml, hown, hts⟩ (sx_X9_taken_x l G ad c I287 ⟨(by show 0 ≤ (I287 12 1).toInt ∧ (I287 12 1).toInt ≤ 500; exact hI287R.1), (by show 0 ≤ (I287 12 5).toInt ∧ (I287 12 5).toInt ≤ 501; exact hI287R.2.1), (by show (-1) ≤ (I287 12 6).toInt ∧ (I287 12 6).toInt ≤ 1000000; exact hI287R.2.2.1), (by show 0 ≤ (I287 12 9).toInt ∧ (I287 12 9).toInt ≤ 500; exact hI287R.2.2.2.1), (by show 0 ≤ (I287 12 13).toInt ∧ (I287 12 13).toInt ≤ 24; exact hI287R.2.2.2.2)⟩ (by show (I287 12 6).toInt ≤ 501 ∧ ((I287 12 7).toInt = 401 ∨ (I287 12 6).toInt ≤ 500); first | omega | decide) k290 41 (zr_P_m hP hM297 (by omega)) (by first | omega | decide) _) (cwV 1 hts gX9_atom_X9_taken rfl rfl rfl (by decide +kernel) ⟨Nat.le_of_ble_eq_true rfl, Nat.le_of_ble_eq_true rfl⟩) (z_preV (i := 12) hK hW rfl rfl) rfl rfl hl.1 rfl (lv_room (Nat.le_of_ble_eq_true rfl)) dX9_atom_177 ⟨Nat.le_of_ble_eq_true rfl, Nat.le_of_ble_eq_true rfl⟩) (fun r u1 H locs hp hW hS => ?_)
                    obtain ⟨I304, e9, hI304R, hI304T, fI304, hp⟩ := hp
                    rw [e9] at hW
                    have f305 := z_fr_sub (L := L_X9_atom_2x) f288 fI304 (by decide)
                    have k306 : (I304 12 6).toInt ≤ 501 ∧ ((I304 12 7).toInt = 401 ∨ (I304 12 6).toInt ≤ 500) := hI304T
                    rcases hp with ⟨rfl, h307, h308⟩ | ⟨rfl, h307, h308⟩
                    · rw [zr_tkS hM297] at h307
                      have z309 := z_l41
                      have hM310 := zr_M_s hM297 h308 hP.2.2.2.2.1
                      have h311 := hM310.1
                      have h312 := hM310.2.1
                      have h313 := hM310.2.2.1
                      have h314 := hM310.2.2.2.1
                      have l315 : ((cs261 ++ cs291)).length = cs261.length + cs291.length := by first | rfl | (simp only [List.length_append, List.length_cons, List.length_nil] <;> omega)
                      refine lv_if_ne (tgt := 185) hx hb dX9_atom_180 (by decide) (fun c316 => ?_) (fun c316 => absurd c316 (by decide))
                      refine lv_aload_n hx hb dX9_atom_185 rfl (lv_at hl 1 rfl) ?_
                      refine lv_iload_n hx hb dX9_atom_186 rfl (lv_at hl 0 rfl) ?_
                      refine lv_sipush (v := 312) hx hb dX9_atom_187 (by decide) ?_
                      refine lv_icmp_ne (tgt := 198) hx hb dX9_atom_190 (by decide) (fun c317 => ?_) (fun c317 => (by have g := z_f_eq rfl z_l312 c317; omega))
                      have g318 := z_f_ne rfl z_l312 c317
                      refine lv_bipush (v := (-6)) hx hb dX9_atom_198 (by decide) ?_
                      refine z_cv hW hS hA (va_runV (As := [.int (-6)]) (rest := []) ⟨hx, hb, hml, hown, hts⟩ (sx_X9_emit_x l G ad c I304 ⟨(by show 0 ≤ (I304 12 1).toInt ∧ (I304 12 1).toInt ≤ 500; exact hI304R.1), (by show 0 ≤ (I304 12 5).toInt ∧ (I304 12 5).toInt ≤ 501; exact hI304R.2.1), (by show (-1) ≤ (I304 12 6).toInt ∧ (I304 12 6).toInt ≤ 1000000; exact hI304R.2.2.1), (by show 0 ≤ (I304 12 9).toInt ∧ (I304 12 9).toInt ≤ 500; exact hI304R.2.2.2.1), (by show 0 ≤ (I304 12 13).toInt ∧ (I304 12 13).toInt ≤ 24; exact hI304R.2.2.2.2)⟩ (-6) (by omega) _) (cwV 1 hts gX9_atom_X9_emit rfl rfl rfl (by decide +kernel) ⟨Nat.le_of_ble_eq_true rfl, Nat.le_of_ble_eq_true rfl⟩) (z_preV (i := 12) hK hW rfl rfl) rfl rfl hl.1 rfl (lv_room (Nat.le_of_ble_eq_true rfl)) dX9_atom_200 ⟨Nat.le_of_ble_eq_true rfl, Nat.le_of_ble_eq_true rfl⟩) (fun u1 H locs hp hW hS => ?_)
                      obtain ⟨I319, e9, hI319R, fI319, hp⟩ := hp
                      rw [e9] at hW
                      have f320 := z_fr_sub (L := L_X9_atom_2x) f305 fI319 (by decide)
                      have k321 : (I319 12 6).toInt ≤ 501 ∧ ((I319 12 7).toInt = 401 ∨ (I319 12 6).toInt ≤ 500) := (by have q0 : (I319 12 6) = (I304 12 6) := (by rw [fI319 12 6 (by decide)]); have q1 : (I319 12 7) = (I304 12 7) := (by rw [fI319 12 7 (by decide)]); show (I319 12 6).toInt ≤ 501 ∧ ((I319 12 7).toInt = 401 ∨ (I319 12 6).toInt ≤ 500); rw [q0, q1]; first | omega | decide)
                      have hM322 := zr_M_e hM310 hp (show ((-6) : Int32).toInt = (-6) by decide) hP.2.2.2.2.1
                      have h323 := hM322.1
                      have h324 := hM322.2.1
                      have h325 := hM322.2.2.1
                      have h326 := hM322.2.2.2.1
                      have l327 : (((cs261 ++ cs291) ++ [(-6)])).length = cs261.length + cs291.length + 1 := by first | rfl | (simp only [List.length_append, List.length_cons, List.length_nil] <;> omega)
                      refine lv_iconst (v := 1) hx hb dX9_atom_203 (by decide) ?_
                      exact z_zret hx hb hr (by decide) hK hS (Nat.le_of_ble_eq_true rfl) (Nat.le_of_ble_eq_true rfl) hlocks dX9_atom_204 (shC c, ad, I319, JX, PC c ad) hW ⟨I319, rfl, ⟨(by show 0 ≤ (I319 12 1).toInt ∧ (I319 12 1).toInt ≤ 500; exact hI319R.1), (by show 0 ≤ (I319 12 5).toInt ∧ (I319 12 5).toInt ≤ 501; exact hI319R.2.1), (by show (-1) ≤ (I319 12 6).toInt ∧ (I319 12 6).toInt ≤ 1000000; exact hI319R.2.2.1), (by show 0 ≤ (I319 12 9).toInt ∧ (I319 12 9).toInt ≤ 500; exact hI319R.2.2.2.1), (by show 0 ≤ (I319 12 13).toInt ∧ (I319 12 13).toInt ≤ 24; exact hI319R.2.2.2.2)⟩, (by show (I319 12 6).toInt ≤ 501 ∧ ((I319 12 7).toInt = 401 ∨ (I319 12 6).toInt ≤ 500); first | omega | decide), f320, (Or.inl ⟨rfl, zr_ok_of hM322 (by rw [show (307 - zr_tk I k) = (-6) by omega]; simp only [List.append_assoc]) (by omega) (by omega) (zp_A12 (by decide) (by omega) (by decide) (by omega) ho266 (by omega) ho296 (by omega))⟩)⟩
                    · rw [zr_tkS hM297] at h307
                      have z328 := z_l41
                      have hM329 := zr_M_s hM297 h308 hP.2.2.2.2.1
                      have h330 := hM329.1
                      have h331 := hM329.2.1
                      have h332 := hM329.2.2.1
                      have h333 := hM329.2.2.2.1
                      have l334 : ((cs261 ++ cs291)).length = cs261.length + cs291.length := by first | rfl | (simp only [List.length_append, List.length_cons, List.length_nil] <;> omega)
                      refine lv_if_ne (tgt := 185) hx hb dX9_atom_180 (by decide) (fun c335 => absurd (by decide) c335) (fun c335 => ?_)
                      refine lv_iconst (v := 0) hx hb dX9_atom_183 (by decide) ?_
                      exact z_zret hx hb hr (by decide) hK hS (Nat.le_of_ble_eq_true rfl) (Nat.le_of_ble_eq_true rfl) hlocks dX9_atom_184 (shC c, ad, I304, JX, PC c ad) hW ⟨I304, rfl, ⟨(by show 0 ≤ (I304 12 1).toInt ∧ (I304 12 1).toInt ≤ 500; exact hI304R.1), (by show 0 ≤ (I304 12 5).toInt ∧ (I304 12 5).toInt ≤ 501; exact hI304R.2.1), (by show (-1) ≤ (I304 12 6).toInt ∧ (I304 12 6).toInt ≤ 1000000; exact hI304R.2.2.1), (by show 0 ≤ (I304 12 9).toInt ∧ (I304 12 9).toInt ≤ 500; exact hI304R.2.2.2.1), (by show 0 ≤ (I304 12 13).toInt ∧ (I304 12 13).toInt ≤ 24; exact hI304R.2.2.2.2)⟩, (by show (I304 12 6).toInt ≤ 501 ∧ ((I304 12 7).toInt = 401 ∨ (I304 12 6).toInt ≤ 500); first | omega | decide), f305, (Or.inr ⟨rfl, k290, (zr_F_0 hM329), (zp_A11 (by decide) (by omega) (by decide) (by omega) ho266 (by omega) ho296 (by omega))⟩)⟩
                  · obtain ⟨f336, hf337, h338⟩ := hq
                    have hb339 := zr_noS hM280 h338
                    have hF340 := zr_F_m hM280 hf337
                    refine lv_if_eq (tgt := 183) hx hb dX9_atom_171 (by decide) (fun c341 => ?_) (fun c341 => absurd (by decide) c341)
                    refine lv_iconst (v := 0) hx hb dX9_atom_183 (by decide) ?_
                    exact z_zret hx hb hr (by decide) hK hS (Nat.le_of_ble_eq_true rfl) (Nat.le_of_ble_eq_true rfl) hlocks dX9_atom_184 (shC c, ad, I287, JX, PC c ad) hW ⟨I287, rfl, ⟨(by show 0 ≤ (I287 12 1).toInt ∧ (I287 12 1).toInt ≤ 500; exact hI287R.1), (by show 0 ≤ (I287 12 5).toInt ∧ (I287 12 5).toInt ≤ 501; exact hI287R.2.1), (by show (-1) ≤ (I287 12 6).toInt ∧ (I287 12 6).toInt ≤ 1000000; exact hI287R.2.2.1), (by show 0 ≤ (I287 12 9).toInt ∧ (I287 12 9).toInt ≤ 500; exact hI287R.2.2.2.1), (by show 0 ≤ (I287 12 13).toInt ∧ (I287 12 13).toInt ≤ 24; exact hI287R.2.2.2.2)⟩, (by show (I287 12 6).toInt ≤ 501 ∧ ((I287 12 7).toInt = 401 ∨ (I287 12 6).toInt ≤ 500); first | omega | decide), f288, (Or.inr ⟨rfl, f336, hF340, (zp_A10 (by decide) (by omega) (by decide) (by omega) ho266 (by omega) hb339)⟩)⟩
                · rw [zr_tkS hM267] at h277
                  have z342 := z_l44
                  have hM343 := zr_M_s hM267 h278 hP.2.2.2.2.1
                  have h344 := hM343.1
                  have h345 := hM343.2.1
                  have h346 := hM343.2.2.1
                  have h347 := hM343.2.2.2.1
                  have l348 : (cs261).length = cs261.length := by first | rfl | (simp only [List.length_append, List.length_cons, List.length_nil] <;> omega)
                  refine lv_if_eq (tgt := 183) hx hb dX9_atom_161 (by decide) (fun c349 => ?_) (fun c349 => absurd (by decide) c349)
                  refine lv_iconst (v := 0) hx hb dX9_atom_183 (by decide) ?_
                  exact z_zret hx hb hr (by decide) hK hS (Nat.le_of_ble_eq_true rfl) (Nat.le_of_ble_eq_true rfl) hlocks dX9_atom_184 (shC c, ad, I274, JX, PC c ad) hW ⟨I274, rfl, ⟨(by show 0 ≤ (I274 12 1).toInt ∧ (I274 12 1).toInt ≤ 500; exact hI274R.1), (by show 0 ≤ (I274 12 5).toInt ∧ (I274 12 5).toInt ≤ 501; exact hI274R.2.1), (by show (-1) ≤ (I274 12 6).toInt ∧ (I274 12 6).toInt ≤ 1000000; exact hI274R.2.2.1), (by show 0 ≤ (I274 12 9).toInt ∧ (I274 12 9).toInt ≤ 500; exact hI274R.2.2.2.1), (by show 0 ≤ (I274 12 13).toInt ∧ (I274 12 13).toInt ≤ 24; exact hI274R.2.2.2.2)⟩, (by show (I274 12 6).toInt ≤ 501 ∧ ((I274 12 7).toInt = 401 ∨ (I274 12 6).toInt ≤ 500); first | omega | decide), f275, (Or.inr ⟨rfl, k260, (zr_F_0 hM343), (zp_A9 (by decide) (by omega) (by decide) (by omega) ho266 (by omega))⟩)⟩
              · obtain ⟨f350, hf351, h352⟩ := hq
                have hb353 := zr_noS hM250 h352
                have hF354 := zr_F_m hM250 hf351
                refine lv_if_eq (tgt := 183) hx hb dX9_atom_152 (by decide) (fun c355 => ?_) (fun c355 => absurd (by decide) c355)
                refine lv_iconst (v := 0) hx hb dX9_atom_183 (by decide) ?_
                exact z_zret hx hb hr (by decide) hK hS (Nat.le_of_ble_eq_true rfl) (Nat.le_of_ble_eq_true rfl) hlocks dX9_atom_184 (shC c, ad, I257, JX, PC c ad) hW ⟨I257, rfl, ⟨(by show 0 ≤ (I257 12 1).toInt ∧ (I257 12 1).toInt ≤ 500; exact hI257R.1), (by show 0 ≤ (I257 12 5).toInt ∧ (I257 12 5).toInt ≤ 501; exact hI257R.2.1), (by show (-1) ≤ (I257 12 6).toInt ∧ (I257 12 6).toInt ≤ 1000000; exact hI257R.2.2.1), (by show 0 ≤ (I257 12 9).toInt ∧ (I257 12 9).toInt ≤ 500; exact hI257R.2.2.2.1), (by show 0 ≤ (I257 12 13).toInt ∧ (I257 12 13).toInt ≤ 24; exact hI257R.2.2.2.2)⟩, (by show (I257 12 6).toInt ≤ 501 ∧ ((I257 12 7).toInt = 401 ∨ (I257 12 6).toInt ≤ 500); first | omega | decide), f258, (Or.inr ⟨rfl, f350, hF354, (zp_A8 (by decide) (by omega) (by decide) (by omega) hb353)⟩)⟩
            · rw [zr_tkS hM236] at h247
              have z356 := z_l40
              have hM357 := zr_M_s hM236 h248 hP.2.2.2.2.1
              have h358 := hM357.1
              have h359 := hM357.2.1
              have h360 := hM357.2.2.1
              have h361 := hM357.2.2.2.1
              have l362 : (([] : List Int) : List Int).length = 0 := rfl
              refine lv_if_eq (tgt := 183) hx hb dX9_atom_142 (by decide) (fun c363 => ?_) (fun c363 => absurd (by decide) c363)
              refine lv_iconst (v := 0) hx hb dX9_atom_183 (by decide) ?_
              exact z_zret hx hb hr (by decide) hK hS (Nat.le_of_ble_eq_true rfl) (Nat.le_of_ble_eq_true rfl) hlocks dX9_atom_184 (shC c, ad, I244, JX, PC c ad) hW ⟨I244, rfl, ⟨(by show 0 ≤ (I244 12 1).toInt ∧ (I244 12 1).toInt ≤ 500; exact hI244R.1), (by show 0 ≤ (I244 12 5).toInt ∧ (I244 12 5).toInt ≤ 501; exact hI244R.2.1), (by show (-1) ≤ (I244 12 6).toInt ∧ (I244 12 6).toInt ≤ 1000000; exact hI244R.2.2.1), (by show 0 ≤ (I244 12 9).toInt ∧ (I244 12 9).toInt ≤ 500; exact hI244R.2.2.2.1), (by show 0 ≤ (I244 12 13).toInt ∧ (I244 12 13).toInt ≤ 24; exact hI244R.2.2.2.2)⟩, (by show (I244 12 6).toInt ≤ 501 ∧ ((I244 12 7).toInt = 401 ∨ (I244 12 6).toInt ≤ 500); first | omega | decide), f245, (Or.inr ⟨rfl, (k + 1), (zr_F_0 hM357), (zp_A7 (by omega) (by decide) (by omega))⟩)⟩
    · have g364 := z_f_nlt rfl z_l314 c30
      refine lv_aload_n hx hb dX9_atom_20 rfl (lv_at hl 0 rfl) ?_
      refine z_get (T := TX9) (N := 14) (ci := 9) (i := 12) (v := .int (I 12 7)) hx hb hts zj_X9_atom_X9 hown hK hW rfl rfl 7 (by decide) (hts (.fieldLink RX9 62 "PetrolBoard$Reader" "token" "I") (me_s (me_l (me_l (List.mem_of_getElem? (i := 0) rfl))))) (fun _ h => h) rfl dX9_atom_21 ?_
      refine lv_sipush (v := 320) hx hb dX9_atom_24 (by decide) ?_
      refine lv_icmp_gt (tgt := 68) hx hb dX9_atom_27 (by decide) (fun c365 => ?_) (fun c365 => ?_)
      · have g366 := z_f_gt rfl z_l320 c365
        refine lv_aload_n hx hb dX9_atom_68 rfl (lv_at hl 0 rfl) ?_
        refine z_get (T := TX9) (N := 14) (ci := 9) (i := 12) (v := .int (I 12 7)) hx hb hts zj_X9_atom_X9 hown hK hW rfl rfl 7 (by decide) (hts (.fieldLink RX9 62 "PetrolBoard$Reader" "token" "I") (me_s (me_l (me_l (List.mem_of_getElem? (i := 0) rfl))))) (fun _ h => h) rfl dX9_atom_69 ?_
        refine lv_istore_n (lv' := [(2, .int (I 12 7)), (0, .ref (ad 12)), (1, .int 2)]) hx hb dX9_atom_72 rfl hl (by decide) rfl (fun ls hl => ?_)
        refine lv_iload_n hx hb dX9_atom_73 rfl (lv_at hl 0 rfl) ?_
        refine lv_bipush (v := 40) hx hb dX9_atom_74 (by decide) ?_
        refine lv_icmp_eq (tgt := 93) hx hb dX9_atom_76 (by decide) (fun c367 => (by have g := z_f_eq rfl z_l40 c367; omega)) (fun c367 => ?_)
        have g368 := z_f_ne rfl z_l40 c367
        refine lv_iload_n hx hb dX9_atom_79 rfl (lv_at hl 0 rfl) ?_
        refine lv_sipush (v := 312) hx hb dX9_atom_80 (by decide) ?_
        refine lv_icmp_eq (tgt := 93) hx hb dX9_atom_83 (by decide) (fun c369 => (by have g := z_f_eq rfl z_l312 c369; omega)) (fun c369 => ?_)
        have g370 := z_f_ne rfl z_l312 c369
        refine lv_iload_n hx hb dX9_atom_86 rfl (lv_at hl 0 rfl) ?_
        refine lv_sipush (v := 313) hx hb dX9_atom_87 (by decide) ?_
        refine lv_icmp_ne (tgt := 99) hx hb dX9_atom_90 (by decide) (fun c371 => ?_) (fun c371 => (by have g := z_f_eq rfl z_l313 c371; omega))
        have g372 := z_f_ne rfl z_l313 c371
        refine lv_iconst (v := 0) hx hb dX9_atom_99 (by decide) ?_
        exact z_zret hx hb hr (by decide) hK hS (Nat.le_of_ble_eq_true rfl) (Nat.le_of_ble_eq_true rfl) hlocks dX9_atom_100 (shC c, ad, I, JX, PC c ad) hW ⟨I, rfl, ⟨(by show 0 ≤ (I 12 1).toInt ∧ (I 12 1).toInt ≤ 500; exact hR.1), (by show 0 ≤ (I 12 5).toInt ∧ (I 12 5).toInt ≤ 501; exact hR.2.1), (by show (-1) ≤ (I 12 6).toInt ∧ (I 12 6).toInt ≤ 1000000; exact hR.2.2.1), (by show 0 ≤ (I 12 9).toInt ∧ (I 12 9).toInt ≤ 500; exact hR.2.2.2.1), (by show 0 ≤ (I 12 13).toInt ∧ (I 12 13).toInt ≤ 24; exact hR.2.2.2.2)⟩, (by show (I 12 6).toInt ≤ 501 ∧ ((I 12 7).toInt = 401 ∨ (I 12 6).toInt ≤ 500); first | omega | decide), z_fr_0, (Or.inr ⟨rfl, k, (zr_F_0 hM0), (zp_A3 (by omega) (by omega) (Or.inr ⟨by omega, by omega, by omega⟩))⟩)⟩
      · have g373 := z_f_ngt rfl z_l320 c365
        refine lv_aload_n hx hb dX9_atom_30 rfl (lv_at hl 0 rfl) ?_
        refine lv_aload_n hx hb dX9_atom_31 rfl (lv_at hl 0 rfl) ?_
        refine z_get (T := TX9) (N := 14) (ci := 9) (i := 12) (v := .int (I 12 7)) hx hb hts zj_X9_atom_X9 hown hK hW rfl rfl 7 (by decide) (hts (.fieldLink RX9 62 "PetrolBoard$Reader" "token" "I") (me_s (me_l (me_l (List.mem_of_getElem? (i := 0) rfl))))) (fun _ h => h) rfl dX9_atom_32 ?_
        refine lv_sipush (v := 400) hx hb dX9_atom_35 (by decide) ?_
        refine lv_icmp_ne (tgt := 48) hx hb dX9_atom_38 (by decide) (fun c374 => ?_) (fun c374 => (by have g := z_f_eq rfl z_l400 c374; omega))
        have g375 := z_f_ne rfl z_l400 c374
        refine lv_bipush (v := (-20)) hx hb dX9_atom_48 (by decide) ?_
        refine lv_aload_n hx hb dX9_atom_50 rfl (lv_at hl 0 rfl) ?_
        refine z_get (T := TX9) (N := 14) (ci := 9) (i := 12) (v := .int (I 12 7)) hx hb hts zj_X9_atom_X9 hown hK hW rfl rfl 7 (by decide) (hts (.fieldLink RX9 62 "PetrolBoard$Reader" "token" "I") (me_s (me_l (me_l (List.mem_of_getElem? (i := 0) rfl))))) (fun _ h => h) rfl dX9_atom_51 ?_
        refine lv_sipush (v := 314) hx hb dX9_atom_54 (by decide) ?_
        refine lv_isub hx hb dX9_atom_57 ?_
        refine lv_topi (fun x376 ex376 => ?_)
        have tx376 : x376.toInt = (I 12 7).toInt - 314 := z_tsub ex376 rfl z_l314 (by omega) (by omega)
        refine lv_isub hx hb dX9_atom_58 ?_
        refine lv_topi (fun x377 ex377 => ?_)
        have tx377 : x377.toInt = (-20) - x376.toInt := z_tsub ex377 z_lm20 rfl (by omega) (by omega)
        have h378 := hP.2.2.2.2.2.2 k hP.2.1 (by omega)
        refine z_cv hW hS hA (va_runV (As := [.int x377]) (rest := []) ⟨hx, hb, hml, hown, hts⟩ (sx_X9_emit_x l G ad c I ⟨(by show 0 ≤ (I 12 1).toInt ∧ (I 12 1).toInt ≤ 500; exact hR.1), (by show 0 ≤ (I 12 5).toInt ∧ (I 12 5).toInt ≤ 501; exact hR.2.1), (by show (-1) ≤ (I 12 6).toInt ∧ (I 12 6).toInt ≤ 1000000; exact hR.2.2.1), (by show 0 ≤ (I 12 9).toInt ∧ (I 12 9).toInt ≤ 500; exact hR.2.2.2.1), (by show 0 ≤ (I 12 13).toInt ∧ (I 12 13).toInt ≤ 24; exact hR.2.2.2.2)⟩ x377 (by omega) _) (cwV 1 hts gX9_atom_X9_emit rfl rfl rfl (by decide +kernel) ⟨Nat.le_of_ble_eq_true rfl, Nat.le_of_ble_eq_true rfl⟩) (z_preV (i := 12) hK hW rfl rfl) rfl rfl hl.1 rfl (lv_room (Nat.le_of_ble_eq_true rfl)) dX9_atom_59 ⟨Nat.le_of_ble_eq_true rfl, Nat.le_of_ble_eq_true rfl⟩) (fun u1 H locs hp hW hS => ?_)
        obtain ⟨I379, e9, hI379R, fI379, hp⟩ := hp
        rw [e9] at hW
        have f380 := z_fr_sub (L := L_X9_atom_2x) z_fr_0 fI379 (by decide)
        have k381 : (I379 12 6).toInt ≤ 501 ∧ ((I379 12 7).toInt = 401 ∨ (I379 12 6).toInt ≤ 500) := (by have q0 : (I379 12 6) = (I 12 6) := (by rw [fI379 12 6 (by decide)]); have q1 : (I379 12 7) = (I 12 7) := (by rw [fI379 12 7 (by decide)]); show (I379 12 6).toInt ≤ 501 ∧ ((I379 12 7).toInt = 401 ∨ (I379 12 6).toInt ≤ 500); rw [q0, q1]; first | omega | decide)
        have hM382 := (show zr_M I I379 k [(-20 - (zr_tk I k - 314))] from zr_M_e hM0 hp (show x377.toInt = -20 - (zr_tk I k - 314) by omega) hP.2.2.2.2.1)
        have h383 := hM382.1
        have h384 := hM382.2.1
        have h385 := hM382.2.2.1
        have h386 := hM382.2.2.2.1
        have l387 : ([(-20 - (zr_tk I k - 314))]).length = 1 := by first | rfl | (simp only [List.length_append, List.length_cons, List.length_nil] <;> omega)
        refine lv_aload_n hx hb dX9_atom_62 rfl (lv_at hl 0 rfl) ?_
        have q388 := zr_Q_n (zr_Q_m hP hM382) (by rw [zr_tkS hM382]; omega)
        refine z_cv hW hS hA (va_runV (As := []) (rest := []) ⟨hx, hb, hml, hown, hts⟩ (sx_X9_step_x l G ad c I379 ⟨(by show 0 ≤ (I379 12 1).toInt ∧ (I379 12 1).toInt ≤ 500; exact hI379R.1), (by show 0 ≤ (I379 12 5).toInt ∧ (I379 12 5).toInt ≤ 501; exact hI379R.2.1), (by show (-1) ≤ (I379 12 6).toInt ∧ (I379 12 6).toInt ≤ 1000000; exact hI379R.2.2.1), (by show 0 ≤ (I379 12 9).toInt ∧ (I379 12 9).toInt ≤ 500; exact hI379R.2.2.2.1), (by show 0 ≤ (I379 12 13).toInt ∧ (I379 12 13).toInt ≤ 24; exact hI379R.2.2.2.2)⟩ (k + 1) q388 _) (cwV 0 hts gX9_atom_X9_step rfl rfl rfl (by decide +kernel) ⟨Nat.le_of_ble_eq_true rfl, Nat.le_of_ble_eq_true rfl⟩) (z_preV (i := 12) hK hW rfl rfl) rfl rfl hl.1 rfl (lv_room (Nat.le_of_ble_eq_true rfl)) dX9_atom_63 ⟨Nat.le_of_ble_eq_true rfl, Nat.le_of_ble_eq_true rfl⟩) (fun u1 H locs hp hW hS => ?_)
        obtain ⟨I389, e9, hI389R, hI389T, fI389, hp⟩ := hp
        rw [e9] at hW
        have f390 := z_fr_sub (L := L_X9_atom_2x) f380 fI389 (by decide)
        have k391 : (I389 12 6).toInt ≤ 501 ∧ ((I389 12 7).toInt = 401 ∨ (I389 12 6).toInt ≤ 500) := hI389T
        have hM392 := zr_M_s hM382 hp hP.2.2.2.2.1
        have h393 := hM392.1
        have h394 := hM392.2.1
        have h395 := hM392.2.2.1
        have h396 := hM392.2.2.2.1
        have l397 : ([(-20 - (zr_tk I k - 314))]).length = 1 := by first | rfl | (simp only [List.length_append, List.length_cons, List.length_nil] <;> omega)
        refine lv_iconst (v := 1) hx hb dX9_atom_66 (by decide) ?_
        exact z_zret hx hb hr (by decide) hK hS (Nat.le_of_ble_eq_true rfl) (Nat.le_of_ble_eq_true rfl) hlocks dX9_atom_67 (shC c, ad, I389, JX, PC c ad) hW ⟨I389, rfl, ⟨(by show 0 ≤ (I389 12 1).toInt ∧ (I389 12 1).toInt ≤ 500; exact hI389R.1), (by show 0 ≤ (I389 12 5).toInt ∧ (I389 12 5).toInt ≤ 501; exact hI389R.2.1), (by show (-1) ≤ (I389 12 6).toInt ∧ (I389 12 6).toInt ≤ 1000000; exact hI389R.2.2.1), (by show 0 ≤ (I389 12 9).toInt ∧ (I389 12 9).toInt ≤ 500; exact hI389R.2.2.2.1), (by show 0 ≤ (I389 12 13).toInt ∧ (I389 12 13).toInt ≤ 24; exact hI389R.2.2.2.2)⟩, (by show (I389 12 6).toInt ≤ 501 ∧ ((I389 12 7).toInt = 401 ∨ (I389 12 6).toInt ≤ 500); first | omega | decide), f390, (Or.inl ⟨rfl, zr_ok_of hM392 rfl (by omega) (by omega) (zp_A2 (by omega))⟩)⟩
noncomputable def L_X9_product_2x : z_L := [(12, 6), (12, 7), (17, 999), (12, 9)]
set_option maxHeartbeats 8000000 in
set_option maxRecDepth 100000 in
theorem sx_X9_product_2x (l : Launch) (G : z_G) (ad : Nat → Nat) (c : z_C) (I : z_I) (hR : z_iR I) (hT : z_iT I) (k : Nat) (hP : zr_P I k) : z_M l yX9_product wsX9_product { frames := 55, cells := 0, slots := 0, locals := 1231 } [.ref (ad 12), .int 2] G (shC c, ad, I, JX, PC c ad) (fun r u1 => ∃ I1 : z_I, u1 = (shC c, ad, I1, JX, PC c ad) ∧ z_iR I1 ∧ z_iT I1 ∧ z_fr L_X9_product_2x I1 I ∧ ((r = 1 ∧ zr_ok 1 2 I I1 k) ∨ (r = 0 ∧ zr_no 1 2 I I1 k))) 0 0 := by
  intro sz
  refine z_headQ (cc := cX9_product) (maxL := 4) (ret := (some .boolean)) (by decide) rfl (Nat.le_of_ble_eq_true rfl) ?_
  intro p e s m below meth c0 ls hIn hK hsz hW hl
  obtain ⟨hx, hb, hr, hml, hown, hts, hlocks, hname⟩ := hIn
  subst hsz
  have hown : s.vm.findClass RX9 = some m.cls := hown
  have hA : ∀ q : Nat, s.heap.size ≤ q → z_A (shC c, ad, I, JX, PC c ad) s.heap.size q := fun q h => Or.inr h
  generalize hAe : z_A (shC c, ad, I, JX, PC c ad) s.heap.size = A at *
  have hS : va_S A s.heap s.heap [] := va_S.rf
  have hl : lv_has ls 4 [(0, .ref (ad 12)), (1, .int 2)] := hl
  have hM0 := zr_M_0 hP
  have hP1 := hP.1
  have hP2 := hP.2.1
  have hP3 := hP.2.2.1
  have hP4 := hP.2.2.2.1
  have hP5 := hP.2.2.2.2.1
  have hP6 := hP.2.2.2.2.2.1
  have hlz : ([] : List Int).length = 0 := rfl
  have kT : (I 12 6).toInt ≤ 501 ∧ ((I 12 7).toInt = 401 ∨ (I 12 6).toInt ≤ 500) := hT
  refine lv_aload_n hx hb dX9_product_0 rfl (lv_at hl 0 rfl) ?_
  refine lv_iload_n hx hb dX9_product_1 rfl (lv_at hl 1 rfl) ?_
  refine z_ci hW hS hA (va_runV (As := [.int 2]) (rest := []) ⟨hx, hb, hml, hown, hts⟩ (sx_X9_atom_2x l G ad c I ⟨(by show 0 ≤ (I 12 1).toInt ∧ (I 12 1).toInt ≤ 500; exact hR.1), (by show 0 ≤ (I 12 5).toInt ∧ (I 12 5).toInt ≤ 501; exact hR.2.1), (by show (-1) ≤ (I 12 6).toInt ∧ (I 12 6).toInt ≤ 1000000; exact hR.2.2.1), (by show 0 ≤ (I 12 9).toInt ∧ (I 12 9).toInt ≤ 500; exact hR.2.2.2.1), (by show 0 ≤ (I 12 13).toInt ∧ (I 12 13).toInt ≤ 24; exact hR.2.2.2.2)⟩ (by show (I 12 6).toInt ≤ 501 ∧ ((I 12 7).toInt = 401 ∨ (I 12 6).toInt ≤ 500); first | omega | decide) k (zr_P_m hP hM0 (by omega)) _) (cwV 1 hts gX9_product_X9_atom rfl rfl rfl (by decide +kernel) ⟨Nat.le_of_ble_eq_true rfl, Nat.le_of_ble_eq_true rfl⟩) (z_preV (i := 12) hK hW rfl rfl) rfl rfl hl.1 rfl (lv_room (Nat.le_of_ble_eq_true rfl)) dX9_product_2 ⟨Nat.le_of_ble_eq_true rfl, Nat.le_of_ble_eq_true rfl⟩) (fun r u1 H locs hp hW hS => ?_)
  obtain ⟨I1, e9, hI1R, hI1T, fI1, hp⟩ := hp
  rw [e9] at hW
  have f2 := z_fr_sub (L := L_X9_product_2x) z_fr_0 fI1 (by decide)
  have k3 : (I1 12 6).toInt ≤ 501 ∧ ((I1 12 7).toInt = 401 ∨ (I1 12 6).toInt ≤ 500) := hI1T
  rcases hp with ⟨rfl, hq⟩ | ⟨rfl, hq⟩
  · obtain ⟨k4, cs5, hm6, h7, h8, h9⟩ := hq
    have ho10 := zr_okS hM0 h9
    have hM11 := (show zr_M I I1 k4 cs5 from zr_M_t hM0 hm6 hP.2.2.2.2.1)
    have h12 := hM11.1
    have h13 := hM11.2.1
    have h14 := hM11.2.2.1
    have h15 := hM11.2.2.2.1
    have l16 : (cs5).length = cs5.length := by first | rfl | (simp only [List.length_append, List.length_cons, List.length_nil] <;> omega)
    refine lv_if_ne (tgt := 10) hx hb dX9_product_5 (by decide) (fun c17 => ?_) (fun c17 => absurd c17 (by decide))
    refine lv_iconst (v := 0) hx hb dX9_product_10 (by decide) ?_
    refine lv_istore_n (lv' := [(2, .int 0), (0, .ref (ad 12)), (1, .int 2)]) hx hb dX9_product_11 rfl hl (by decide) rfl (fun ls hl => ?_)
    have lp18 : ∀ (f : Nat) (y19 : Int32) (I20 : z_I) (H : Heap) (locs : List Loc) (ls : Array Slot), (2147483647 < y19.toInt + (f : Int)) → (0 ≤ y19.toInt) → (z_iR I20) → (z_iT I20) → (zr_lp 1 2 I I20 k y19.toInt) → (z_fr L_X9_product_2x I20 I) → z_W G A (shC c, ad, I20, JX, PC c ad) H → va_S A s.heap H locs → lv_has ls 4 [(2, .int y19), (0, .ref (ad 12)), (1, .int 2)] → W p l e (headSpec wsX9_product { frames := 55, cells := 0, slots := 0, locals := 1231 }).room s m ([.ref (ad 12), .int 2] : List Value).toArray below meth c0 H locs 0 0 (MQ below (va_Qi (fun (r : Int32) (u1 : z_U) => ∃ I1 : z_I, u1 = (shC c, ad, I1, JX, PC c ad) ∧ z_iR I1 ∧ z_iT I1 ∧ z_fr L_X9_product_2x I1 I ∧ ((r = 1 ∧ zr_ok 1 2 I I1 k) ∨ (r = 0 ∧ zr_no 1 2 I I1 k))) (z_B G A) A) ([.ref (ad 12), .int 2] : List Value).toArray s 0 0 A) (F0 m 12 ls []) := by
      intro f
      induction f with
      | zero => intro y19 I20  H locs ls lp18m lp18l2 lp18R lp18T lp18LP lp18fr hW hS hl; exact absurd lp18m (by have := Int32.toInt_lt y19; have := Int32.le_toInt y19; omega)
      | succ f lp18ih =>
        intro y19 I20  H locs ls lp18m lp18l2 lp18R lp18T lp18LP lp18fr hW hS hl
        have k21 : (I20 12 6).toInt ≤ 501 ∧ ((I20 12 7).toInt = 401 ∨ (I20 12 6).toInt ≤ 500) := lp18T
        refine lv_iload_n hx hb dX9_product_12 rfl (lv_at hl 0 rfl) ?_
        obtain ⟨k22, cs23, hm24, h25, h26, lp27⟩ := lp18LP
        have hM28 := hm24
        have h29 := hM28.1
        have h30 := hM28.2.1
        have h31 := hM28.2.2.1
        have h32 := hM28.2.2.2.1
        have l33 : (cs23).length = cs23.length := by first | rfl | (simp only [List.length_append, List.length_cons, List.length_nil] <;> omega)
        refine lv_sipush (v := 500) hx hb dX9_product_13 (by decide) ?_
        refine lv_icmp_ge (tgt := 79) hx hb dX9_product_16 (by decide) (fun c34 => ?_) (fun c34 => ?_)
        · have g35 := z_f_ge rfl z_l500 c34
          have b36 := Int32.toInt_lt y19
          refine lv_iconst (v := 1) hx hb dX9_product_79 (by decide) ?_
          exact z_zret hx hb hr (by decide) hK hS (Nat.le_of_ble_eq_true rfl) (Nat.le_of_ble_eq_true rfl) hlocks dX9_product_80 (shC c, ad, I20, JX, PC c ad) hW ⟨I20, rfl, ⟨(by show 0 ≤ (I20 12 1).toInt ∧ (I20 12 1).toInt ≤ 500; exact lp18R.1), (by show 0 ≤ (I20 12 5).toInt ∧ (I20 12 5).toInt ≤ 501; exact lp18R.2.1), (by show (-1) ≤ (I20 12 6).toInt ∧ (I20 12 6).toInt ≤ 1000000; exact lp18R.2.2.1), (by show 0 ≤ (I20 12 9).toInt ∧ (I20 12 9).toInt ≤ 500; exact lp18R.2.2.2.1), (by show 0 ≤ (I20 12 13).toInt ∧ (I20 12 13).toInt ≤ 24; exact lp18R.2.2.2.2)⟩, (by show (I20 12 6).toInt ≤ 501 ∧ ((I20 12 7).toInt = 401 ∨ (I20 12 6).toInt ≤ 500); first | omega | decide), lp18fr, (False.elim (by omega))⟩
        · have g37 := z_f_nge rfl z_l500 c34
          have b38 := Int32.toInt_lt y19
          refine lv_aload_n hx hb dX9_product_19 rfl (lv_at hl 1 rfl) ?_
          refine z_get (T := TX9) (N := 14) (ci := 9) (i := 12) (v := .int (I20 12 7)) hx hb hts zj_X9_product_X9 hown hK hW rfl rfl 7 (by decide) (hts (.fieldLink RX9 62 "PetrolBoard$Reader" "token" "I") (me_s (me_l (me_l (List.mem_of_getElem? (i := 0) rfl))))) (fun _ h => h) rfl dX9_product_20 ?_
          refine lv_bipush (v := 42) hx hb dX9_product_23 (by decide) ?_
          refine lv_icmp_eq (tgt := 37) hx hb dX9_product_25 (by decide) (fun c39 => ?_) (fun c39 => ?_)
          · have g40 := z_f_eq rfl z_l42 c39
            have b41 := Int32.toInt_lt (I20 12 7)
            refine lv_aload_n hx hb dX9_product_37 rfl (lv_at hl 1 rfl) ?_
            refine z_get (T := TX9) (N := 14) (ci := 9) (i := 12) (v := .int (I20 12 7)) hx hb hts zj_X9_product_X9 hown hK hW rfl rfl 7 (by decide) (hts (.fieldLink RX9 62 "PetrolBoard$Reader" "token" "I") (me_s (me_l (me_l (List.mem_of_getElem? (i := 0) rfl))))) (fun _ h => h) rfl dX9_product_38 ?_
            refine lv_istore_n (lv' := [(3, .int (I20 12 7)), (2, .int y19), (0, .ref (ad 12)), (1, .int 2)]) hx hb dX9_product_41 rfl hl (by decide) rfl (fun ls hl => ?_)
            refine lv_aload_n hx hb dX9_product_42 rfl (lv_at hl 2 rfl) ?_
            have q42 := zr_Q_n (zr_Q_m hP hM28) (by rw [zr_tkS hM28]; omega)
            refine z_cv hW hS hA (va_runV (As := []) (rest := []) ⟨hx, hb, hml, hown, hts⟩ (sx_X9_step_x l G ad c I20 ⟨(by show 0 ≤ (I20 12 1).toInt ∧ (I20 12 1).toInt ≤ 500; exact lp18R.1), (by show 0 ≤ (I20 12 5).toInt ∧ (I20 12 5).toInt ≤ 501; exact lp18R.2.1), (by show (-1) ≤ (I20 12 6).toInt ∧ (I20 12 6).toInt ≤ 1000000; exact lp18R.2.2.1), (by show 0 ≤ (I20 12 9).toInt ∧ (I20 12 9).toInt ≤ 500; exact lp18R.2.2.2.1), (by show 0 ≤ (I20 12 13).toInt ∧ (I20 12 13).toInt ≤ 24; exact lp18R.2.2.2.2)⟩ (k22 + 1) q42 _) (cwV 0 hts gX9_product_X9_step rfl rfl rfl (by decide +kernel) ⟨Nat.le_of_ble_eq_true rfl, Nat.le_of_ble_eq_true rfl⟩) (z_preV (i := 12) hK hW rfl rfl) rfl rfl hl.1 rfl (lv_room (Nat.le_of_ble_eq_true rfl)) dX9_product_43 ⟨Nat.le_of_ble_eq_true rfl, Nat.le_of_ble_eq_true rfl⟩) (fun u1 H locs hp hW hS => ?_)
            obtain ⟨I43, e9, hI43R, hI43T, fI43, hp⟩ := hp
            rw [e9] at hW
            have f44 := z_fr_sub (L := L_X9_product_2x) lp18fr fI43 (by decide)
            have k45 : (I43 12 6).toInt ≤ 501 ∧ ((I43 12 7).toInt = 401 ∨ (I43 12 6).toInt ≤ 500) := hI43T
            have hM46 := zr_M_s hM28 hp hP.2.2.2.2.1
            have h47 := hM46.1
            have h48 := hM46.2.1
            have h49 := hM46.2.2.1
            have h50 := hM46.2.2.2.1
            have l51 : (cs23).length = cs23.length := by first | rfl | (simp only [List.length_append, List.length_cons, List.length_nil] <;> omega)
            refine lv_aload_n hx hb dX9_product_46 rfl (lv_at hl 2 rfl) ?_
            refine lv_iload_n hx hb dX9_product_47 rfl (lv_at hl 3 rfl) ?_
            refine z_ci hW hS hA (va_runV (As := [.int 2]) (rest := []) ⟨hx, hb, hml, hown, hts⟩ (sx_X9_atom_2x l G ad c I43 ⟨(by show 0 ≤ (I43 12 1).toInt ∧ (I43 12 1).toInt ≤ 500; exact hI43R.1), (by show 0 ≤ (I43 12 5).toInt ∧ (I43 12 5).toInt ≤ 501; exact hI43R.2.1), (by show (-1) ≤ (I43 12 6).toInt ∧ (I43 12 6).toInt ≤ 1000000; exact hI43R.2.2.1), (by show 0 ≤ (I43 12 9).toInt ∧ (I43 12 9).toInt ≤ 500; exact hI43R.2.2.2.1), (by show 0 ≤ (I43 12 13).toInt ∧ (I43 12 13).toInt ≤ 24; exact hI43R.2.2.2.2)⟩ (by show (I43 12 6).toInt ≤ 501 ∧ ((I43 12 7).toInt = 401 ∨ (I43 12 6).toInt ≤ 500); first | omega | decide) (k22 + 1) (zr_P_m hP hM46 (by omega)) _) (cwV 1 hts gX9_product_X9_atom rfl rfl rfl (by decide +kernel) ⟨Nat.le_of_ble_eq_true rfl, Nat.le_of_ble_eq_true rfl⟩) (z_preV (i := 12) hK hW rfl rfl) rfl rfl hl.1 rfl (lv_room (Nat.le_of_ble_eq_true rfl)) dX9_product_48 ⟨Nat.le_of_ble_eq_true rfl, Nat.le_of_ble_eq_true rfl⟩) (fun r u1 H locs hp hW hS => ?_)
            obtain ⟨I52, e9, hI52R, hI52T, fI52, hp⟩ := hp
            rw [e9] at hW
            have f53 := z_fr_sub (L := L_X9_product_2x) f44 fI52 (by decide)
            have k54 : (I52 12 6).toInt ≤ 501 ∧ ((I52 12 7).toInt = 401 ∨ (I52 12 6).toInt ≤ 500) := hI52T
            rcases hp with ⟨rfl, hq⟩ | ⟨rfl, hq⟩
            · obtain ⟨k55, cs56, hm57, h58, h59, h60⟩ := hq
              have ho61 := zr_okS hM46 h60
              have hM62 := zr_M_t hM46 hm57 hP.2.2.2.2.1
              have h63 := hM62.1
              have h64 := hM62.2.1
              have h65 := hM62.2.2.1
              have h66 := hM62.2.2.2.1
              have l67 : ((cs23 ++ cs56)).length = cs23.length + cs56.length := by first | rfl | (simp only [List.length_append, List.length_cons, List.length_nil] <;> omega)
              refine lv_if_ne (tgt := 56) hx hb dX9_product_51 (by decide) (fun c68 => ?_) (fun c68 => absurd c68 (by decide))
              refine lv_aload_n hx hb dX9_product_56 rfl (lv_at hl 2 rfl) ?_
              refine lv_iload_n hx hb dX9_product_57 rfl (lv_at hl 0 rfl) ?_
              refine lv_bipush (v := 42) hx hb dX9_product_58 (by decide) ?_
              refine lv_icmp_ne (tgt := 68) hx hb dX9_product_60 (by decide) (fun c69 => (by have g := z_f_ne rfl z_l42 c69; omega)) (fun c69 => ?_)
              have g70 := z_f_eq rfl z_l42 c69
              refine lv_bipush (v := (-3)) hx hb dX9_product_63 (by decide) ?_
              refine lv_goto (tgt := 70) hx hb dX9_product_65 (by decide) ?_
              refine z_cv hW hS hA (va_runV (As := [.int (-3)]) (rest := []) ⟨hx, hb, hml, hown, hts⟩ (sx_X9_emit_x l G ad c I52 ⟨(by show 0 ≤ (I52 12 1).toInt ∧ (I52 12 1).toInt ≤ 500; exact hI52R.1), (by show 0 ≤ (I52 12 5).toInt ∧ (I52 12 5).toInt ≤ 501; exact hI52R.2.1), (by show (-1) ≤ (I52 12 6).toInt ∧ (I52 12 6).toInt ≤ 1000000; exact hI52R.2.2.1), (by show 0 ≤ (I52 12 9).toInt ∧ (I52 12 9).toInt ≤ 500; exact hI52R.2.2.2.1), (by show 0 ≤ (I52 12 13).toInt ∧ (I52 12 13).toInt ≤ 24; exact hI52R.2.2.2.2)⟩ (-3) (by omega) _) (cwV 1 hts gX9_product_X9_emit rfl rfl rfl (by decide +kernel) ⟨Nat.le_of_ble_eq_true rfl, Nat.le_of_ble_eq_true rfl⟩) (z_preV (i := 12) hK hW rfl rfl) rfl rfl hl.1 rfl (lv_room (Nat.le_of_ble_eq_true rfl)) dX9_product_70 ⟨Nat.le_of_ble_eq_true rfl, Nat.le_of_ble_eq_true rfl⟩) (fun u1 H locs hp hW hS => ?_)
              obtain ⟨I71, e9, hI71R, fI71, hp⟩ := hp
              rw [e9] at hW
              have f72 := z_fr_sub (L := L_X9_product_2x) f53 fI71 (by decide)
              have k73 : (I71 12 6).toInt ≤ 501 ∧ ((I71 12 7).toInt = 401 ∨ (I71 12 6).toInt ≤ 500) := (by have q0 : (I71 12 6) = (I52 12 6) := (by rw [fI71 12 6 (by decide)]); have q1 : (I71 12 7) = (I52 12 7) := (by rw [fI71 12 7 (by decide)]); show (I71 12 6).toInt ≤ 501 ∧ ((I71 12 7).toInt = 401 ∨ (I71 12 6).toInt ≤ 500); rw [q0, q1]; first | omega | decide)
              have hM74 := zr_M_e hM62 hp (show ((-3) : Int32).toInt = (-3) by decide) hP.2.2.2.2.1
              have h75 := hM74.1
              have h76 := hM74.2.1
              have h77 := hM74.2.2.1
              have h78 := hM74.2.2.2.1
              have l79 : (((cs23 ++ cs56) ++ [(-3)])).length = cs23.length + cs56.length + 1 := by first | rfl | (simp only [List.length_append, List.length_cons, List.length_nil] <;> omega)
              obtain ⟨x80, ex80⟩ : ∃ y : Int32, y = y19 + 1 := ⟨_, rfl⟩
              have tx80 : x80.toInt = y19.toInt + 1 := z_tadd ex80 rfl z_l1 (by omega) (by omega)
              refine lv_iinc (v := x80) (lv' := [(2, .int x80), (3, .int (I20 12 7)), (0, .ref (ad 12)), (1, .int 2)]) hx hb dX9_product_73 hl (k := 1) rfl (by rw [ex80]; rfl) (by decide) rfl (fun ls hl => ?_)
              refine lv_goto (tgt := 12) hx hb dX9_product_76 (by decide) ?_
              exact lp18ih x80 I71  _ _ _ (by omega) (by omega) ⟨(by show 0 ≤ (I71 12 1).toInt ∧ (I71 12 1).toInt ≤ 500; exact hI71R.1), (by show 0 ≤ (I71 12 5).toInt ∧ (I71 12 5).toInt ≤ 501; exact hI71R.2.1), (by show (-1) ≤ (I71 12 6).toInt ∧ (I71 12 6).toInt ≤ 1000000; exact hI71R.2.2.1), (by show 0 ≤ (I71 12 9).toInt ∧ (I71 12 9).toInt ≤ 500; exact hI71R.2.2.2.1), (by show 0 ≤ (I71 12 13).toInt ∧ (I71 12 13).toInt ≤ 24; exact hI71R.2.2.2.2)⟩ (by show (I71 12 6).toInt ≤ 501 ∧ ((I71 12 7).toInt = 401 ∨ (I71 12 6).toInt ≤ 500); first | omega | decide) (zr_lp_of hM74 (by rw [zr_e1m (show zr_tk I k22 = 42 by omega), List.append_assoc]) (by omega) (by omega) (zp_L2 (by decide) (Or.inr (Or.inl rfl)) lp27 (zr_g1p (by omega)) ho61)) f72 hW hS (lv_sub hl [0, 2, 3] rfl)
            · obtain ⟨f81, hf82, h83⟩ := hq
              have hb84 := zr_noS hM46 h83
              have hF85 := zr_F_m hM46 hf82
              refine lv_if_ne (tgt := 56) hx hb dX9_product_51 (by decide) (fun c86 => absurd (by decide) c86) (fun c86 => ?_)
              refine lv_iconst (v := 0) hx hb dX9_product_54 (by decide) ?_
              exact z_zret hx hb hr (by decide) hK hS (Nat.le_of_ble_eq_true rfl) (Nat.le_of_ble_eq_true rfl) hlocks dX9_product_55 (shC c, ad, I52, JX, PC c ad) hW ⟨I52, rfl, ⟨(by show 0 ≤ (I52 12 1).toInt ∧ (I52 12 1).toInt ≤ 500; exact hI52R.1), (by show 0 ≤ (I52 12 5).toInt ∧ (I52 12 5).toInt ≤ 501; exact hI52R.2.1), (by show (-1) ≤ (I52 12 6).toInt ∧ (I52 12 6).toInt ≤ 1000000; exact hI52R.2.2.1), (by show 0 ≤ (I52 12 9).toInt ∧ (I52 12 9).toInt ≤ 500; exact hI52R.2.2.2.1), (by show 0 ≤ (I52 12 13).toInt ∧ (I52 12 13).toInt ≤ 24; exact hI52R.2.2.2.2)⟩, (by show (I52 12 6).toInt ≤ 501 ∧ ((I52 12 7).toInt = 401 ∨ (I52 12 6).toInt ≤ 500); first | omega | decide), f53, (Or.inr ⟨rfl, f81, hF85, (zp_L5 (by decide) (Or.inr (Or.inl rfl)) lp27 (zr_g1p (by omega)) hb84)⟩)⟩
          · have g87 := z_f_ne rfl z_l42 c39
            have b88 := Int32.toInt_lt (I20 12 7)
            refine lv_aload_n hx hb dX9_product_28 rfl (lv_at hl 1 rfl) ?_
            refine z_get (T := TX9) (N := 14) (ci := 9) (i := 12) (v := .int (I20 12 7)) hx hb hts zj_X9_product_X9 hown hK hW rfl rfl 7 (by decide) (hts (.fieldLink RX9 62 "PetrolBoard$Reader" "token" "I") (me_s (me_l (me_l (List.mem_of_getElem? (i := 0) rfl))))) (fun _ h => h) rfl dX9_product_29 ?_
            refine lv_bipush (v := 47) hx hb dX9_product_32 (by decide) ?_
            refine lv_icmp_ne (tgt := 79) hx hb dX9_product_34 (by decide) (fun c89 => ?_) (fun c89 => ?_)
            · have g90 := z_f_ne rfl z_l47 c89
              refine lv_iconst (v := 1) hx hb dX9_product_79 (by decide) ?_
              exact z_zret hx hb hr (by decide) hK hS (Nat.le_of_ble_eq_true rfl) (Nat.le_of_ble_eq_true rfl) hlocks dX9_product_80 (shC c, ad, I20, JX, PC c ad) hW ⟨I20, rfl, ⟨(by show 0 ≤ (I20 12 1).toInt ∧ (I20 12 1).toInt ≤ 500; exact lp18R.1), (by show 0 ≤ (I20 12 5).toInt ∧ (I20 12 5).toInt ≤ 501; exact lp18R.2.1), (by show (-1) ≤ (I20 12 6).toInt ∧ (I20 12 6).toInt ≤ 1000000; exact lp18R.2.2.1), (by show 0 ≤ (I20 12 9).toInt ∧ (I20 12 9).toInt ≤ 500; exact lp18R.2.2.2.1), (by show 0 ≤ (I20 12 13).toInt ∧ (I20 12 13).toInt ≤ 24; exact lp18R.2.2.2.2)⟩, (by show (I20 12 6).toInt ≤ 501 ∧ ((I20 12 7).toInt = 401 ∨ (I20 12 6).toInt ≤ 500); first | omega | decide), lp18fr, (Or.inl ⟨rfl, zr_ok_of hM28 rfl (by omega) (by omega) (zp_L3 (Or.inr (Or.inl rfl)) lp27 (zr_g1n (by omega) (by omega)))⟩)⟩
            · have g91 := z_f_eq rfl z_l47 c89
              refine lv_aload_n hx hb dX9_product_37 rfl (lv_at hl 1 rfl) ?_
              refine z_get (T := TX9) (N := 14) (ci := 9) (i := 12) (v := .int (I20 12 7)) hx hb hts zj_X9_product_X9 hown hK hW rfl rfl 7 (by decide) (hts (.fieldLink RX9 62 "PetrolBoard$Reader" "token" "I") (me_s (me_l (me_l (List.mem_of_getElem? (i := 0) rfl))))) (fun _ h => h) rfl dX9_product_38 ?_
              refine lv_istore_n (lv' := [(3, .int (I20 12 7)), (2, .int y19), (0, .ref (ad 12)), (1, .int 2)]) hx hb dX9_product_41 rfl hl (by decide) rfl (fun ls hl => ?_)
              refine lv_aload_n hx hb dX9_product_42 rfl (lv_at hl 2 rfl) ?_
              have q92 := zr_Q_n (zr_Q_m hP hM28) (by rw [zr_tkS hM28]; omega)
              refine z_cv hW hS hA (va_runV (As := []) (rest := []) ⟨hx, hb, hml, hown, hts⟩ (sx_X9_step_x l G ad c I20 ⟨(by show 0 ≤ (I20 12 1).toInt ∧ (I20 12 1).toInt ≤ 500; exact lp18R.1), (by show 0 ≤ (I20 12 5).toInt ∧ (I20 12 5).toInt ≤ 501; exact lp18R.2.1), (by show (-1) ≤ (I20 12 6).toInt ∧ (I20 12 6).toInt ≤ 1000000; exact lp18R.2.2.1), (by show 0 ≤ (I20 12 9).toInt ∧ (I20 12 9).toInt ≤ 500; exact lp18R.2.2.2.1), (by show 0 ≤ (I20 12 13).toInt ∧ (I20 12 13).toInt ≤ 24; exact lp18R.2.2.2.2)⟩ (k22 + 1) q92 _) (cwV 0 hts gX9_product_X9_step rfl rfl rfl (by decide +kernel) ⟨Nat.le_of_ble_eq_true rfl, Nat.le_of_ble_eq_true rfl⟩) (z_preV (i := 12) hK hW rfl rfl) rfl rfl hl.1 rfl (lv_room (Nat.le_of_ble_eq_true rfl)) dX9_product_43 ⟨Nat.le_of_ble_eq_true rfl, Nat.le_of_ble_eq_true rfl⟩) (fun u1 H locs hp hW hS => ?_)
              obtain ⟨I93, e9, hI93R, hI93T, fI93, hp⟩ := hp
              rw [e9] at hW
              have f94 := z_fr_sub (L := L_X9_product_2x) lp18fr fI93 (by decide)
              have k95 : (I93 12 6).toInt ≤ 501 ∧ ((I93 12 7).toInt = 401 ∨ (I93 12 6).toInt ≤ 500) := hI93T
              have hM96 := zr_M_s hM28 hp hP.2.2.2.2.1
              have h97 := hM96.1
              have h98 := hM96.2.1
              have h99 := hM96.2.2.1
              have h100 := hM96.2.2.2.1
              have l101 : (cs23).length = cs23.length := by first | rfl | (simp only [List.length_append, List.length_cons, List.length_nil] <;> omega)
              refine lv_aload_n hx hb dX9_product_46 rfl (lv_at hl 2 rfl) ?_
              refine lv_iload_n hx hb dX9_product_47 rfl (lv_at hl 3 rfl) ?_
              refine z_ci hW hS hA (va_runV (As := [.int 2]) (rest := []) ⟨hx, hb, hml, hown, hts⟩ (sx_X9_atom_2x l G ad c I93 ⟨(by show 0 ≤ (I93 12 1).toInt ∧ (I93 12 1).toInt ≤ 500; exact hI93R.1), (by show 0 ≤ (I93 12 5).toInt ∧ (I93 12 5).toInt ≤ 501; exact hI93R.2.1), (by show (-1) ≤ (I93 12 6).toInt ∧ (I93 12 6).toInt ≤ 1000000; exact hI93R.2.2.1), (by show 0 ≤ (I93 12 9).toInt ∧ (I93 12 9).toInt ≤ 500; exact hI93R.2.2.2.1), (by show 0 ≤ (I93 12 13).toInt ∧ (I93 12 13).toInt ≤ 24; exact hI93R.2.2.2.2)⟩ (by show (I93 12 6).toInt ≤ 501 ∧ ((I93 12 7).toInt = 401 ∨ (I93 12 6).toInt ≤ 500); first | omega | decide) (k22 + 1) (zr_P_m hP hM96 (by omega)) _) (cwV 1 hts gX9_product_X9_atom rfl rfl rfl (by decide +kernel) ⟨Nat.le_of_ble_eq_true rfl, Nat.le_of_ble_eq_true rfl⟩) (z_preV (i := 12) hK hW rfl rfl) rfl rfl hl.1 rfl (lv_room (Nat.le_of_ble_eq_true rfl)) dX9_product_48 ⟨Nat.le_of_ble_eq_true rfl, Nat.le_of_ble_eq_true rfl⟩) (fun r u1 H locs hp hW hS => ?_)
              obtain ⟨I102, e9, hI102R, hI102T, fI102, hp⟩ := hp
              rw [e9] at hW
              have f103 := z_fr_sub (L := L_X9_product_2x) f94 fI102 (by decide)
              have k104 : (I102 12 6).toInt ≤ 501 ∧ ((I102 12 7).toInt = 401 ∨ (I102 12 6).toInt ≤ 500) := hI102T
              rcases hp with ⟨rfl, hq⟩ | ⟨rfl, hq⟩
              · obtain ⟨k105, cs106, hm107, h108, h109, h110⟩ := hq
                have ho111 := zr_okS hM96 h110
                have hM112 := zr_M_t hM96 hm107 hP.2.2.2.2.1
                have h113 := hM112.1
                have h114 := hM112.2.1
                have h115 := hM112.2.2.1
                have h116 := hM112.2.2.2.1
                have l117 : ((cs23 ++ cs106)).length = cs23.length + cs106.length := by first | rfl | (simp only [List.length_append, List.length_cons, List.length_nil] <;> omega)
                refine lv_if_ne (tgt := 56) hx hb dX9_product_51 (by decide) (fun c118 => ?_) (fun c118 => absurd c118 (by decide))
                refine lv_aload_n hx hb dX9_product_56 rfl (lv_at hl 2 rfl) ?_
                refine lv_iload_n hx hb dX9_product_57 rfl (lv_at hl 0 rfl) ?_
                refine lv_bipush (v := 42) hx hb dX9_product_58 (by decide) ?_
                refine lv_icmp_ne (tgt := 68) hx hb dX9_product_60 (by decide) (fun c119 => ?_) (fun c119 => (by have g := z_f_eq rfl z_l42 c119; omega))
                have g120 := z_f_ne rfl z_l42 c119
                refine lv_bipush (v := (-4)) hx hb dX9_product_68 (by decide) ?_
                refine z_cv hW hS hA (va_runV (As := [.int (-4)]) (rest := []) ⟨hx, hb, hml, hown, hts⟩ (sx_X9_emit_x l G ad c I102 ⟨(by show 0 ≤ (I102 12 1).toInt ∧ (I102 12 1).toInt ≤ 500; exact hI102R.1), (by show 0 ≤ (I102 12 5).toInt ∧ (I102 12 5).toInt ≤ 501; exact hI102R.2.1), (by show (-1) ≤ (I102 12 6).toInt ∧ (I102 12 6).toInt ≤ 1000000; exact hI102R.2.2.1), (by show 0 ≤ (I102 12 9).toInt ∧ (I102 12 9).toInt ≤ 500; exact hI102R.2.2.2.1), (by show 0 ≤ (I102 12 13).toInt ∧ (I102 12 13).toInt ≤ 24; exact hI102R.2.2.2.2)⟩ (-4) (by omega) _) (cwV 1 hts gX9_product_X9_emit rfl rfl rfl (by decide +kernel) ⟨Nat.le_of_ble_eq_true rfl, Nat.le_of_ble_eq_true rfl⟩) (z_preV (i := 12) hK hW rfl rfl) rfl rfl hl.1 rfl (lv_room (Nat.le_of_ble_eq_true rfl)) dX9_product_70 ⟨Nat.le_of_ble_eq_true rfl, Nat.le_of_ble_eq_true rfl⟩) (fun u1 H locs hp hW hS => ?_)
                obtain ⟨I121, e9, hI121R, fI121, hp⟩ := hp
                rw [e9] at hW
                have f122 := z_fr_sub (L := L_X9_product_2x) f103 fI121 (by decide)
                have k123 : (I121 12 6).toInt ≤ 501 ∧ ((I121 12 7).toInt = 401 ∨ (I121 12 6).toInt ≤ 500) := (by have q0 : (I121 12 6) = (I102 12 6) := (by rw [fI121 12 6 (by decide)]); have q1 : (I121 12 7) = (I102 12 7) := (by rw [fI121 12 7 (by decide)]); show (I121 12 6).toInt ≤ 501 ∧ ((I121 12 7).toInt = 401 ∨ (I121 12 6).toInt ≤ 500); rw [q0, q1]; first | omega | decide)
                have hM124 := zr_M_e hM112 hp (show ((-4) : Int32).toInt = (-4) by decide) hP.2.2.2.2.1
                have h125 := hM124.1
                have h126 := hM124.2.1
                have h127 := hM124.2.2.1
                have h128 := hM124.2.2.2.1
                have l129 : (((cs23 ++ cs106) ++ [(-4)])).length = cs23.length + cs106.length + 1 := by first | rfl | (simp only [List.length_append, List.length_cons, List.length_nil] <;> omega)
                obtain ⟨x130, ex130⟩ : ∃ y : Int32, y = y19 + 1 := ⟨_, rfl⟩
                have tx130 : x130.toInt = y19.toInt + 1 := z_tadd ex130 rfl z_l1 (by omega) (by omega)
                refine lv_iinc (v := x130) (lv' := [(2, .int x130), (3, .int (I20 12 7)), (0, .ref (ad 12)), (1, .int 2)]) hx hb dX9_product_73 hl (k := 1) rfl (by rw [ex130]; rfl) (by decide) rfl (fun ls hl => ?_)
                refine lv_goto (tgt := 12) hx hb dX9_product_76 (by decide) ?_
                exact lp18ih x130 I121  _ _ _ (by omega) (by omega) ⟨(by show 0 ≤ (I121 12 1).toInt ∧ (I121 12 1).toInt ≤ 500; exact hI121R.1), (by show 0 ≤ (I121 12 5).toInt ∧ (I121 12 5).toInt ≤ 501; exact hI121R.2.1), (by show (-1) ≤ (I121 12 6).toInt ∧ (I121 12 6).toInt ≤ 1000000; exact hI121R.2.2.1), (by show 0 ≤ (I121 12 9).toInt ∧ (I121 12 9).toInt ≤ 500; exact hI121R.2.2.2.1), (by show 0 ≤ (I121 12 13).toInt ∧ (I121 12 13).toInt ≤ 24; exact hI121R.2.2.2.2)⟩ (by show (I121 12 6).toInt ≤ 501 ∧ ((I121 12 7).toInt = 401 ∨ (I121 12 6).toInt ≤ 500); first | omega | decide) (zr_lp_of hM124 (by rw [zr_e1d (show zr_tk I k22 = 47 by omega), List.append_assoc]) (by omega) (by omega) (zp_L2 (by decide) (Or.inr (Or.inl rfl)) lp27 (zr_g1p (by omega)) ho111)) f122 hW hS (lv_sub hl [0, 2, 3] rfl)
              · obtain ⟨f131, hf132, h133⟩ := hq
                have hb134 := zr_noS hM96 h133
                have hF135 := zr_F_m hM96 hf132
                refine lv_if_ne (tgt := 56) hx hb dX9_product_51 (by decide) (fun c136 => absurd (by decide) c136) (fun c136 => ?_)
                refine lv_iconst (v := 0) hx hb dX9_product_54 (by decide) ?_
                exact z_zret hx hb hr (by decide) hK hS (Nat.le_of_ble_eq_true rfl) (Nat.le_of_ble_eq_true rfl) hlocks dX9_product_55 (shC c, ad, I102, JX, PC c ad) hW ⟨I102, rfl, ⟨(by show 0 ≤ (I102 12 1).toInt ∧ (I102 12 1).toInt ≤ 500; exact hI102R.1), (by show 0 ≤ (I102 12 5).toInt ∧ (I102 12 5).toInt ≤ 501; exact hI102R.2.1), (by show (-1) ≤ (I102 12 6).toInt ∧ (I102 12 6).toInt ≤ 1000000; exact hI102R.2.2.1), (by show 0 ≤ (I102 12 9).toInt ∧ (I102 12 9).toInt ≤ 500; exact hI102R.2.2.2.1), (by show 0 ≤ (I102 12 13).toInt ∧ (I102 12 13).toInt ≤ 24; exact hI102R.2.2.2.2)⟩, (by show (I102 12 6).toInt ≤ 501 ∧ ((I102 12 7).toInt = 401 ∨ (I102 12 6).toInt ≤ 500); first | omega | decide), f103, (Or.inr ⟨rfl, f131, hF135, (zp_L5 (by decide) (Or.inr (Or.inl rfl)) lp27 (zr_g1p (by omega)) hb134)⟩)⟩
    exact lp18 4294967296 (0) I1  _ _ _ (z_m0u _) (by rw [z_l0]; omega) ⟨(by show 0 ≤ (I1 12 1).toInt ∧ (I1 12 1).toInt ≤ 500; exact hI1R.1), (by show 0 ≤ (I1 12 5).toInt ∧ (I1 12 5).toInt ≤ 501; exact hI1R.2.1), (by show (-1) ≤ (I1 12 6).toInt ∧ (I1 12 6).toInt ≤ 1000000; exact hI1R.2.2.1), (by show 0 ≤ (I1 12 9).toInt ∧ (I1 12 9).toInt ≤ 500; exact hI1R.2.2.2.1), (by show 0 ≤ (I1 12 13).toInt ∧ (I1 12 13).toInt ≤ 24; exact hI1R.2.2.2.2)⟩ (by show (I1 12 6).toInt ≤ 501 ∧ ((I1 12 7).toInt = 401 ∨ (I1 12 6).toInt ≤ 500); first | omega | decide) (zr_lp_of hM11 rfl (by have := z_l0; omega) (by omega) (zp_L1 (by decide) (Or.inr (Or.inl rfl)) ho10)) f2 hW hS (lv_sub hl [0, 1, 2] rfl)
  · obtain ⟨f137, hf138, h139⟩ := hq
    have hb140 := zr_noS hM0 h139
    have hF141 := zr_F_m hM0 hf138
    refine lv_if_ne (tgt := 10) hx hb dX9_product_5 (by decide) (fun c142 => absurd (by decide) c142) (fun c142 => ?_)
    refine lv_iconst (v := 0) hx hb dX9_product_8 (by decide) ?_
    exact z_zret hx hb hr (by decide) hK hS (Nat.le_of_ble_eq_true rfl) (Nat.le_of_ble_eq_true rfl) hlocks dX9_product_9 (shC c, ad, I1, JX, PC c ad) hW ⟨I1, rfl, ⟨(by show 0 ≤ (I1 12 1).toInt ∧ (I1 12 1).toInt ≤ 500; exact hI1R.1), (by show 0 ≤ (I1 12 5).toInt ∧ (I1 12 5).toInt ≤ 501; exact hI1R.2.1), (by show (-1) ≤ (I1 12 6).toInt ∧ (I1 12 6).toInt ≤ 1000000; exact hI1R.2.2.1), (by show 0 ≤ (I1 12 9).toInt ∧ (I1 12 9).toInt ≤ 500; exact hI1R.2.2.2.1), (by show 0 ≤ (I1 12 13).toInt ∧ (I1 12 13).toInt ≤ 24; exact hI1R.2.2.2.2)⟩, (by show (I1 12 6).toInt ≤ 501 ∧ ((I1 12 7).toInt = 401 ∨ (I1 12 6).toInt ≤ 500); first | omega | decide), f2, (Or.inr ⟨rfl, f137, hF141, (zp_L4 (by decide) (Or.inr (Or.inl rfl)) hb140)⟩)⟩
noncomputable def L_X9_sum_2x : z_L := [(12, 6), (12, 7), (17, 999), (12, 9)]
set_option maxHeartbeats 8000000 in
set_option maxRecDepth 100000 in
theorem sx_X9_sum_2x (l : Launch) (G : z_G) (ad : Nat → Nat) (c : z_C) (I : z_I) (hR : z_iR I) (hT : z_iT I) (k : Nat) (hP : zr_P I k) : z_M l yX9_sum wsX9_sum { frames := 56, cells := 0, slots := 0, locals := 1254 } [.ref (ad 12), .int 2] G (shC c, ad, I, JX, PC c ad) (fun r u1 => ∃ I1 : z_I, u1 = (shC c, ad, I1, JX, PC c ad) ∧ z_iR I1 ∧ z_iT I1 ∧ z_fr L_X9_sum_2x I1 I ∧ ((r = 1 ∧ zr_ok 0 2 I I1 k) ∨ (r = 0 ∧ zr_no 0 2 I I1 k))) 0 0 := by
  intro sz
  refine z_headQ (cc := cX9_sum) (maxL := 4) (ret := (some .boolean)) (by decide) rfl (Nat.le_of_ble_eq_true rfl) ?_
  intro p e s m below meth c0 ls hIn hK hsz hW hl
  obtain ⟨hx, hb, hr, hml, hown, hts, hlocks, hname⟩ := hIn
  subst hsz
  have hown : s.vm.findClass RX9 = some m.cls := hown
  have hA : ∀ q : Nat, s.heap.size ≤ q → z_A (shC c, ad, I, JX, PC c ad) s.heap.size q := fun q h => Or.inr h
  generalize hAe : z_A (shC c, ad, I, JX, PC c ad) s.heap.size = A at *
  have hS : va_S A s.heap s.heap [] := va_S.rf
  have hl : lv_has ls 4 [(0, .ref (ad 12)), (1, .int 2)] := hl
  have hM0 := zr_M_0 hP
  have hP1 := hP.1
  have hP2 := hP.2.1
  have hP3 := hP.2.2.1
  have hP4 := hP.2.2.2.1
  have hP5 := hP.2.2.2.2.1
  have hP6 := hP.2.2.2.2.2.1
  have hlz : ([] : List Int).length = 0 := rfl
  have kT : (I 12 6).toInt ≤ 501 ∧ ((I 12 7).toInt = 401 ∨ (I 12 6).toInt ≤ 500) := hT
  refine lv_aload_n hx hb dX9_sum_0 rfl (lv_at hl 0 rfl) ?_
  refine lv_iload_n hx hb dX9_sum_1 rfl (lv_at hl 1 rfl) ?_
  refine z_ci hW hS hA (va_runV (As := [.int 2]) (rest := []) ⟨hx, hb, hml, hown, hts⟩ (sx_X9_product_2x l G ad c I ⟨(by show 0 ≤ (I 12 1).toInt ∧ (I 12 1).toInt ≤ 500; exact hR.1), (by show 0 ≤ (I 12 5).toInt ∧ (I 12 5).toInt ≤ 501; exact hR.2.1), (by show (-1) ≤ (I 12 6).toInt ∧ (I 12 6).toInt ≤ 1000000; exact hR.2.2.1), (by show 0 ≤ (I 12 9).toInt ∧ (I 12 9).toInt ≤ 500; exact hR.2.2.2.1), (by show 0 ≤ (I 12 13).toInt ∧ (I 12 13).toInt ≤ 24; exact hR.2.2.2.2)⟩ (by show (I 12 6).toInt ≤ 501 ∧ ((I 12 7).toInt = 401 ∨ (I 12 6).toInt ≤ 500); first | omega | decide) k (zr_P_m hP hM0 (by omega)) _) (cwV 1 hts gX9_sum_X9_product rfl rfl rfl (by decide +kernel) ⟨Nat.le_of_ble_eq_true rfl, Nat.le_of_ble_eq_true rfl⟩) (z_preV (i := 12) hK hW rfl rfl) rfl rfl hl.1 rfl (lv_room (Nat.le_of_ble_eq_true rfl)) dX9_sum_2 ⟨Nat.le_of_ble_eq_true rfl, Nat.le_of_ble_eq_true rfl⟩) (fun r u1 H locs hp hW hS => ?_)
  obtain ⟨I1, e9, hI1R, hI1T, fI1, hp⟩ := hp
  rw [e9] at hW
  have f2 := z_fr_sub (L := L_X9_sum_2x) z_fr_0 fI1 (by decide)
  have k3 : (I1 12 6).toInt ≤ 501 ∧ ((I1 12 7).toInt = 401 ∨ (I1 12 6).toInt ≤ 500) := hI1T
  rcases hp with ⟨rfl, hq⟩ | ⟨rfl, hq⟩
  · obtain ⟨k4, cs5, hm6, h7, h8, h9⟩ := hq
    have ho10 := zr_okS hM0 h9
    have hM11 := (show zr_M I I1 k4 cs5 from zr_M_t hM0 hm6 hP.2.2.2.2.1)
    have h12 := hM11.1
    have h13 := hM11.2.1
    have h14 := hM11.2.2.1
    have h15 := hM11.2.2.2.1
    have l16 : (cs5).length = cs5.length := by first | rfl | (simp only [List.length_append, List.length_cons, List.length_nil] <;> omega)
    refine lv_if_ne (tgt := 10) hx hb dX9_sum_5 (by decide) (fun c17 => ?_) (fun c17 => absurd c17 (by decide))
    refine lv_iconst (v := 0) hx hb dX9_sum_10 (by decide) ?_
    refine lv_istore_n (lv' := [(2, .int 0), (0, .ref (ad 12)), (1, .int 2)]) hx hb dX9_sum_11 rfl hl (by decide) rfl (fun ls hl => ?_)
    have lp18 : ∀ (f : Nat) (y19 : Int32) (I20 : z_I) (H : Heap) (locs : List Loc) (ls : Array Slot), (2147483647 < y19.toInt + (f : Int)) → (0 ≤ y19.toInt) → (z_iR I20) → (z_iT I20) → (zr_lp 0 2 I I20 k y19.toInt) → (z_fr L_X9_sum_2x I20 I) → z_W G A (shC c, ad, I20, JX, PC c ad) H → va_S A s.heap H locs → lv_has ls 4 [(2, .int y19), (0, .ref (ad 12)), (1, .int 2)] → W p l e (headSpec wsX9_sum { frames := 56, cells := 0, slots := 0, locals := 1254 }).room s m ([.ref (ad 12), .int 2] : List Value).toArray below meth c0 H locs 0 0 (MQ below (va_Qi (fun (r : Int32) (u1 : z_U) => ∃ I1 : z_I, u1 = (shC c, ad, I1, JX, PC c ad) ∧ z_iR I1 ∧ z_iT I1 ∧ z_fr L_X9_sum_2x I1 I ∧ ((r = 1 ∧ zr_ok 0 2 I I1 k) ∨ (r = 0 ∧ zr_no 0 2 I I1 k))) (z_B G A) A) ([.ref (ad 12), .int 2] : List Value).toArray s 0 0 A) (F0 m 12 ls []) := by
      intro f
      induction f with
      | zero => intro y19 I20  H locs ls lp18m lp18l2 lp18R lp18T lp18LP lp18fr hW hS hl; exact absurd lp18m (by have := Int32.toInt_lt y19; have := Int32.le_toInt y19; omega)
      | succ f lp18ih =>
        intro y19 I20  H locs ls lp18m lp18l2 lp18R lp18T lp18LP lp18fr hW hS hl
        have k21 : (I20 12 6).toInt ≤ 501 ∧ ((I20 12 7).toInt = 401 ∨ (I20 12 6).toInt ≤ 500) := lp18T
        refine lv_iload_n hx hb dX9_sum_12 rfl (lv_at hl 0 rfl) ?_
        obtain ⟨k22, cs23, hm24, h25, h26, lp27⟩ := lp18LP
        have hM28 := hm24
        have h29 := hM28.1
        have h30 := hM28.2.1
        have h31 := hM28.2.2.1
        have h32 := hM28.2.2.2.1
        have l33 : (cs23).length = cs23.length := by first | rfl | (simp only [List.length_append, List.length_cons, List.length_nil] <;> omega)
        refine lv_sipush (v := 500) hx hb dX9_sum_13 (by decide) ?_
        refine lv_icmp_ge (tgt := 78) hx hb dX9_sum_16 (by decide) (fun c34 => ?_) (fun c34 => ?_)
        · have g35 := z_f_ge rfl z_l500 c34
          have b36 := Int32.toInt_lt y19
          refine lv_iconst (v := 1) hx hb dX9_sum_78 (by decide) ?_
          exact z_zret hx hb hr (by decide) hK hS (Nat.le_of_ble_eq_true rfl) (Nat.le_of_ble_eq_true rfl) hlocks dX9_sum_79 (shC c, ad, I20, JX, PC c ad) hW ⟨I20, rfl, ⟨(by show 0 ≤ (I20 12 1).toInt ∧ (I20 12 1).toInt ≤ 500; exact lp18R.1), (by show 0 ≤ (I20 12 5).toInt ∧ (I20 12 5).toInt ≤ 501; exact lp18R.2.1), (by show (-1) ≤ (I20 12 6).toInt ∧ (I20 12 6).toInt ≤ 1000000; exact lp18R.2.2.1), (by show 0 ≤ (I20 12 9).toInt ∧ (I20 12 9).toInt ≤ 500; exact lp18R.2.2.2.1), (by show 0 ≤ (I20 12 13).toInt ∧ (I20 12 13).toInt ≤ 24; exact lp18R.2.2.2.2)⟩, (by show (I20 12 6).toInt ≤ 501 ∧ ((I20 12 7).toInt = 401 ∨ (I20 12 6).toInt ≤ 500); first | omega | decide), lp18fr, (False.elim (by omega))⟩
        · have g37 := z_f_nge rfl z_l500 c34
          have b38 := Int32.toInt_lt y19
          refine lv_aload_n hx hb dX9_sum_19 rfl (lv_at hl 1 rfl) ?_
          refine z_get (T := TX9) (N := 14) (ci := 9) (i := 12) (v := .int (I20 12 7)) hx hb hts zj_X9_sum_X9 hown hK hW rfl rfl 7 (by decide) (hts (.fieldLink RX9 62 "PetrolBoard$Reader" "token" "I") (me_s (me_l (me_l (List.mem_of_getElem? (i := 0) rfl))))) (fun _ h => h) rfl dX9_sum_20 ?_
          refine lv_bipush (v := 43) hx hb dX9_sum_23 (by decide) ?_
          refine lv_icmp_eq (tgt := 37) hx hb dX9_sum_25 (by decide) (fun c39 => ?_) (fun c39 => ?_)
          · have g40 := z_f_eq rfl z_l43 c39
            have b41 := Int32.toInt_lt (I20 12 7)
            refine lv_aload_n hx hb dX9_sum_37 rfl (lv_at hl 1 rfl) ?_
            refine z_get (T := TX9) (N := 14) (ci := 9) (i := 12) (v := .int (I20 12 7)) hx hb hts zj_X9_sum_X9 hown hK hW rfl rfl 7 (by decide) (hts (.fieldLink RX9 62 "PetrolBoard$Reader" "token" "I") (me_s (me_l (me_l (List.mem_of_getElem? (i := 0) rfl))))) (fun _ h => h) rfl dX9_sum_38 ?_
            refine lv_istore_n (lv' := [(3, .int (I20 12 7)), (2, .int y19), (0, .ref (ad 12)), (1, .int 2)]) hx hb dX9_sum_41 rfl hl (by decide) rfl (fun ls hl => ?_)
            refine lv_aload_n hx hb dX9_sum_42 rfl (lv_at hl 2 rfl) ?_
            have q42 := zr_Q_n (zr_Q_m hP hM28) (by rw [zr_tkS hM28]; omega)
            refine z_cv hW hS hA (va_runV (As := []) (rest := []) ⟨hx, hb, hml, hown, hts⟩ (sx_X9_step_x l G ad c I20 ⟨(by show 0 ≤ (I20 12 1).toInt ∧ (I20 12 1).toInt ≤ 500; exact lp18R.1), (by show 0 ≤ (I20 12 5).toInt ∧ (I20 12 5).toInt ≤ 501; exact lp18R.2.1), (by show (-1) ≤ (I20 12 6).toInt ∧ (I20 12 6).toInt ≤ 1000000; exact lp18R.2.2.1), (by show 0 ≤ (I20 12 9).toInt ∧ (I20 12 9).toInt ≤ 500; exact lp18R.2.2.2.1), (by show 0 ≤ (I20 12 13).toInt ∧ (I20 12 13).toInt ≤ 24; exact lp18R.2.2.2.2)⟩ (k22 + 1) q42 _) (cwV 0 hts gX9_sum_X9_step rfl rfl rfl (by decide +kernel) ⟨Nat.le_of_ble_eq_true rfl, Nat.le_of_ble_eq_true rfl⟩) (z_preV (i := 12) hK hW rfl rfl) rfl rfl hl.1 rfl (lv_room (Nat.le_of_ble_eq_true rfl)) dX9_sum_43 ⟨Nat.le_of_ble_eq_true rfl, Nat.le_of_ble_eq_true rfl⟩) (fun u1 H locs hp hW hS => ?_)
            obtain ⟨I43, e9, hI43R, hI43T, fI43, hp⟩ := hp
            rw [e9] at hW
            have f44 := z_fr_sub (L := L_X9_sum_2x) lp18fr fI43 (by decide)
            have k45 : (I43 12 6).toInt ≤ 501 ∧ ((I43 12 7).toInt = 401 ∨ (I43 12 6).toInt ≤ 500) := hI43T
            have hM46 := zr_M_s hM28 hp hP.2.2.2.2.1
            have h47 := hM46.1
            have h48 := hM46.2.1
            have h49 := hM46.2.2.1
            have h50 := hM46.2.2.2.1
            have l51 : (cs23).length = cs23.length := by first | rfl | (simp only [List.length_append, List.length_cons, List.length_nil] <;> omega)
            refine lv_aload_n hx hb dX9_sum_46 rfl (lv_at hl 2 rfl) ?_
            refine lv_iload_n hx hb dX9_sum_47 rfl (lv_at hl 3 rfl) ?_
            refine z_ci hW hS hA (va_runV (As := [.int 2]) (rest := []) ⟨hx, hb, hml, hown, hts⟩ (sx_X9_product_2x l G ad c I43 ⟨(by show 0 ≤ (I43 12 1).toInt ∧ (I43 12 1).toInt ≤ 500; exact hI43R.1), (by show 0 ≤ (I43 12 5).toInt ∧ (I43 12 5).toInt ≤ 501; exact hI43R.2.1), (by show (-1) ≤ (I43 12 6).toInt ∧ (I43 12 6).toInt ≤ 1000000; exact hI43R.2.2.1), (by show 0 ≤ (I43 12 9).toInt ∧ (I43 12 9).toInt ≤ 500; exact hI43R.2.2.2.1), (by show 0 ≤ (I43 12 13).toInt ∧ (I43 12 13).toInt ≤ 24; exact hI43R.2.2.2.2)⟩ (by show (I43 12 6).toInt ≤ 501 ∧ ((I43 12 7).toInt = 401 ∨ (I43 12 6).toInt ≤ 500); first | omega | decide) (k22 + 1) (zr_P_m hP hM46 (by omega)) _) (cwV 1 hts gX9_sum_X9_product rfl rfl rfl (by decide +kernel) ⟨Nat.le_of_ble_eq_true rfl, Nat.le_of_ble_eq_true rfl⟩) (z_preV (i := 12) hK hW rfl rfl) rfl rfl hl.1 rfl (lv_room (Nat.le_of_ble_eq_true rfl)) dX9_sum_48 ⟨Nat.le_of_ble_eq_true rfl, Nat.le_of_ble_eq_true rfl⟩) (fun r u1 H locs hp hW hS => ?_)
            obtain ⟨I52, e9, hI52R, hI52T, fI52, hp⟩ := hp
            rw [e9] at hW
            have f53 := z_fr_sub (L := L_X9_sum_2x) f44 fI52 (by decide)
            have k54 : (I52 12 6).toInt ≤ 501 ∧ ((I52 12 7).toInt = 401 ∨ (I52 12 6).toInt ≤ 500) := hI52T
            rcases hp with ⟨rfl, hq⟩ | ⟨rfl, hq⟩
            · obtain ⟨k55, cs56, hm57, h58, h59, h60⟩ := hq
              have ho61 := zr_okS hM46 h60
              have hM62 := zr_M_t hM46 hm57 hP.2.2.2.2.1
              have h63 := hM62.1
              have h64 := hM62.2.1
              have h65 := hM62.2.2.1
              have h66 := hM62.2.2.2.1
              have l67 : ((cs23 ++ cs56)).length = cs23.length + cs56.length := by first | rfl | (simp only [List.length_append, List.length_cons, List.length_nil] <;> omega)
              refine lv_if_ne (tgt := 56) hx hb dX9_sum_51 (by decide) (fun c68 => ?_) (fun c68 => absurd c68 (by decide))
              refine lv_aload_n hx hb dX9_sum_56 rfl (lv_at hl 2 rfl) ?_
              refine lv_iload_n hx hb dX9_sum_57 rfl (lv_at hl 0 rfl) ?_
              refine lv_bipush (v := 43) hx hb dX9_sum_58 (by decide) ?_
              refine lv_icmp_ne (tgt := 67) hx hb dX9_sum_60 (by decide) (fun c69 => (by have g := z_f_ne rfl z_l43 c69; omega)) (fun c69 => ?_)
              have g70 := z_f_eq rfl z_l43 c69
              refine lv_iconst (v := (-1)) hx hb dX9_sum_63 (by decide) ?_
              refine lv_goto (tgt := 69) hx hb dX9_sum_64 (by decide) ?_
              refine z_cv hW hS hA (va_runV (As := [.int (-1)]) (rest := []) ⟨hx, hb, hml, hown, hts⟩ (sx_X9_emit_x l G ad c I52 ⟨(by show 0 ≤ (I52 12 1).toInt ∧ (I52 12 1).toInt ≤ 500; exact hI52R.1), (by show 0 ≤ (I52 12 5).toInt ∧ (I52 12 5).toInt ≤ 501; exact hI52R.2.1), (by show (-1) ≤ (I52 12 6).toInt ∧ (I52 12 6).toInt ≤ 1000000; exact hI52R.2.2.1), (by show 0 ≤ (I52 12 9).toInt ∧ (I52 12 9).toInt ≤ 500; exact hI52R.2.2.2.1), (by show 0 ≤ (I52 12 13).toInt ∧ (I52 12 13).toInt ≤ 24; exact hI52R.2.2.2.2)⟩ (-1) (by omega) _) (cwV 1 hts gX9_sum_X9_emit rfl rfl rfl (by decide +kernel) ⟨Nat.le_of_ble_eq_true rfl, Nat.le_of_ble_eq_true rfl⟩) (z_preV (i := 12) hK hW rfl rfl) rfl rfl hl.1 rfl (lv_room (Nat.le_of_ble_eq_true rfl)) dX9_sum_69 ⟨Nat.le_of_ble_eq_true rfl, Nat.le_of_ble_eq_true rfl⟩) (fun u1 H locs hp hW hS => ?_)
              obtain ⟨I71, e9, hI71R, fI71, hp⟩ := hp
              rw [e9] at hW
              have f72 := z_fr_sub (L := L_X9_sum_2x) f53 fI71 (by decide)
              have k73 : (I71 12 6).toInt ≤ 501 ∧ ((I71 12 7).toInt = 401 ∨ (I71 12 6).toInt ≤ 500) := (by have q0 : (I71 12 6) = (I52 12 6) := (by rw [fI71 12 6 (by decide)]); have q1 : (I71 12 7) = (I52 12 7) := (by rw [fI71 12 7 (by decide)]); show (I71 12 6).toInt ≤ 501 ∧ ((I71 12 7).toInt = 401 ∨ (I71 12 6).toInt ≤ 500); rw [q0, q1]; first | omega | decide)
              have hM74 := zr_M_e hM62 hp (show ((-1) : Int32).toInt = (-1) by decide) hP.2.2.2.2.1
              have h75 := hM74.1
              have h76 := hM74.2.1
              have h77 := hM74.2.2.1
              have h78 := hM74.2.2.2.1
              have l79 : (((cs23 ++ cs56) ++ [(-1)])).length = cs23.length + cs56.length + 1 := by first | rfl | (simp only [List.length_append, List.length_cons, List.length_nil] <;> omega)
              obtain ⟨x80, ex80⟩ : ∃ y : Int32, y = y19 + 1 := ⟨_, rfl⟩
              have tx80 : x80.toInt = y19.toInt + 1 := z_tadd ex80 rfl z_l1 (by omega) (by omega)
              refine lv_iinc (v := x80) (lv' := [(2, .int x80), (3, .int (I20 12 7)), (0, .ref (ad 12)), (1, .int 2)]) hx hb dX9_sum_72 hl (k := 1) rfl (by rw [ex80]; rfl) (by decide) rfl (fun ls hl => ?_)
              refine lv_goto (tgt := 12) hx hb dX9_sum_75 (by decide) ?_
              exact lp18ih x80 I71  _ _ _ (by omega) (by omega) ⟨(by show 0 ≤ (I71 12 1).toInt ∧ (I71 12 1).toInt ≤ 500; exact hI71R.1), (by show 0 ≤ (I71 12 5).toInt ∧ (I71 12 5).toInt ≤ 501; exact hI71R.2.1), (by show (-1) ≤ (I71 12 6).toInt ∧ (I71 12 6).toInt ≤ 1000000; exact hI71R.2.2.1), (by show 0 ≤ (I71 12 9).toInt ∧ (I71 12 9).toInt ≤ 500; exact hI71R.2.2.2.1), (by show 0 ≤ (I71 12 13).toInt ∧ (I71 12 13).toInt ≤ 24; exact hI71R.2.2.2.2)⟩ (by show (I71 12 6).toInt ≤ 501 ∧ ((I71 12 7).toInt = 401 ∨ (I71 12 6).toInt ≤ 500); first | omega | decide) (zr_lp_of hM74 (by rw [zr_e0a (show zr_tk I k22 = 43 by omega), List.append_assoc]) (by omega) (by omega) (zp_L2 (by decide) (Or.inl rfl) lp27 (zr_g0p (by omega)) ho61)) f72 hW hS (lv_sub hl [0, 2, 3] rfl)
            · obtain ⟨f81, hf82, h83⟩ := hq
              have hb84 := zr_noS hM46 h83
              have hF85 := zr_F_m hM46 hf82
              refine lv_if_ne (tgt := 56) hx hb dX9_sum_51 (by decide) (fun c86 => absurd (by decide) c86) (fun c86 => ?_)
              refine lv_iconst (v := 0) hx hb dX9_sum_54 (by decide) ?_
              exact z_zret hx hb hr (by decide) hK hS (Nat.le_of_ble_eq_true rfl) (Nat.le_of_ble_eq_true rfl) hlocks dX9_sum_55 (shC c, ad, I52, JX, PC c ad) hW ⟨I52, rfl, ⟨(by show 0 ≤ (I52 12 1).toInt ∧ (I52 12 1).toInt ≤ 500; exact hI52R.1), (by show 0 ≤ (I52 12 5).toInt ∧ (I52 12 5).toInt ≤ 501; exact hI52R.2.1), (by show (-1) ≤ (I52 12 6).toInt ∧ (I52 12 6).toInt ≤ 1000000; exact hI52R.2.2.1), (by show 0 ≤ (I52 12 9).toInt ∧ (I52 12 9).toInt ≤ 500; exact hI52R.2.2.2.1), (by show 0 ≤ (I52 12 13).toInt ∧ (I52 12 13).toInt ≤ 24; exact hI52R.2.2.2.2)⟩, (by show (I52 12 6).toInt ≤ 501 ∧ ((I52 12 7).toInt = 401 ∨ (I52 12 6).toInt ≤ 500); first | omega | decide), f53, (Or.inr ⟨rfl, f81, hF85, (zp_L5 (by decide) (Or.inl rfl) lp27 (zr_g0p (by omega)) hb84)⟩)⟩
          · have g87 := z_f_ne rfl z_l43 c39
            have b88 := Int32.toInt_lt (I20 12 7)
            refine lv_aload_n hx hb dX9_sum_28 rfl (lv_at hl 1 rfl) ?_
            refine z_get (T := TX9) (N := 14) (ci := 9) (i := 12) (v := .int (I20 12 7)) hx hb hts zj_X9_sum_X9 hown hK hW rfl rfl 7 (by decide) (hts (.fieldLink RX9 62 "PetrolBoard$Reader" "token" "I") (me_s (me_l (me_l (List.mem_of_getElem? (i := 0) rfl))))) (fun _ h => h) rfl dX9_sum_29 ?_
            refine lv_bipush (v := 45) hx hb dX9_sum_32 (by decide) ?_
            refine lv_icmp_ne (tgt := 78) hx hb dX9_sum_34 (by decide) (fun c89 => ?_) (fun c89 => ?_)
            · have g90 := z_f_ne rfl z_l45 c89
              refine lv_iconst (v := 1) hx hb dX9_sum_78 (by decide) ?_
              exact z_zret hx hb hr (by decide) hK hS (Nat.le_of_ble_eq_true rfl) (Nat.le_of_ble_eq_true rfl) hlocks dX9_sum_79 (shC c, ad, I20, JX, PC c ad) hW ⟨I20, rfl, ⟨(by show 0 ≤ (I20 12 1).toInt ∧ (I20 12 1).toInt ≤ 500; exact lp18R.1), (by show 0 ≤ (I20 12 5).toInt ∧ (I20 12 5).toInt ≤ 501; exact lp18R.2.1), (by show (-1) ≤ (I20 12 6).toInt ∧ (I20 12 6).toInt ≤ 1000000; exact lp18R.2.2.1), (by show 0 ≤ (I20 12 9).toInt ∧ (I20 12 9).toInt ≤ 500; exact lp18R.2.2.2.1), (by show 0 ≤ (I20 12 13).toInt ∧ (I20 12 13).toInt ≤ 24; exact lp18R.2.2.2.2)⟩, (by show (I20 12 6).toInt ≤ 501 ∧ ((I20 12 7).toInt = 401 ∨ (I20 12 6).toInt ≤ 500); first | omega | decide), lp18fr, (Or.inl ⟨rfl, zr_ok_of hM28 rfl (by omega) (by omega) (zp_L3 (Or.inl rfl) lp27 (zr_g0n (by omega) (by omega)))⟩)⟩
            · have g91 := z_f_eq rfl z_l45 c89
              refine lv_aload_n hx hb dX9_sum_37 rfl (lv_at hl 1 rfl) ?_
              refine z_get (T := TX9) (N := 14) (ci := 9) (i := 12) (v := .int (I20 12 7)) hx hb hts zj_X9_sum_X9 hown hK hW rfl rfl 7 (by decide) (hts (.fieldLink RX9 62 "PetrolBoard$Reader" "token" "I") (me_s (me_l (me_l (List.mem_of_getElem? (i := 0) rfl))))) (fun _ h => h) rfl dX9_sum_38 ?_
              refine lv_istore_n (lv' := [(3, .int (I20 12 7)), (2, .int y19), (0, .ref (ad 12)), (1, .int 2)]) hx hb dX9_sum_41 rfl hl (by decide) rfl (fun ls hl => ?_)
              refine lv_aload_n hx hb dX9_sum_42 rfl (lv_at hl 2 rfl) ?_
              have q92 := zr_Q_n (zr_Q_m hP hM28) (by rw [zr_tkS hM28]; omega)
              refine z_cv hW hS hA (va_runV (As := []) (rest := []) ⟨hx, hb, hml, hown, hts⟩ (sx_X9_step_x l G ad c I20 ⟨(by show 0 ≤ (I20 12 1).toInt ∧ (I20 12 1).toInt ≤ 500; exact lp18R.1), (by show 0 ≤ (I20 12 5).toInt ∧ (I20 12 5).toInt ≤ 501; exact lp18R.2.1), (by show (-1) ≤ (I20 12 6).toInt ∧ (I20 12 6).toInt ≤ 1000000; exact lp18R.2.2.1), (by show 0 ≤ (I20 12 9).toInt ∧ (I20 12 9).toInt ≤ 500; exact lp18R.2.2.2.1), (by show 0 ≤ (I20 12 13).toInt ∧ (I20 12 13).toInt ≤ 24; exact lp18R.2.2.2.2)⟩ (k22 + 1) q92 _) (cwV 0 hts gX9_sum_X9_step rfl rfl rfl (by decide +kernel) ⟨Nat.le_of_ble_eq_true rfl, Nat.le_of_ble_eq_true rfl⟩) (z_preV (i := 12) hK hW rfl rfl) rfl rfl hl.1 rfl (lv_room (Nat.le_of_ble_eq_true rfl)) dX9_sum_43 ⟨Nat.le_of_ble_eq_true rfl, Nat.le_of_ble_eq_true rfl⟩) (fun u1 H locs hp hW hS => ?_)
              obtain ⟨I93, e9, hI93R, hI93T, fI93, hp⟩ := hp
              rw [e9] at hW
              have f94 := z_fr_sub (L := L_X9_sum_2x) lp18fr fI93 (by decide)
              have k95 : (I93 12 6).toInt ≤ 501 ∧ ((I93 12 7).toInt = 401 ∨ (I93 12 6).toInt ≤ 500) := hI93T
              have hM96 := zr_M_s hM28 hp hP.2.2.2.2.1
              have h97 := hM96.1
              have h98 := hM96.2.1
              have h99 := hM96.2.2.1
              have h100 := hM96.2.2.2.1
              have l101 : (cs23).length = cs23.length := by first | rfl | (simp only [List.length_append, List.length_cons, List.length_nil] <;> omega)
              refine lv_aload_n hx hb dX9_sum_46 rfl (lv_at hl 2 rfl) ?_
              refine lv_iload_n hx hb dX9_sum_47 rfl (lv_at hl 3 rfl) ?_
              refine z_ci hW hS hA (va_runV (As := [.int 2]) (rest := []) ⟨hx, hb, hml, hown, hts⟩ (sx_X9_product_2x l G ad c I93 ⟨(by show 0 ≤ (I93 12 1).toInt ∧ (I93 12 1).toInt ≤ 500; exact hI93R.1), (by show 0 ≤ (I93 12 5).toInt ∧ (I93 12 5).toInt ≤ 501; exact hI93R.2.1), (by show (-1) ≤ (I93 12 6).toInt ∧ (I93 12 6).toInt ≤ 1000000; exact hI93R.2.2.1), (by show 0 ≤ (I93 12 9).toInt ∧ (I93 12 9).toInt ≤ 500; exact hI93R.2.2.2.1), (by show 0 ≤ (I93 12 13).toInt ∧ (I93 12 13).toInt ≤ 24; exact hI93R.2.2.2.2)⟩ (by show (I93 12 6).toInt ≤ 501 ∧ ((I93 12 7).toInt = 401 ∨ (I93 12 6).toInt ≤ 500); first | omega | decide) (k22 + 1) (zr_P_m hP hM96 (by omega)) _) (cwV 1 hts gX9_sum_X9_product rfl rfl rfl (by decide +kernel) ⟨Nat.le_of_ble_eq_true rfl, Nat.le_of_ble_eq_true rfl⟩) (z_preV (i := 12) hK hW rfl rfl) rfl rfl hl.1 rfl (lv_room (Nat.le_of_ble_eq_true rfl)) dX9_sum_48 ⟨Nat.le_of_ble_eq_true rfl, Nat.le_of_ble_eq_true rfl⟩) (fun r u1 H locs hp hW hS => ?_)
              obtain ⟨I102, e9, hI102R, hI102T, fI102, hp⟩ := hp
              rw [e9] at hW
              have f103 := z_fr_sub (L := L_X9_sum_2x) f94 fI102 (by decide)
              have k104 : (I102 12 6).toInt ≤ 501 ∧ ((I102 12 7).toInt = 401 ∨ (I102 12 6).toInt ≤ 500) := hI102T
              rcases hp with ⟨rfl, hq⟩ | ⟨rfl, hq⟩
              · obtain ⟨k105, cs106, hm107, h108, h109, h110⟩ := hq
                have ho111 := zr_okS hM96 h110
                have hM112 := zr_M_t hM96 hm107 hP.2.2.2.2.1
                have h113 := hM112.1
                have h114 := hM112.2.1
                have h115 := hM112.2.2.1
                have h116 := hM112.2.2.2.1
                have l117 : ((cs23 ++ cs106)).length = cs23.length + cs106.length := by first | rfl | (simp only [List.length_append, List.length_cons, List.length_nil] <;> omega)
                refine lv_if_ne (tgt := 56) hx hb dX9_sum_51 (by decide) (fun c118 => ?_) (fun c118 => absurd c118 (by decide))
                refine lv_aload_n hx hb dX9_sum_56 rfl (lv_at hl 2 rfl) ?_
                refine lv_iload_n hx hb dX9_sum_57 rfl (lv_at hl 0 rfl) ?_
                refine lv_bipush (v := 43) hx hb dX9_sum_58 (by decide) ?_
                refine lv_icmp_ne (tgt := 67) hx hb dX9_sum_60 (by decide) (fun c119 => ?_) (fun c119 => (by have g := z_f_eq rfl z_l43 c119; omega))
                have g120 := z_f_ne rfl z_l43 c119
                refine lv_bipush (v := (-2)) hx hb dX9_sum_67 (by decide) ?_
                refine z_cv hW hS hA (va_runV (As := [.int (-2)]) (rest := []) ⟨hx, hb, hml, hown, hts⟩ (sx_X9_emit_x l G ad c I102 ⟨(by show 0 ≤ (I102 12 1).toInt ∧ (I102 12 1).toInt ≤ 500; exact hI102R.1), (by show 0 ≤ (I102 12 5).toInt ∧ (I102 12 5).toInt ≤ 501; exact hI102R.2.1), (by show (-1) ≤ (I102 12 6).toInt ∧ (I102 12 6).toInt ≤ 1000000; exact hI102R.2.2.1), (by show 0 ≤ (I102 12 9).toInt ∧ (I102 12 9).toInt ≤ 500; exact hI102R.2.2.2.1), (by show 0 ≤ (I102 12 13).toInt ∧ (I102 12 13).toInt ≤ 24; exact hI102R.2.2.2.2)⟩ (-2) (by omega) _) (cwV 1 hts gX9_sum_X9_emit rfl rfl rfl (by decide +kernel) ⟨Nat.le_of_ble_eq_true rfl, Nat.le_of_ble_eq_true rfl⟩) (z_preV (i := 12) hK hW rfl rfl) rfl rfl hl.1 rfl (lv_room (Nat.le_of_ble_eq_true rfl)) dX9_sum_69 ⟨Nat.le_of_ble_eq_true rfl, Nat.le_of_ble_eq_true rfl⟩) (fun u1 H locs hp hW hS => ?_)
                obtain ⟨I121, e9, hI121R, fI121, hp⟩ := hp
                rw [e9] at hW
                have f122 := z_fr_sub (L := L_X9_sum_2x) f103 fI121 (by decide)
                have k123 : (I121 12 6).toInt ≤ 501 ∧ ((I121 12 7).toInt = 401 ∨ (I121 12 6).toInt ≤ 500) := (by have q0 : (I121 12 6) = (I102 12 6) := (by rw [fI121 12 6 (by decide)]); have q1 : (I121 12 7) = (I102 12 7) := (by rw [fI121 12 7 (by decide)]); show (I121 12 6).toInt ≤ 501 ∧ ((I121 12 7).toInt = 401 ∨ (I121 12 6).toInt ≤ 500); rw [q0, q1]; first | omega | decide)
                have hM124 := zr_M_e hM112 hp (show ((-2) : Int32).toInt = (-2) by decide) hP.2.2.2.2.1
                have h125 := hM124.1
                have h126 := hM124.2.1
                have h127 := hM124.2.2.1
                have h128 := hM124.2.2.2.1
                have l129 : (((cs23 ++ cs106) ++ [(-2)])).length = cs23.length + cs106.length + 1 := by first | rfl | (simp only [List.length_append, List.length_cons, List.length_nil] <;> omega)
                obtain ⟨x130, ex130⟩ : ∃ y : Int32, y = y19 + 1 := ⟨_, rfl⟩
                have tx130 : x130.toInt = y19.toInt + 1 := z_tadd ex130 rfl z_l1 (by omega) (by omega)
                refine lv_iinc (v := x130) (lv' := [(2, .int x130), (3, .int (I20 12 7)), (0, .ref (ad 12)), (1, .int 2)]) hx hb dX9_sum_72 hl (k := 1) rfl (by rw [ex130]; rfl) (by decide) rfl (fun ls hl => ?_)
                refine lv_goto (tgt := 12) hx hb dX9_sum_75 (by decide) ?_
                exact lp18ih x130 I121  _ _ _ (by omega) (by omega) ⟨(by show 0 ≤ (I121 12 1).toInt ∧ (I121 12 1).toInt ≤ 500; exact hI121R.1), (by show 0 ≤ (I121 12 5).toInt ∧ (I121 12 5).toInt ≤ 501; exact hI121R.2.1), (by show (-1) ≤ (I121 12 6).toInt ∧ (I121 12 6).toInt ≤ 1000000; exact hI121R.2.2.1), (by show 0 ≤ (I121 12 9).toInt ∧ (I121 12 9).toInt ≤ 500; exact hI121R.2.2.2.1), (by show 0 ≤ (I121 12 13).toInt ∧ (I121 12 13).toInt ≤ 24; exact hI121R.2.2.2.2)⟩ (by show (I121 12 6).toInt ≤ 501 ∧ ((I121 12 7).toInt = 401 ∨ (I121 12 6).toInt ≤ 500); first | omega | decide) (zr_lp_of hM124 (by rw [zr_e0s (show zr_tk I k22 = 45 by omega), List.append_assoc]) (by omega) (by omega) (zp_L2 (by decide) (Or.inl rfl) lp27 (zr_g0p (by omega)) ho111)) f122 hW hS (lv_sub hl [0, 2, 3] rfl)
              · obtain ⟨f131, hf132, h133⟩ := hq
                have hb134 := zr_noS hM96 h133
                have hF135 := zr_F_m hM96 hf132
                refine lv_if_ne (tgt := 56) hx hb dX9_sum_51 (by decide) (fun c136 => absurd (by decide) c136) (fun c136 => ?_)
                refine lv_iconst (v := 0) hx hb dX9_sum_54 (by decide) ?_
                exact z_zret hx hb hr (by decide) hK hS (Nat.le_of_ble_eq_true rfl) (Nat.le_of_ble_eq_true rfl) hlocks dX9_sum_55 (shC c, ad, I102, JX, PC c ad) hW ⟨I102, rfl, ⟨(by show 0 ≤ (I102 12 1).toInt ∧ (I102 12 1).toInt ≤ 500; exact hI102R.1), (by show 0 ≤ (I102 12 5).toInt ∧ (I102 12 5).toInt ≤ 501; exact hI102R.2.1), (by show (-1) ≤ (I102 12 6).toInt ∧ (I102 12 6).toInt ≤ 1000000; exact hI102R.2.2.1), (by show 0 ≤ (I102 12 9).toInt ∧ (I102 12 9).toInt ≤ 500; exact hI102R.2.2.2.1), (by show 0 ≤ (I102 12 13).toInt ∧ (I102 12 13).toInt ≤ 24; exact hI102R.2.2.2.2)⟩, (by show (I102 12 6).toInt ≤ 501 ∧ ((I102 12 7).toInt = 401 ∨ (I102 12 6).toInt ≤ 500); first | omega | decide), f103, (Or.inr ⟨rfl, f131, hF135, (zp_L5 (by decide) (Or.inl rfl) lp27 (zr_g0p (by omega)) hb134)⟩)⟩
    exact lp18 4294967296 (0) I1  _ _ _ (z_m0u _) (by rw [z_l0]; omega) ⟨(by show 0 ≤ (I1 12 1).toInt ∧ (I1 12 1).toInt ≤ 500; exact hI1R.1), (by show 0 ≤ (I1 12 5).toInt ∧ (I1 12 5).toInt ≤ 501; exact hI1R.2.1), (by show (-1) ≤ (I1 12 6).toInt ∧ (I1 12 6).toInt ≤ 1000000; exact hI1R.2.2.1), (by show 0 ≤ (I1 12 9).toInt ∧ (I1 12 9).toInt ≤ 500; exact hI1R.2.2.2.1), (by show 0 ≤ (I1 12 13).toInt ∧ (I1 12 13).toInt ≤ 24; exact hI1R.2.2.2.2)⟩ (by show (I1 12 6).toInt ≤ 501 ∧ ((I1 12 7).toInt = 401 ∨ (I1 12 6).toInt ≤ 500); first | omega | decide) (zr_lp_of hM11 rfl (by have := z_l0; omega) (by omega) (zp_L1 (by decide) (Or.inl rfl) ho10)) f2 hW hS (lv_sub hl [0, 1, 2] rfl)
  · obtain ⟨f137, hf138, h139⟩ := hq
    have hb140 := zr_noS hM0 h139
    have hF141 := zr_F_m hM0 hf138
    refine lv_if_ne (tgt := 10) hx hb dX9_sum_5 (by decide) (fun c142 => absurd (by decide) c142) (fun c142 => ?_)
    refine lv_iconst (v := 0) hx hb dX9_sum_8 (by decide) ?_
    exact z_zret hx hb hr (by decide) hK hS (Nat.le_of_ble_eq_true rfl) (Nat.le_of_ble_eq_true rfl) hlocks dX9_sum_9 (shC c, ad, I1, JX, PC c ad) hW ⟨I1, rfl, ⟨(by show 0 ≤ (I1 12 1).toInt ∧ (I1 12 1).toInt ≤ 500; exact hI1R.1), (by show 0 ≤ (I1 12 5).toInt ∧ (I1 12 5).toInt ≤ 501; exact hI1R.2.1), (by show (-1) ≤ (I1 12 6).toInt ∧ (I1 12 6).toInt ≤ 1000000; exact hI1R.2.2.1), (by show 0 ≤ (I1 12 9).toInt ∧ (I1 12 9).toInt ≤ 500; exact hI1R.2.2.2.1), (by show 0 ≤ (I1 12 13).toInt ∧ (I1 12 13).toInt ≤ 24; exact hI1R.2.2.2.2)⟩, (by show (I1 12 6).toInt ≤ 501 ∧ ((I1 12 7).toInt = 401 ∨ (I1 12 6).toInt ≤ 500); first | omega | decide), f2, (Or.inr ⟨rfl, f137, hF141, (zp_L4 (by decide) (Or.inl rfl) hb140)⟩)⟩
noncomputable def L_X9_opened_2x : z_L := [(12, 6), (12, 7), (17, 999), (12, 9)]
set_option maxHeartbeats 8000000 in
set_option maxRecDepth 100000 in
theorem sx_X9_opened_2x (l : Launch) (G : z_G) (ad : Nat → Nat) (c : z_C) (I : z_I) (hR : z_iR I) (hT : z_iT I) (k : Nat) (hP : zr_P I k) (ho : zr_tk I k = 311 ∨ zr_tk I k = 123) : z_M l yX9_opened wsX9_opened { frames := 73, cells := 0, slots := 0, locals := 1595 } [.ref (ad 12), .int 2] G (shC c, ad, I, JX, PC c ad) (fun r u1 => ∃ I1 : z_I, u1 = (shC c, ad, I1, JX, PC c ad) ∧ z_iR I1 ∧ z_iT I1 ∧ z_fr L_X9_opened_2x I1 I ∧ ((r = 1 ∧ zr_ok 5 2 I I1 k) ∨ (r = 0 ∧ zr_no 5 2 I I1 k))) 0 0 := by
  intro sz
  refine z_headQ (cc := cX9_opened) (maxL := 3) (ret := (some .boolean)) (by decide) rfl (Nat.le_of_ble_eq_true rfl) ?_
  intro p e s m below meth c0 ls hIn hK hsz hW hl
  obtain ⟨hx, hb, hr, hml, hown, hts, hlocks, hname⟩ := hIn
  subst hsz
  have hown : s.vm.findClass RX9 = some m.cls := hown
  have hA : ∀ q : Nat, s.heap.size ≤ q → z_A (shC c, ad, I, JX, PC c ad) s.heap.size q := fun q h => Or.inr h
  generalize hAe : z_A (shC c, ad, I, JX, PC c ad) s.heap.size = A at *
  have hS : va_S A s.heap s.heap [] := va_S.rf
  have hl : lv_has ls 3 [(0, .ref (ad 12)), (1, .int 2)] := hl
  have hM0 := zr_M_0 hP
  have hP1 := hP.1
  have hP2 := hP.2.1
  have hP3 := hP.2.2.1
  have hP4 := hP.2.2.2.1
  have hP5 := hP.2.2.2.2.1
  have hP6 := hP.2.2.2.2.2.1
  have hlz : ([] : List Int).length = 0 := rfl
  have kT : (I 12 6).toInt ≤ 501 ∧ ((I 12 7).toInt = 401 ∨ (I 12 6).toInt ≤ 500) := hT
  refine lv_iload_n hx hb dX9_opened_0 rfl (lv_at hl 1 rfl) ?_
  refine lv_bipush (v := 9) hx hb dX9_opened_1 (by decide) ?_
  refine lv_icmp_lt (tgt := 8) hx hb dX9_opened_3 (by decide) (fun c1 => ?_) (fun c1 => absurd (by decide) c1)
  refine lv_aload_n hx hb dX9_opened_8 rfl (lv_at hl 0 rfl) ?_
  refine z_get (T := TX9) (N := 14) (ci := 9) (i := 12) (v := .int (I 12 7)) hx hb hts zj_X9_opened_X9 hown hK hW rfl rfl 7 (by decide) (hts (.fieldLink RX9 62 "PetrolBoard$Reader" "token" "I") (me_s (me_l (me_l (List.mem_of_getElem? (i := 0) rfl))))) (fun _ h => h) rfl dX9_opened_9 ?_
  refine lv_sipush (v := 311) hx hb dX9_opened_12 (by decide) ?_
  refine lv_icmp_ne (tgt := 22) hx hb dX9_opened_15 (by decide) (fun c2 => ?_) (fun c2 => ?_)
  · have g3 := z_f_ne rfl z_l311 c2
    have b4 := Int32.toInt_lt (I 12 7)
    refine lv_iconst (v := 0) hx hb dX9_opened_22 (by decide) ?_
    refine lv_istore_n (lv' := [(2, .int 0), (0, .ref (ad 12)), (1, .int 2)]) hx hb dX9_opened_23 rfl hl (by decide) rfl (fun ls hl => ?_)
    refine lv_aload_n hx hb dX9_opened_24 rfl (lv_at hl 1 rfl) ?_
    have q5 := zr_Q_n (zr_Q_m hP hM0) (by rw [zr_tkS hM0]; omega)
    refine z_cv hW hS hA (va_runV (As := []) (rest := []) ⟨hx, hb, hml, hown, hts⟩ (sx_X9_step_x l G ad c I ⟨(by show 0 ≤ (I 12 1).toInt ∧ (I 12 1).toInt ≤ 500; exact hR.1), (by show 0 ≤ (I 12 5).toInt ∧ (I 12 5).toInt ≤ 501; exact hR.2.1), (by show (-1) ≤ (I 12 6).toInt ∧ (I 12 6).toInt ≤ 1000000; exact hR.2.2.1), (by show 0 ≤ (I 12 9).toInt ∧ (I 12 9).toInt ≤ 500; exact hR.2.2.2.1), (by show 0 ≤ (I 12 13).toInt ∧ (I 12 13).toInt ≤ 24; exact hR.2.2.2.2)⟩ (k + 1) q5 _) (cwV 0 hts gX9_opened_X9_step rfl rfl rfl (by decide +kernel) ⟨Nat.le_of_ble_eq_true rfl, Nat.le_of_ble_eq_true rfl⟩) (z_preV (i := 12) hK hW rfl rfl) rfl rfl hl.1 rfl (lv_room (Nat.le_of_ble_eq_true rfl)) dX9_opened_25 ⟨Nat.le_of_ble_eq_true rfl, Nat.le_of_ble_eq_true rfl⟩) (fun u1 H locs hp hW hS => ?_)
    obtain ⟨I6, e9, hI6R, hI6T, fI6, hp⟩ := hp
    rw [e9] at hW
    have f7 := z_fr_sub (L := L_X9_opened_2x) z_fr_0 fI6 (by decide)
    have k8 : (I6 12 6).toInt ≤ 501 ∧ ((I6 12 7).toInt = 401 ∨ (I6 12 6).toInt ≤ 500) := hI6T
    have hM9 := zr_M_s hM0 hp hP.2.2.2.2.1
    have h11 := hM9.1
    have h12 := hM9.2.1
    have h13 := hM9.2.2.1
    have h14 := hM9.2.2.2.1
    have l15 : (([] : List Int) : List Int).length = 0 := rfl
    refine lv_iload_n hx hb dX9_opened_28 rfl (lv_at hl 0 rfl) ?_
    refine lv_if_ne (tgt := 57) hx hb dX9_opened_29 (by decide) (fun c16 => absurd (by decide) c16) (fun c16 => ?_)
    refine lv_aload_n hx hb dX9_opened_32 rfl (lv_at hl 1 rfl) ?_
    refine lv_iload_n hx hb dX9_opened_33 rfl (lv_at hl 2 rfl) ?_
    refine lv_iconst (v := 1) hx hb dX9_opened_34 (by decide) ?_
    refine lv_iadd hx hb dX9_opened_35 ?_
    refine z_topi (v := 3) (by decide) ?_
    refine z_ci hW hS hA (va_runV (As := [.int 3]) (rest := []) ⟨hx, hb, hml, hown, hts⟩ (sx_X9_either_3x l G ad c I6 ⟨(by show 0 ≤ (I6 12 1).toInt ∧ (I6 12 1).toInt ≤ 500; exact hI6R.1), (by show 0 ≤ (I6 12 5).toInt ∧ (I6 12 5).toInt ≤ 501; exact hI6R.2.1), (by show (-1) ≤ (I6 12 6).toInt ∧ (I6 12 6).toInt ≤ 1000000; exact hI6R.2.2.1), (by show 0 ≤ (I6 12 9).toInt ∧ (I6 12 9).toInt ≤ 500; exact hI6R.2.2.2.1), (by show 0 ≤ (I6 12 13).toInt ∧ (I6 12 13).toInt ≤ 24; exact hI6R.2.2.2.2)⟩ (by show (I6 12 6).toInt ≤ 501 ∧ ((I6 12 7).toInt = 401 ∨ (I6 12 6).toInt ≤ 500); first | omega | decide) (k + 1) (zr_P_m hP hM9 (by omega)) _) (cwV 1 hts gX9_opened_X9_either rfl rfl rfl (by decide +kernel) ⟨Nat.le_of_ble_eq_true rfl, Nat.le_of_ble_eq_true rfl⟩) (z_preV (i := 12) hK hW rfl rfl) rfl rfl hl.1 rfl (lv_room (Nat.le_of_ble_eq_true rfl)) dX9_opened_36 ⟨Nat.le_of_ble_eq_true rfl, Nat.le_of_ble_eq_true rfl⟩) (fun r u1 H locs hp hW hS => ?_)
    obtain ⟨I17, e9, hI17R, hI17T, fI17, hp⟩ := hp
    rw [e9] at hW
    have f18 := z_fr_sub (L := L_X9_opened_2x) f7 fI17 (by decide)
    have k19 : (I17 12 6).toInt ≤ 501 ∧ ((I17 12 7).toInt = 401 ∨ (I17 12 6).toInt ≤ 500) := hI17T
    rcases hp with ⟨rfl, hq⟩ | ⟨rfl, hq⟩
    · obtain ⟨k20, cs21, hm22, h23, h24, h25⟩ := hq
      have ho26 := zr_okS hM9 h25
      have hM27 := (show zr_M I I17 k20 cs21 from zr_M_t hM9 hm22 hP.2.2.2.2.1)
      have h28 := hM27.1
      have h29 := hM27.2.1
      have h30 := hM27.2.2.1
      have h31 := hM27.2.2.2.1
      have l32 : (cs21).length = cs21.length := by first | rfl | (simp only [List.length_append, List.length_cons, List.length_nil] <;> omega)
      refine lv_if_eq (tgt := 55) hx hb dX9_opened_39 (by decide) (fun c33 => absurd c33 (by decide)) (fun c33 => ?_)
      refine lv_aload_n hx hb dX9_opened_42 rfl (lv_at hl 1 rfl) ?_
      refine lv_bipush (v := 125) hx hb dX9_opened_43 (by decide) ?_
      refine z_ci hW hS hA (va_runV (As := [.int 125]) (rest := []) ⟨hx, hb, hml, hown, hts⟩ (sx_X9_taken_x l G ad c I17 ⟨(by show 0 ≤ (I17 12 1).toInt ∧ (I17 12 1).toInt ≤ 500; exact hI17R.1), (by show 0 ≤ (I17 12 5).toInt ∧ (I17 12 5).toInt ≤ 501; exact hI17R.2.1), (by show (-1) ≤ (I17 12 6).toInt ∧ (I17 12 6).toInt ≤ 1000000; exact hI17R.2.2.1), (by show 0 ≤ (I17 12 9).toInt ∧ (I17 12 9).toInt ≤ 500; exact hI17R.2.2.2.1), (by show 0 ≤ (I17 12 13).toInt ∧ (I17 12 13).toInt ≤ 24; exact hI17R.2.2.2.2)⟩ (by show (I17 12 6).toInt ≤ 501 ∧ ((I17 12 7).toInt = 401 ∨ (I17 12 6).toInt ≤ 500); first | omega | decide) k20 125 (zr_P_m hP hM27 (by omega)) (by first | omega | decide) _) (cwV 1 hts gX9_opened_X9_taken rfl rfl rfl (by decide +kernel) ⟨Nat.le_of_ble_eq_true rfl, Nat.le_of_ble_eq_true rfl⟩) (z_preV (i := 12) hK hW rfl rfl) rfl rfl hl.1 rfl (lv_room (Nat.le_of_ble_eq_true rfl)) dX9_opened_45 ⟨Nat.le_of_ble_eq_true rfl, Nat.le_of_ble_eq_true rfl⟩) (fun r u1 H locs hp hW hS => ?_)
      obtain ⟨I34, e9, hI34R, hI34T, fI34, hp⟩ := hp
      rw [e9] at hW
      have f35 := z_fr_sub (L := L_X9_opened_2x) f18 fI34 (by decide)
      have k36 : (I34 12 6).toInt ≤ 501 ∧ ((I34 12 7).toInt = 401 ∨ (I34 12 6).toInt ≤ 500) := hI34T
      rcases hp with ⟨rfl, h37, h38⟩ | ⟨rfl, h37, h38⟩
      · rw [zr_tkS hM27] at h37
        have z39 := z_l125
        have hM40 := zr_M_s hM27 h38 hP.2.2.2.2.1
        have h41 := hM40.1
        have h42 := hM40.2.1
        have h43 := hM40.2.2.1
        have h44 := hM40.2.2.2.1
        have l45 : (cs21).length = cs21.length := by first | rfl | (simp only [List.length_append, List.length_cons, List.length_nil] <;> omega)
        refine lv_if_eq (tgt := 55) hx hb dX9_opened_48 (by decide) (fun c46 => absurd c46 (by decide)) (fun c46 => ?_)
        refine lv_iconst (v := 1) hx hb dX9_opened_51 (by decide) ?_
        refine lv_goto (tgt := 56) hx hb dX9_opened_52 (by decide) ?_
        exact z_zret hx hb hr (by decide) hK hS (Nat.le_of_ble_eq_true rfl) (Nat.le_of_ble_eq_true rfl) hlocks dX9_opened_56 (shC c, ad, I34, JX, PC c ad) hW ⟨I34, rfl, ⟨(by show 0 ≤ (I34 12 1).toInt ∧ (I34 12 1).toInt ≤ 500; exact hI34R.1), (by show 0 ≤ (I34 12 5).toInt ∧ (I34 12 5).toInt ≤ 501; exact hI34R.2.1), (by show (-1) ≤ (I34 12 6).toInt ∧ (I34 12 6).toInt ≤ 1000000; exact hI34R.2.2.1), (by show 0 ≤ (I34 12 9).toInt ∧ (I34 12 9).toInt ≤ 500; exact hI34R.2.2.2.1), (by show 0 ≤ (I34 12 13).toInt ∧ (I34 12 13).toInt ≤ 24; exact hI34R.2.2.2.2)⟩, (by show (I34 12 6).toInt ≤ 501 ∧ ((I34 12 7).toInt = 401 ∨ (I34 12 6).toInt ≤ 500); first | omega | decide), f35, (Or.inl ⟨rfl, zr_ok_of hM40 rfl (by omega) (by omega) (zp_T3 (by decide) (by omega) (by decide) ho26 (by omega))⟩)⟩
      · rw [zr_tkS hM27] at h37
        have z47 := z_l125
        have hM48 := zr_M_s hM27 h38 hP.2.2.2.2.1
        have h49 := hM48.1
        have h50 := hM48.2.1
        have h51 := hM48.2.2.1
        have h52 := hM48.2.2.2.1
        have l53 : (cs21).length = cs21.length := by first | rfl | (simp only [List.length_append, List.length_cons, List.length_nil] <;> omega)
        refine lv_if_eq (tgt := 55) hx hb dX9_opened_48 (by decide) (fun c54 => ?_) (fun c54 => absurd (by decide) c54)
        refine lv_iconst (v := 0) hx hb dX9_opened_55 (by decide) ?_
        exact z_zret hx hb hr (by decide) hK hS (Nat.le_of_ble_eq_true rfl) (Nat.le_of_ble_eq_true rfl) hlocks dX9_opened_56 (shC c, ad, I34, JX, PC c ad) hW ⟨I34, rfl, ⟨(by show 0 ≤ (I34 12 1).toInt ∧ (I34 12 1).toInt ≤ 500; exact hI34R.1), (by show 0 ≤ (I34 12 5).toInt ∧ (I34 12 5).toInt ≤ 501; exact hI34R.2.1), (by show (-1) ≤ (I34 12 6).toInt ∧ (I34 12 6).toInt ≤ 1000000; exact hI34R.2.2.1), (by show 0 ≤ (I34 12 9).toInt ∧ (I34 12 9).toInt ≤ 500; exact hI34R.2.2.2.1), (by show 0 ≤ (I34 12 13).toInt ∧ (I34 12 13).toInt ≤ 24; exact hI34R.2.2.2.2)⟩, (by show (I34 12 6).toInt ≤ 501 ∧ ((I34 12 7).toInt = 401 ∨ (I34 12 6).toInt ≤ 500); first | omega | decide), f35, (Or.inr ⟨rfl, k20, (zr_F_0 hM48), (zp_T4 (by decide) (by omega) (by decide) ho26 (by omega))⟩)⟩
    · obtain ⟨f55, hf56, h57⟩ := hq
      have hb58 := zr_noS hM9 h57
      have hF59 := zr_F_m hM9 hf56
      refine lv_if_eq (tgt := 55) hx hb dX9_opened_39 (by decide) (fun c60 => ?_) (fun c60 => absurd (by decide) c60)
      refine lv_iconst (v := 0) hx hb dX9_opened_55 (by decide) ?_
      exact z_zret hx hb hr (by decide) hK hS (Nat.le_of_ble_eq_true rfl) (Nat.le_of_ble_eq_true rfl) hlocks dX9_opened_56 (shC c, ad, I17, JX, PC c ad) hW ⟨I17, rfl, ⟨(by show 0 ≤ (I17 12 1).toInt ∧ (I17 12 1).toInt ≤ 500; exact hI17R.1), (by show 0 ≤ (I17 12 5).toInt ∧ (I17 12 5).toInt ≤ 501; exact hI17R.2.1), (by show (-1) ≤ (I17 12 6).toInt ∧ (I17 12 6).toInt ≤ 1000000; exact hI17R.2.2.1), (by show 0 ≤ (I17 12 9).toInt ∧ (I17 12 9).toInt ≤ 500; exact hI17R.2.2.2.1), (by show 0 ≤ (I17 12 13).toInt ∧ (I17 12 13).toInt ≤ 24; exact hI17R.2.2.2.2)⟩, (by show (I17 12 6).toInt ≤ 501 ∧ ((I17 12 7).toInt = 401 ∨ (I17 12 6).toInt ≤ 500); first | omega | decide), f18, (Or.inr ⟨rfl, f55, hF59, (zp_T5 (by decide) (by omega) (by decide) hb58)⟩)⟩
  · have g61 := z_f_eq rfl z_l311 c2
    have b62 := Int32.toInt_lt (I 12 7)
    refine lv_iconst (v := 1) hx hb dX9_opened_18 (by decide) ?_
    refine lv_goto (tgt := 23) hx hb dX9_opened_19 (by decide) ?_
    refine lv_istore_n (lv' := [(2, .int 1), (0, .ref (ad 12)), (1, .int 2)]) hx hb dX9_opened_23 rfl hl (by decide) rfl (fun ls hl => ?_)
    refine lv_aload_n hx hb dX9_opened_24 rfl (lv_at hl 1 rfl) ?_
    have q63 := zr_Q_n (zr_Q_m hP hM0) (by rw [zr_tkS hM0]; omega)
    refine z_cv hW hS hA (va_runV (As := []) (rest := []) ⟨hx, hb, hml, hown, hts⟩ (sx_X9_step_x l G ad c I ⟨(by show 0 ≤ (I 12 1).toInt ∧ (I 12 1).toInt ≤ 500; exact hR.1), (by show 0 ≤ (I 12 5).toInt ∧ (I 12 5).toInt ≤ 501; exact hR.2.1), (by show (-1) ≤ (I 12 6).toInt ∧ (I 12 6).toInt ≤ 1000000; exact hR.2.2.1), (by show 0 ≤ (I 12 9).toInt ∧ (I 12 9).toInt ≤ 500; exact hR.2.2.2.1), (by show 0 ≤ (I 12 13).toInt ∧ (I 12 13).toInt ≤ 24; exact hR.2.2.2.2)⟩ (k + 1) q63 _) (cwV 0 hts gX9_opened_X9_step rfl rfl rfl (by decide +kernel) ⟨Nat.le_of_ble_eq_true rfl, Nat.le_of_ble_eq_true rfl⟩) (z_preV (i := 12) hK hW rfl rfl) rfl rfl hl.1 rfl (lv_room (Nat.le_of_ble_eq_true rfl)) dX9_opened_25 ⟨Nat.le_of_ble_eq_true rfl, Nat.le_of_ble_eq_true rfl⟩) (fun u1 H locs hp hW hS => ?_)
    obtain ⟨I64, e9, hI64R, hI64T, fI64, hp⟩ := hp
    rw [e9] at hW
    have f65 := z_fr_sub (L := L_X9_opened_2x) z_fr_0 fI64 (by decide)
    have k66 : (I64 12 6).toInt ≤ 501 ∧ ((I64 12 7).toInt = 401 ∨ (I64 12 6).toInt ≤ 500) := hI64T
    have hM67 := zr_M_s hM0 hp hP.2.2.2.2.1
    have h68 := hM67.1
    have h69 := hM67.2.1
    have h70 := hM67.2.2.1
    have h71 := hM67.2.2.2.1
    have l72 : (([] : List Int) : List Int).length = 0 := rfl
    refine lv_iload_n hx hb dX9_opened_28 rfl (lv_at hl 0 rfl) ?_
    refine lv_if_ne (tgt := 57) hx hb dX9_opened_29 (by decide) (fun c73 => ?_) (fun c73 => absurd c73 (by decide))
    refine lv_aload_n hx hb dX9_opened_57 rfl (lv_at hl 1 rfl) ?_
    refine lv_iload_n hx hb dX9_opened_58 rfl (lv_at hl 2 rfl) ?_
    refine lv_iconst (v := 1) hx hb dX9_opened_59 (by decide) ?_
    refine lv_iadd hx hb dX9_opened_60 ?_
    refine z_topi (v := 3) (by decide) ?_
    refine z_ci hW hS hA (va_runV (As := [.int 3]) (rest := []) ⟨hx, hb, hml, hown, hts⟩ (sx_X9_one_3x l G ad c I64 ⟨(by show 0 ≤ (I64 12 1).toInt ∧ (I64 12 1).toInt ≤ 500; exact hI64R.1), (by show 0 ≤ (I64 12 5).toInt ∧ (I64 12 5).toInt ≤ 501; exact hI64R.2.1), (by show (-1) ≤ (I64 12 6).toInt ∧ (I64 12 6).toInt ≤ 1000000; exact hI64R.2.2.1), (by show 0 ≤ (I64 12 9).toInt ∧ (I64 12 9).toInt ≤ 500; exact hI64R.2.2.2.1), (by show 0 ≤ (I64 12 13).toInt ∧ (I64 12 13).toInt ≤ 24; exact hI64R.2.2.2.2)⟩ (by show (I64 12 6).toInt ≤ 501 ∧ ((I64 12 7).toInt = 401 ∨ (I64 12 6).toInt ≤ 500); first | omega | decide) (k + 1) (zr_P_m hP hM67 (by omega)) _) (cwV 1 hts gX9_opened_X9_one rfl rfl rfl (by decide +kernel) ⟨Nat.le_of_ble_eq_true rfl, Nat.le_of_ble_eq_true rfl⟩) (z_preV (i := 12) hK hW rfl rfl) rfl rfl hl.1 rfl (lv_room (Nat.le_of_ble_eq_true rfl)) dX9_opened_61 ⟨Nat.le_of_ble_eq_true rfl, Nat.le_of_ble_eq_true rfl⟩) (fun r u1 H locs hp hW hS => ?_)
    obtain ⟨I74, e9, hI74R, hI74T, fI74, hp⟩ := hp
    rw [e9] at hW
    have f75 := z_fr_sub (L := L_X9_opened_2x) f65 fI74 (by decide)
    have k76 : (I74 12 6).toInt ≤ 501 ∧ ((I74 12 7).toInt = 401 ∨ (I74 12 6).toInt ≤ 500) := hI74T
    rcases hp with ⟨rfl, hq⟩ | ⟨rfl, hq⟩
    · obtain ⟨k77, cs78, hm79, h80, h81, h82⟩ := hq
      have ho83 := zr_okS hM67 h82
      have hM84 := (show zr_M I I74 k77 cs78 from zr_M_t hM67 hm79 hP.2.2.2.2.1)
      have h85 := hM84.1
      have h86 := hM84.2.1
      have h87 := hM84.2.2.1
      have h88 := hM84.2.2.2.1
      have l89 : (cs78).length = cs78.length := by first | rfl | (simp only [List.length_append, List.length_cons, List.length_nil] <;> omega)
      refine lv_if_ne (tgt := 69) hx hb dX9_opened_64 (by decide) (fun c90 => ?_) (fun c90 => absurd c90 (by decide))
      refine lv_aload_n hx hb dX9_opened_69 rfl (lv_at hl 1 rfl) ?_
      refine lv_bipush (v := (-12)) hx hb dX9_opened_70 (by decide) ?_
      refine z_cv hW hS hA (va_runV (As := [.int (-12)]) (rest := []) ⟨hx, hb, hml, hown, hts⟩ (sx_X9_emit_x l G ad c I74 ⟨(by show 0 ≤ (I74 12 1).toInt ∧ (I74 12 1).toInt ≤ 500; exact hI74R.1), (by show 0 ≤ (I74 12 5).toInt ∧ (I74 12 5).toInt ≤ 501; exact hI74R.2.1), (by show (-1) ≤ (I74 12 6).toInt ∧ (I74 12 6).toInt ≤ 1000000; exact hI74R.2.2.1), (by show 0 ≤ (I74 12 9).toInt ∧ (I74 12 9).toInt ≤ 500; exact hI74R.2.2.2.1), (by show 0 ≤ (I74 12 13).toInt ∧ (I74 12 13).toInt ≤ 24; exact hI74R.2.2.2.2)⟩ (-12) (by omega) _) (cwV 1 hts gX9_opened_X9_emit rfl rfl rfl (by decide +kernel) ⟨Nat.le_of_ble_eq_true rfl, Nat.le_of_ble_eq_true rfl⟩) (z_preV (i := 12) hK hW rfl rfl) rfl rfl hl.1 rfl (lv_room (Nat.le_of_ble_eq_true rfl)) dX9_opened_72 ⟨Nat.le_of_ble_eq_true rfl, Nat.le_of_ble_eq_true rfl⟩) (fun u1 H locs hp hW hS => ?_)
      obtain ⟨I91, e9, hI91R, fI91, hp⟩ := hp
      rw [e9] at hW
      have f92 := z_fr_sub (L := L_X9_opened_2x) f75 fI91 (by decide)
      have k93 : (I91 12 6).toInt ≤ 501 ∧ ((I91 12 7).toInt = 401 ∨ (I91 12 6).toInt ≤ 500) := (by have q0 : (I91 12 6) = (I74 12 6) := (by rw [fI91 12 6 (by decide)]); have q1 : (I91 12 7) = (I74 12 7) := (by rw [fI91 12 7 (by decide)]); show (I91 12 6).toInt ≤ 501 ∧ ((I91 12 7).toInt = 401 ∨ (I91 12 6).toInt ≤ 500); rw [q0, q1]; first | omega | decide)
      have hM94 := zr_M_e hM84 hp (show ((-12) : Int32).toInt = (-12) by decide) hP.2.2.2.2.1
      have h95 := hM94.1
      have h96 := hM94.2.1
      have h97 := hM94.2.2.1
      have h98 := hM94.2.2.2.1
      have l99 : ((cs78 ++ [(-12)])).length = cs78.length + 1 := by first | rfl | (simp only [List.length_append, List.length_cons, List.length_nil] <;> omega)
      refine lv_iconst (v := 1) hx hb dX9_opened_75 (by decide) ?_
      exact z_zret hx hb hr (by decide) hK hS (Nat.le_of_ble_eq_true rfl) (Nat.le_of_ble_eq_true rfl) hlocks dX9_opened_76 (shC c, ad, I91, JX, PC c ad) hW ⟨I91, rfl, ⟨(by show 0 ≤ (I91 12 1).toInt ∧ (I91 12 1).toInt ≤ 500; exact hI91R.1), (by show 0 ≤ (I91 12 5).toInt ∧ (I91 12 5).toInt ≤ 501; exact hI91R.2.1), (by show (-1) ≤ (I91 12 6).toInt ∧ (I91 12 6).toInt ≤ 1000000; exact hI91R.2.2.1), (by show 0 ≤ (I91 12 9).toInt ∧ (I91 12 9).toInt ≤ 500; exact hI91R.2.2.2.1), (by show 0 ≤ (I91 12 13).toInt ∧ (I91 12 13).toInt ≤ 24; exact hI91R.2.2.2.2)⟩, (by show (I91 12 6).toInt ≤ 501 ∧ ((I91 12 7).toInt = 401 ∨ (I91 12 6).toInt ≤ 500); first | omega | decide), f92, (Or.inl ⟨rfl, zr_ok_of hM94 rfl (by omega) (by omega) (zp_T1 (by decide) (by omega) (by decide) ho83)⟩)⟩
    · obtain ⟨f100, hf101, h102⟩ := hq
      have hb103 := zr_noS hM67 h102
      have hF104 := zr_F_m hM67 hf101
      refine lv_if_ne (tgt := 69) hx hb dX9_opened_64 (by decide) (fun c105 => absurd (by decide) c105) (fun c105 => ?_)
      refine lv_iconst (v := 0) hx hb dX9_opened_67 (by decide) ?_
      exact z_zret hx hb hr (by decide) hK hS (Nat.le_of_ble_eq_true rfl) (Nat.le_of_ble_eq_true rfl) hlocks dX9_opened_68 (shC c, ad, I74, JX, PC c ad) hW ⟨I74, rfl, ⟨(by show 0 ≤ (I74 12 1).toInt ∧ (I74 12 1).toInt ≤ 500; exact hI74R.1), (by show 0 ≤ (I74 12 5).toInt ∧ (I74 12 5).toInt ≤ 501; exact hI74R.2.1), (by show (-1) ≤ (I74 12 6).toInt ∧ (I74 12 6).toInt ≤ 1000000; exact hI74R.2.2.1), (by show 0 ≤ (I74 12 9).toInt ∧ (I74 12 9).toInt ≤ 500; exact hI74R.2.2.2.1), (by show 0 ≤ (I74 12 13).toInt ∧ (I74 12 13).toInt ≤ 24; exact hI74R.2.2.2.2)⟩, (by show (I74 12 6).toInt ≤ 501 ∧ ((I74 12 7).toInt = 401 ∨ (I74 12 6).toInt ≤ 500); first | omega | decide), f75, (Or.inr ⟨rfl, f100, hF104, (zp_T2 (by decide) (by omega) (by decide) hb103)⟩)⟩
noncomputable def L_X9_one_2x : z_L := [(12, 6), (12, 7), (17, 999), (12, 9)]
set_option maxHeartbeats 8000000 in
set_option maxRecDepth 100000 in
theorem sx_X9_one_2x (l : Launch) (G : z_G) (ad : Nat → Nat) (c : z_C) (I : z_I) (hR : z_iR I) (hT : z_iT I) (k : Nat) (hP : zr_P I k) : z_M l yX9_one wsX9_one { frames := 74, cells := 0, slots := 0, locals := 1617 } [.ref (ad 12), .int 2] G (shC c, ad, I, JX, PC c ad) (fun r u1 => ∃ I1 : z_I, u1 = (shC c, ad, I1, JX, PC c ad) ∧ z_iR I1 ∧ z_iT I1 ∧ z_fr L_X9_one_2x I1 I ∧ ((r = 1 ∧ zr_ok 5 2 I I1 k) ∨ (r = 0 ∧ zr_no 5 2 I I1 k))) 0 0 := by
  intro sz
  refine z_headQ (cc := cX9_one) (maxL := 3) (ret := (some .boolean)) (by decide) rfl (Nat.le_of_ble_eq_true rfl) ?_
  intro p e s m below meth c0 ls hIn hK hsz hW hl
  obtain ⟨hx, hb, hr, hml, hown, hts, hlocks, hname⟩ := hIn
  subst hsz
  have hown : s.vm.findClass RX9 = some m.cls := hown
  have hA : ∀ q : Nat, s.heap.size ≤ q → z_A (shC c, ad, I, JX, PC c ad) s.heap.size q := fun q h => Or.inr h
  generalize hAe : z_A (shC c, ad, I, JX, PC c ad) s.heap.size = A at *
  have hS : va_S A s.heap s.heap [] := va_S.rf
  have hl : lv_has ls 3 [(0, .ref (ad 12)), (1, .int 2)] := hl
  have hM0 := zr_M_0 hP
  have hP1 := hP.1
  have hP2 := hP.2.1
  have hP3 := hP.2.2.1
  have hP4 := hP.2.2.2.1
  have hP5 := hP.2.2.2.2.1
  have hP6 := hP.2.2.2.2.2.1
  have hlz : ([] : List Int).length = 0 := rfl
  have kT : (I 12 6).toInt ≤ 501 ∧ ((I 12 7).toInt = 401 ∨ (I 12 6).toInt ≤ 500) := hT
  refine lv_aload_n hx hb dX9_one_0 rfl (lv_at hl 0 rfl) ?_
  refine z_get (T := TX9) (N := 14) (ci := 9) (i := 12) (v := .int (I 12 7)) hx hb hts zj_X9_one_X9 hown hK hW rfl rfl 7 (by decide) (hts (.fieldLink RX9 62 "PetrolBoard$Reader" "token" "I") (me_s (me_l (me_l (List.mem_of_getElem? (i := 0) rfl))))) (fun _ h => h) rfl dX9_one_1 ?_
  refine lv_sipush (v := 311) hx hb dX9_one_4 (by decide) ?_
  refine lv_icmp_eq (tgt := 19) hx hb dX9_one_7 (by decide) (fun c1 => ?_) (fun c1 => ?_)
  · have g2 := z_f_eq rfl z_l311 c1
    have b3 := Int32.toInt_lt (I 12 7)
    refine lv_aload_n hx hb dX9_one_19 rfl (lv_at hl 0 rfl) ?_
    refine lv_iload_n hx hb dX9_one_20 rfl (lv_at hl 1 rfl) ?_
    refine z_ci hW hS hA (va_runV (As := [.int 2]) (rest := []) ⟨hx, hb, hml, hown, hts⟩ (sx_X9_opened_2x l G ad c I ⟨(by show 0 ≤ (I 12 1).toInt ∧ (I 12 1).toInt ≤ 500; exact hR.1), (by show 0 ≤ (I 12 5).toInt ∧ (I 12 5).toInt ≤ 501; exact hR.2.1), (by show (-1) ≤ (I 12 6).toInt ∧ (I 12 6).toInt ≤ 1000000; exact hR.2.2.1), (by show 0 ≤ (I 12 9).toInt ∧ (I 12 9).toInt ≤ 500; exact hR.2.2.2.1), (by show 0 ≤ (I 12 13).toInt ∧ (I 12 13).toInt ≤ 24; exact hR.2.2.2.2)⟩ (by show (I 12 6).toInt ≤ 501 ∧ ((I 12 7).toInt = 401 ∨ (I 12 6).toInt ≤ 500); first | omega | decide) k (zr_P_m hP hM0 (by omega)) (by rw [zr_tkS hM0]; omega) _) (cwV 1 hts gX9_one_X9_opened rfl rfl rfl (by decide +kernel) ⟨Nat.le_of_ble_eq_true rfl, Nat.le_of_ble_eq_true rfl⟩) (z_preV (i := 12) hK hW rfl rfl) rfl rfl hl.1 rfl (lv_room (Nat.le_of_ble_eq_true rfl)) dX9_one_21 ⟨Nat.le_of_ble_eq_true rfl, Nat.le_of_ble_eq_true rfl⟩) (fun r u1 H locs hp hW hS => ?_)
    obtain ⟨I4, e9, hI4R, hI4T, fI4, hp⟩ := hp
    rw [e9] at hW
    have f5 := z_fr_sub (L := L_X9_one_2x) z_fr_0 fI4 (by decide)
    have k6 : (I4 12 6).toInt ≤ 501 ∧ ((I4 12 7).toInt = 401 ∨ (I4 12 6).toInt ≤ 500) := hI4T
    rcases hp with ⟨rfl, hq⟩ | ⟨rfl, hq⟩
    · obtain ⟨k7, cs8, hm9, h11, h12, h13⟩ := hq
      have ho14 := zr_okS hM0 h13
      have hM15 := (show zr_M I I4 k7 cs8 from zr_M_t hM0 hm9 hP.2.2.2.2.1)
      have h16 := hM15.1
      have h17 := hM15.2.1
      have h18 := hM15.2.2.1
      have h19 := hM15.2.2.2.1
      have l20 : (cs8).length = cs8.length := by first | rfl | (simp only [List.length_append, List.length_cons, List.length_nil] <;> omega)
      exact z_zret hx hb hr (by decide) hK hS (Nat.le_of_ble_eq_true rfl) (Nat.le_of_ble_eq_true rfl) hlocks dX9_one_24 (shC c, ad, I4, JX, PC c ad) hW ⟨I4, rfl, ⟨(by show 0 ≤ (I4 12 1).toInt ∧ (I4 12 1).toInt ≤ 500; exact hI4R.1), (by show 0 ≤ (I4 12 5).toInt ∧ (I4 12 5).toInt ≤ 501; exact hI4R.2.1), (by show (-1) ≤ (I4 12 6).toInt ∧ (I4 12 6).toInt ≤ 1000000; exact hI4R.2.2.1), (by show 0 ≤ (I4 12 9).toInt ∧ (I4 12 9).toInt ≤ 500; exact hI4R.2.2.2.1), (by show 0 ≤ (I4 12 13).toInt ∧ (I4 12 13).toInt ≤ 24; exact hI4R.2.2.2.2)⟩, (by show (I4 12 6).toInt ≤ 501 ∧ ((I4 12 7).toInt = 401 ∨ (I4 12 6).toInt ≤ 500); first | omega | decide), f5, (Or.inl ⟨rfl, zr_ok_of hM15 rfl (by omega) (by omega) ho14⟩)⟩
    · obtain ⟨f21, hf22, h23⟩ := hq
      have hb24 := zr_noS hM0 h23
      have hF25 := zr_F_m hM0 hf22
      exact z_zret hx hb hr (by decide) hK hS (Nat.le_of_ble_eq_true rfl) (Nat.le_of_ble_eq_true rfl) hlocks dX9_one_24 (shC c, ad, I4, JX, PC c ad) hW ⟨I4, rfl, ⟨(by show 0 ≤ (I4 12 1).toInt ∧ (I4 12 1).toInt ≤ 500; exact hI4R.1), (by show 0 ≤ (I4 12 5).toInt ∧ (I4 12 5).toInt ≤ 501; exact hI4R.2.1), (by show (-1) ≤ (I4 12 6).toInt ∧ (I4 12 6).toInt ≤ 1000000; exact hI4R.2.2.1), (by show 0 ≤ (I4 12 9).toInt ∧ (I4 12 9).toInt ≤ 500; exact hI4R.2.2.2.1), (by show 0 ≤ (I4 12 13).toInt ∧ (I4 12 13).toInt ≤ 24; exact hI4R.2.2.2.2)⟩, (by show (I4 12 6).toInt ≤ 501 ∧ ((I4 12 7).toInt = 401 ∨ (I4 12 6).toInt ≤ 500); first | omega | decide), f5, (Or.inr ⟨rfl, f21, hF25, hb24⟩)⟩
  · have g26 := z_f_ne rfl z_l311 c1
    have b27 := Int32.toInt_lt (I 12 7)
    refine lv_aload_n hx hb dX9_one_10 rfl (lv_at hl 0 rfl) ?_
    refine z_get (T := TX9) (N := 14) (ci := 9) (i := 12) (v := .int (I 12 7)) hx hb hts zj_X9_one_X9 hown hK hW rfl rfl 7 (by decide) (hts (.fieldLink RX9 62 "PetrolBoard$Reader" "token" "I") (me_s (me_l (me_l (List.mem_of_getElem? (i := 0) rfl))))) (fun _ h => h) rfl dX9_one_11 ?_
    refine lv_bipush (v := 123) hx hb dX9_one_14 (by decide) ?_
    refine lv_icmp_ne (tgt := 25) hx hb dX9_one_16 (by decide) (fun c28 => ?_) (fun c28 => ?_)
    · have g29 := z_f_ne rfl z_l123 c28
      refine lv_aload_n hx hb dX9_one_25 rfl (lv_at hl 0 rfl) ?_
      refine lv_iload_n hx hb dX9_one_26 rfl (lv_at hl 1 rfl) ?_
      refine z_ci hW hS hA (va_runV (As := [.int 2]) (rest := []) ⟨hx, hb, hml, hown, hts⟩ (sx_X9_sum_2x l G ad c I ⟨(by show 0 ≤ (I 12 1).toInt ∧ (I 12 1).toInt ≤ 500; exact hR.1), (by show 0 ≤ (I 12 5).toInt ∧ (I 12 5).toInt ≤ 501; exact hR.2.1), (by show (-1) ≤ (I 12 6).toInt ∧ (I 12 6).toInt ≤ 1000000; exact hR.2.2.1), (by show 0 ≤ (I 12 9).toInt ∧ (I 12 9).toInt ≤ 500; exact hR.2.2.2.1), (by show 0 ≤ (I 12 13).toInt ∧ (I 12 13).toInt ≤ 24; exact hR.2.2.2.2)⟩ (by show (I 12 6).toInt ≤ 501 ∧ ((I 12 7).toInt = 401 ∨ (I 12 6).toInt ≤ 500); first | omega | decide) k (zr_P_m hP hM0 (by omega)) _) (cwV 1 hts gX9_one_X9_sum rfl rfl rfl (by decide +kernel) ⟨Nat.le_of_ble_eq_true rfl, Nat.le_of_ble_eq_true rfl⟩) (z_preV (i := 12) hK hW rfl rfl) rfl rfl hl.1 rfl (lv_room (Nat.le_of_ble_eq_true rfl)) dX9_one_27 ⟨Nat.le_of_ble_eq_true rfl, Nat.le_of_ble_eq_true rfl⟩) (fun r u1 H locs hp hW hS => ?_)
      obtain ⟨I30, e9, hI30R, hI30T, fI30, hp⟩ := hp
      rw [e9] at hW
      have f31 := z_fr_sub (L := L_X9_one_2x) z_fr_0 fI30 (by decide)
      have k32 : (I30 12 6).toInt ≤ 501 ∧ ((I30 12 7).toInt = 401 ∨ (I30 12 6).toInt ≤ 500) := hI30T
      rcases hp with ⟨rfl, hq⟩ | ⟨rfl, hq⟩
      · obtain ⟨k33, cs34, hm35, h36, h37, h38⟩ := hq
        have ho39 := zr_okS hM0 h38
        have hM40 := (show zr_M I I30 k33 cs34 from zr_M_t hM0 hm35 hP.2.2.2.2.1)
        have h41 := hM40.1
        have h42 := hM40.2.1
        have h43 := hM40.2.2.1
        have h44 := hM40.2.2.2.1
        have l45 : (cs34).length = cs34.length := by first | rfl | (simp only [List.length_append, List.length_cons, List.length_nil] <;> omega)
        refine lv_if_ne (tgt := 35) hx hb dX9_one_30 (by decide) (fun c46 => ?_) (fun c46 => absurd c46 (by decide))
        refine lv_aload_n hx hb dX9_one_35 rfl (lv_at hl 0 rfl) ?_
        refine z_get (T := TX9) (N := 14) (ci := 9) (i := 12) (v := .int (I30 12 7)) hx hb hts zj_X9_one_X9 hown hK hW rfl rfl 7 (by decide) (hts (.fieldLink RX9 62 "PetrolBoard$Reader" "token" "I") (me_s (me_l (me_l (List.mem_of_getElem? (i := 0) rfl))))) (fun _ h => h) rfl dX9_one_36 ?_
        refine lv_istore_n (lv' := [(2, .int (I30 12 7)), (0, .ref (ad 12)), (1, .int 2)]) hx hb dX9_one_39 rfl hl (by decide) rfl (fun ls hl => ?_)
        refine lv_iload_n hx hb dX9_one_40 rfl (lv_at hl 0 rfl) ?_
        refine lv_bipush (v := 60) hx hb dX9_one_41 (by decide) ?_
        refine lv_icmp_eq (tgt := 60) hx hb dX9_one_43 (by decide) (fun c47 => ?_) (fun c47 => ?_)
        · have g48 := z_f_eq rfl z_l60 c47
          have b49 := Int32.toInt_lt (I30 12 7)
          refine lv_aload_n hx hb dX9_one_60 rfl (lv_at hl 1 rfl) ?_
          have q50 := zr_Q_n (zr_Q_m hP hM40) (by rw [zr_tkS hM40]; omega)
          refine z_cv hW hS hA (va_runV (As := []) (rest := []) ⟨hx, hb, hml, hown, hts⟩ (sx_X9_step_x l G ad c I30 ⟨(by show 0 ≤ (I30 12 1).toInt ∧ (I30 12 1).toInt ≤ 500; exact hI30R.1), (by show 0 ≤ (I30 12 5).toInt ∧ (I30 12 5).toInt ≤ 501; exact hI30R.2.1), (by show (-1) ≤ (I30 12 6).toInt ∧ (I30 12 6).toInt ≤ 1000000; exact hI30R.2.2.1), (by show 0 ≤ (I30 12 9).toInt ∧ (I30 12 9).toInt ≤ 500; exact hI30R.2.2.2.1), (by show 0 ≤ (I30 12 13).toInt ∧ (I30 12 13).toInt ≤ 24; exact hI30R.2.2.2.2)⟩ (k33 + 1) q50 _) (cwV 0 hts gX9_one_X9_step rfl rfl rfl (by decide +kernel) ⟨Nat.le_of_ble_eq_true rfl, Nat.le_of_ble_eq_true rfl⟩) (z_preV (i := 12) hK hW rfl rfl) rfl rfl hl.1 rfl (lv_room (Nat.le_of_ble_eq_true rfl)) dX9_one_61 ⟨Nat.le_of_ble_eq_true rfl, Nat.le_of_ble_eq_true rfl⟩) (fun u1 H locs hp hW hS => ?_)
          obtain ⟨I51, e9, hI51R, hI51T, fI51, hp⟩ := hp
          rw [e9] at hW
          have f52 := z_fr_sub (L := L_X9_one_2x) f31 fI51 (by decide)
          have k53 : (I51 12 6).toInt ≤ 501 ∧ ((I51 12 7).toInt = 401 ∨ (I51 12 6).toInt ≤ 500) := hI51T
          have hM54 := zr_M_s hM40 hp hP.2.2.2.2.1
          have h55 := hM54.1
          have h56 := hM54.2.1
          have h57 := hM54.2.2.1
          have h58 := hM54.2.2.2.1
          have l59 : (cs34).length = cs34.length := by first | rfl | (simp only [List.length_append, List.length_cons, List.length_nil] <;> omega)
          refine lv_aload_n hx hb dX9_one_64 rfl (lv_at hl 1 rfl) ?_
          refine lv_iload_n hx hb dX9_one_65 rfl (lv_at hl 2 rfl) ?_
          refine z_ci hW hS hA (va_runV (As := [.int 2]) (rest := []) ⟨hx, hb, hml, hown, hts⟩ (sx_X9_sum_2x l G ad c I51 ⟨(by show 0 ≤ (I51 12 1).toInt ∧ (I51 12 1).toInt ≤ 500; exact hI51R.1), (by show 0 ≤ (I51 12 5).toInt ∧ (I51 12 5).toInt ≤ 501; exact hI51R.2.1), (by show (-1) ≤ (I51 12 6).toInt ∧ (I51 12 6).toInt ≤ 1000000; exact hI51R.2.2.1), (by show 0 ≤ (I51 12 9).toInt ∧ (I51 12 9).toInt ≤ 500; exact hI51R.2.2.2.1), (by show 0 ≤ (I51 12 13).toInt ∧ (I51 12 13).toInt ≤ 24; exact hI51R.2.2.2.2)⟩ (by show (I51 12 6).toInt ≤ 501 ∧ ((I51 12 7).toInt = 401 ∨ (I51 12 6).toInt ≤ 500); first | omega | decide) (k33 + 1) (zr_P_m hP hM54 (by omega)) _) (cwV 1 hts gX9_one_X9_sum rfl rfl rfl (by decide +kernel) ⟨Nat.le_of_ble_eq_true rfl, Nat.le_of_ble_eq_true rfl⟩) (z_preV (i := 12) hK hW rfl rfl) rfl rfl hl.1 rfl (lv_room (Nat.le_of_ble_eq_true rfl)) dX9_one_66 ⟨Nat.le_of_ble_eq_true rfl, Nat.le_of_ble_eq_true rfl⟩) (fun r u1 H locs hp hW hS => ?_)
          obtain ⟨I60, e9, hI60R, hI60T, fI60, hp⟩ := hp
          rw [e9] at hW
          have f61 := z_fr_sub (L := L_X9_one_2x) f52 fI60 (by decide)
          have k62 : (I60 12 6).toInt ≤ 501 ∧ ((I60 12 7).toInt = 401 ∨ (I60 12 6).toInt ≤ 500) := hI60T
          rcases hp with ⟨rfl, hq⟩ | ⟨rfl, hq⟩
          · obtain ⟨k63, cs64, hm65, h66, h67, h68⟩ := hq
            have ho69 := zr_okS hM54 h68
            have hM70 := zr_M_t hM54 hm65 hP.2.2.2.2.1
            have h71 := hM70.1
            have h72 := hM70.2.1
            have h73 := hM70.2.2.1
            have h74 := hM70.2.2.2.1
            have l75 : ((cs34 ++ cs64)).length = cs34.length + cs64.length := by first | rfl | (simp only [List.length_append, List.length_cons, List.length_nil] <;> omega)
            refine lv_if_ne (tgt := 74) hx hb dX9_one_69 (by decide) (fun c76 => ?_) (fun c76 => absurd c76 (by decide))
            refine lv_aload_n hx hb dX9_one_74 rfl (lv_at hl 1 rfl) ?_
            refine lv_iload_n hx hb dX9_one_75 rfl (lv_at hl 0 rfl) ?_
            refine lv_bipush (v := 60) hx hb dX9_one_76 (by decide) ?_
            refine lv_icmp_ne (tgt := 86) hx hb dX9_one_78 (by decide) (fun c77 => (by have g := z_f_ne rfl z_l60 c77; omega)) (fun c77 => ?_)
            have g78 := z_f_eq rfl z_l60 c77
            refine lv_bipush (v := (-7)) hx hb dX9_one_81 (by decide) ?_
            refine lv_goto (tgt := 99) hx hb dX9_one_83 (by decide) ?_
            refine z_cv hW hS hA (va_runV (As := [.int (-7)]) (rest := []) ⟨hx, hb, hml, hown, hts⟩ (sx_X9_emit_x l G ad c I60 ⟨(by show 0 ≤ (I60 12 1).toInt ∧ (I60 12 1).toInt ≤ 500; exact hI60R.1), (by show 0 ≤ (I60 12 5).toInt ∧ (I60 12 5).toInt ≤ 501; exact hI60R.2.1), (by show (-1) ≤ (I60 12 6).toInt ∧ (I60 12 6).toInt ≤ 1000000; exact hI60R.2.2.1), (by show 0 ≤ (I60 12 9).toInt ∧ (I60 12 9).toInt ≤ 500; exact hI60R.2.2.2.1), (by show 0 ≤ (I60 12 13).toInt ∧ (I60 12 13).toInt ≤ 24; exact hI60R.2.2.2.2)⟩ (-7) (by omega) _) (cwV 1 hts gX9_one_X9_emit rfl rfl rfl (by decide +kernel) ⟨Nat.le_of_ble_eq_true rfl, Nat.le_of_ble_eq_true rfl⟩) (z_preV (i := 12) hK hW rfl rfl) rfl rfl hl.1 rfl (lv_room (Nat.le_of_ble_eq_true rfl)) dX9_one_99 ⟨Nat.le_of_ble_eq_true rfl, Nat.le_of_ble_eq_true rfl⟩) (fun u1 H locs hp hW hS => ?_)
            obtain ⟨I79, e9, hI79R, fI79, hp⟩ := hp
            rw [e9] at hW
            have f80 := z_fr_sub (L := L_X9_one_2x) f61 fI79 (by decide)
            have k81 : (I79 12 6).toInt ≤ 501 ∧ ((I79 12 7).toInt = 401 ∨ (I79 12 6).toInt ≤ 500) := (by have q0 : (I79 12 6) = (I60 12 6) := (by rw [fI79 12 6 (by decide)]); have q1 : (I79 12 7) = (I60 12 7) := (by rw [fI79 12 7 (by decide)]); show (I79 12 6).toInt ≤ 501 ∧ ((I79 12 7).toInt = 401 ∨ (I79 12 6).toInt ≤ 500); rw [q0, q1]; first | omega | decide)
            have hM82 := zr_M_e hM70 hp (show ((-7) : Int32).toInt = (-7) by decide) hP.2.2.2.2.1
            have h83 := hM82.1
            have h84 := hM82.2.1
            have h85 := hM82.2.2.1
            have h86 := hM82.2.2.2.1
            have l87 : (((cs34 ++ cs64) ++ [(-7)])).length = cs34.length + cs64.length + 1 := by first | rfl | (simp only [List.length_append, List.length_cons, List.length_nil] <;> omega)
            refine lv_iconst (v := 1) hx hb dX9_one_102 (by decide) ?_
            exact z_zret hx hb hr (by decide) hK hS (Nat.le_of_ble_eq_true rfl) (Nat.le_of_ble_eq_true rfl) hlocks dX9_one_103 (shC c, ad, I79, JX, PC c ad) hW ⟨I79, rfl, ⟨(by show 0 ≤ (I79 12 1).toInt ∧ (I79 12 1).toInt ≤ 500; exact hI79R.1), (by show 0 ≤ (I79 12 5).toInt ∧ (I79 12 5).toInt ≤ 501; exact hI79R.2.1), (by show (-1) ≤ (I79 12 6).toInt ∧ (I79 12 6).toInt ≤ 1000000; exact hI79R.2.2.1), (by show 0 ≤ (I79 12 9).toInt ∧ (I79 12 9).toInt ≤ 500; exact hI79R.2.2.2.1), (by show 0 ≤ (I79 12 13).toInt ∧ (I79 12 13).toInt ≤ 24; exact hI79R.2.2.2.2)⟩, (by show (I79 12 6).toInt ≤ 501 ∧ ((I79 12 7).toInt = 401 ∨ (I79 12 6).toInt ≤ 500); first | omega | decide), f80, (Or.inl ⟨rfl, zr_ok_of hM82 (by rw [zr_ce0 (show zr_tk I k33 = 60 by omega), List.append_assoc]) (by omega) (by omega) (zp_T9 (by omega) (by omega) ho39 (zr_cmp (by omega)) ho69)⟩)⟩
          · obtain ⟨f88, hf89, h90⟩ := hq
            have hb91 := zr_noS hM54 h90
            have hF92 := zr_F_m hM54 hf89
            refine lv_if_ne (tgt := 74) hx hb dX9_one_69 (by decide) (fun c93 => absurd (by decide) c93) (fun c93 => ?_)
            refine lv_iconst (v := 0) hx hb dX9_one_72 (by decide) ?_
            exact z_zret hx hb hr (by decide) hK hS (Nat.le_of_ble_eq_true rfl) (Nat.le_of_ble_eq_true rfl) hlocks dX9_one_73 (shC c, ad, I60, JX, PC c ad) hW ⟨I60, rfl, ⟨(by show 0 ≤ (I60 12 1).toInt ∧ (I60 12 1).toInt ≤ 500; exact hI60R.1), (by show 0 ≤ (I60 12 5).toInt ∧ (I60 12 5).toInt ≤ 501; exact hI60R.2.1), (by show (-1) ≤ (I60 12 6).toInt ∧ (I60 12 6).toInt ≤ 1000000; exact hI60R.2.2.1), (by show 0 ≤ (I60 12 9).toInt ∧ (I60 12 9).toInt ≤ 500; exact hI60R.2.2.2.1), (by show 0 ≤ (I60 12 13).toInt ∧ (I60 12 13).toInt ≤ 24; exact hI60R.2.2.2.2)⟩, (by show (I60 12 6).toInt ≤ 501 ∧ ((I60 12 7).toInt = 401 ∨ (I60 12 6).toInt ≤ 500); first | omega | decide), f61, (Or.inr ⟨rfl, f88, hF92, (zp_T8 (by omega) (by omega) ho39 (zr_cmp (by omega)) hb91)⟩)⟩
        · have g94 := z_f_ne rfl z_l60 c47
          have b95 := Int32.toInt_lt (I30 12 7)
          refine lv_iload_n hx hb dX9_one_46 rfl (lv_at hl 0 rfl) ?_
          refine lv_bipush (v := 62) hx hb dX9_one_47 (by decide) ?_
          refine lv_icmp_eq (tgt := 60) hx hb dX9_one_49 (by decide) (fun c96 => ?_) (fun c96 => ?_)
          · have g97 := z_f_eq rfl z_l62 c96
            refine lv_aload_n hx hb dX9_one_60 rfl (lv_at hl 1 rfl) ?_
            have q98 := zr_Q_n (zr_Q_m hP hM40) (by rw [zr_tkS hM40]; omega)
            refine z_cv hW hS hA (va_runV (As := []) (rest := []) ⟨hx, hb, hml, hown, hts⟩ (sx_X9_step_x l G ad c I30 ⟨(by show 0 ≤ (I30 12 1).toInt ∧ (I30 12 1).toInt ≤ 500; exact hI30R.1), (by show 0 ≤ (I30 12 5).toInt ∧ (I30 12 5).toInt ≤ 501; exact hI30R.2.1), (by show (-1) ≤ (I30 12 6).toInt ∧ (I30 12 6).toInt ≤ 1000000; exact hI30R.2.2.1), (by show 0 ≤ (I30 12 9).toInt ∧ (I30 12 9).toInt ≤ 500; exact hI30R.2.2.2.1), (by show 0 ≤ (I30 12 13).toInt ∧ (I30 12 13).toInt ≤ 24; exact hI30R.2.2.2.2)⟩ (k33 + 1) q98 _) (cwV 0 hts gX9_one_X9_step rfl rfl rfl (by decide +kernel) ⟨Nat.le_of_ble_eq_true rfl, Nat.le_of_ble_eq_true rfl⟩) (z_preV (i := 12) hK hW rfl rfl) rfl rfl hl.1 rfl (lv_room (Nat.le_of_ble_eq_true rfl)) dX9_one_61 ⟨Nat.le_of_ble_eq_true rfl, Nat.le_of_ble_eq_true rfl⟩) (fun u1 H locs hp hW hS => ?_)
            obtain ⟨I99, e9, hI99R, hI99T, fI99, hp⟩ := hp
            rw [e9] at hW
            have f100 := z_fr_sub (L := L_X9_one_2x) f31 fI99 (by decide)
            have k101 : (I99 12 6).toInt ≤ 501 ∧ ((I99 12 7).toInt = 401 ∨ (I99 12 6).toInt ≤ 500) := hI99T
            have hM102 := zr_M_s hM40 hp hP.2.2.2.2.1
            have h103 := hM102.1
            have h104 := hM102.2.1
            have h105 := hM102.2.2.1
            have h106 := hM102.2.2.2.1
            have l107 : (cs34).length = cs34.length := by first | rfl | (simp only [List.length_append, List.length_cons, List.length_nil] <;> omega)
            refine lv_aload_n hx hb dX9_one_64 rfl (lv_at hl 1 rfl) ?_
            refine lv_iload_n hx hb dX9_one_65 rfl (lv_at hl 2 rfl) ?_
            refine z_ci hW hS hA (va_runV (As := [.int 2]) (rest := []) ⟨hx, hb, hml, hown, hts⟩ (sx_X9_sum_2x l G ad c I99 ⟨(by show 0 ≤ (I99 12 1).toInt ∧ (I99 12 1).toInt ≤ 500; exact hI99R.1), (by show 0 ≤ (I99 12 5).toInt ∧ (I99 12 5).toInt ≤ 501; exact hI99R.2.1), (by show (-1) ≤ (I99 12 6).toInt ∧ (I99 12 6).toInt ≤ 1000000; exact hI99R.2.2.1), (by show 0 ≤ (I99 12 9).toInt ∧ (I99 12 9).toInt ≤ 500; exact hI99R.2.2.2.1), (by show 0 ≤ (I99 12 13).toInt ∧ (I99 12 13).toInt ≤ 24; exact hI99R.2.2.2.2)⟩ (by show (I99 12 6).toInt ≤ 501 ∧ ((I99 12 7).toInt = 401 ∨ (I99 12 6).toInt ≤ 500); first | omega | decide) (k33 + 1) (zr_P_m hP hM102 (by omega)) _) (cwV 1 hts gX9_one_X9_sum rfl rfl rfl (by decide +kernel) ⟨Nat.le_of_ble_eq_true rfl, Nat.le_of_ble_eq_true rfl⟩) (z_preV (i := 12) hK hW rfl rfl) rfl rfl hl.1 rfl (lv_room (Nat.le_of_ble_eq_true rfl)) dX9_one_66 ⟨Nat.le_of_ble_eq_true rfl, Nat.le_of_ble_eq_true rfl⟩) (fun r u1 H locs hp hW hS => ?_)
            obtain ⟨I108, e9, hI108R, hI108T, fI108, hp⟩ := hp
            rw [e9] at hW
            have f109 := z_fr_sub (L := L_X9_one_2x) f100 fI108 (by decide)
            have k110 : (I108 12 6).toInt ≤ 501 ∧ ((I108 12 7).toInt = 401 ∨ (I108 12 6).toInt ≤ 500) := hI108T
            rcases hp with ⟨rfl, hq⟩ | ⟨rfl, hq⟩
            · obtain ⟨k111, cs112, hm113, h114, h115, h116⟩ := hq
              have ho117 := zr_okS hM102 h116
              have hM118 := zr_M_t hM102 hm113 hP.2.2.2.2.1
              have h119 := hM118.1
              have h120 := hM118.2.1
              have h121 := hM118.2.2.1
              have h122 := hM118.2.2.2.1
              have l123 : ((cs34 ++ cs112)).length = cs34.length + cs112.length := by first | rfl | (simp only [List.length_append, List.length_cons, List.length_nil] <;> omega)
              refine lv_if_ne (tgt := 74) hx hb dX9_one_69 (by decide) (fun c124 => ?_) (fun c124 => absurd c124 (by decide))
              refine lv_aload_n hx hb dX9_one_74 rfl (lv_at hl 1 rfl) ?_
              refine lv_iload_n hx hb dX9_one_75 rfl (lv_at hl 0 rfl) ?_
              refine lv_bipush (v := 60) hx hb dX9_one_76 (by decide) ?_
              refine lv_icmp_ne (tgt := 86) hx hb dX9_one_78 (by decide) (fun c125 => ?_) (fun c125 => (by have g := z_f_eq rfl z_l60 c125; omega))
              have g126 := z_f_ne rfl z_l60 c125
              refine lv_iload_n hx hb dX9_one_86 rfl (lv_at hl 0 rfl) ?_
              refine lv_bipush (v := 62) hx hb dX9_one_87 (by decide) ?_
              refine lv_icmp_ne (tgt := 97) hx hb dX9_one_89 (by decide) (fun c127 => (by have g := z_f_ne rfl z_l62 c127; omega)) (fun c127 => ?_)
              have g128 := z_f_eq rfl z_l62 c127
              refine lv_bipush (v := (-8)) hx hb dX9_one_92 (by decide) ?_
              refine lv_goto (tgt := 99) hx hb dX9_one_94 (by decide) ?_
              refine z_cv hW hS hA (va_runV (As := [.int (-8)]) (rest := []) ⟨hx, hb, hml, hown, hts⟩ (sx_X9_emit_x l G ad c I108 ⟨(by show 0 ≤ (I108 12 1).toInt ∧ (I108 12 1).toInt ≤ 500; exact hI108R.1), (by show 0 ≤ (I108 12 5).toInt ∧ (I108 12 5).toInt ≤ 501; exact hI108R.2.1), (by show (-1) ≤ (I108 12 6).toInt ∧ (I108 12 6).toInt ≤ 1000000; exact hI108R.2.2.1), (by show 0 ≤ (I108 12 9).toInt ∧ (I108 12 9).toInt ≤ 500; exact hI108R.2.2.2.1), (by show 0 ≤ (I108 12 13).toInt ∧ (I108 12 13).toInt ≤ 24; exact hI108R.2.2.2.2)⟩ (-8) (by omega) _) (cwV 1 hts gX9_one_X9_emit rfl rfl rfl (by decide +kernel) ⟨Nat.le_of_ble_eq_true rfl, Nat.le_of_ble_eq_true rfl⟩) (z_preV (i := 12) hK hW rfl rfl) rfl rfl hl.1 rfl (lv_room (Nat.le_of_ble_eq_true rfl)) dX9_one_99 ⟨Nat.le_of_ble_eq_true rfl, Nat.le_of_ble_eq_true rfl⟩) (fun u1 H locs hp hW hS => ?_)
              obtain ⟨I129, e9, hI129R, fI129, hp⟩ := hp
              rw [e9] at hW
              have f130 := z_fr_sub (L := L_X9_one_2x) f109 fI129 (by decide)
              have k131 : (I129 12 6).toInt ≤ 501 ∧ ((I129 12 7).toInt = 401 ∨ (I129 12 6).toInt ≤ 500) := (by have q0 : (I129 12 6) = (I108 12 6) := (by rw [fI129 12 6 (by decide)]); have q1 : (I129 12 7) = (I108 12 7) := (by rw [fI129 12 7 (by decide)]); show (I129 12 6).toInt ≤ 501 ∧ ((I129 12 7).toInt = 401 ∨ (I129 12 6).toInt ≤ 500); rw [q0, q1]; first | omega | decide)
              have hM132 := zr_M_e hM118 hp (show ((-8) : Int32).toInt = (-8) by decide) hP.2.2.2.2.1
              have h133 := hM132.1
              have h134 := hM132.2.1
              have h135 := hM132.2.2.1
              have h136 := hM132.2.2.2.1
              have l137 : (((cs34 ++ cs112) ++ [(-8)])).length = cs34.length + cs112.length + 1 := by first | rfl | (simp only [List.length_append, List.length_cons, List.length_nil] <;> omega)
              refine lv_iconst (v := 1) hx hb dX9_one_102 (by decide) ?_
              exact z_zret hx hb hr (by decide) hK hS (Nat.le_of_ble_eq_true rfl) (Nat.le_of_ble_eq_true rfl) hlocks dX9_one_103 (shC c, ad, I129, JX, PC c ad) hW ⟨I129, rfl, ⟨(by show 0 ≤ (I129 12 1).toInt ∧ (I129 12 1).toInt ≤ 500; exact hI129R.1), (by show 0 ≤ (I129 12 5).toInt ∧ (I129 12 5).toInt ≤ 501; exact hI129R.2.1), (by show (-1) ≤ (I129 12 6).toInt ∧ (I129 12 6).toInt ≤ 1000000; exact hI129R.2.2.1), (by show 0 ≤ (I129 12 9).toInt ∧ (I129 12 9).toInt ≤ 500; exact hI129R.2.2.2.1), (by show 0 ≤ (I129 12 13).toInt ∧ (I129 12 13).toInt ≤ 24; exact hI129R.2.2.2.2)⟩, (by show (I129 12 6).toInt ≤ 501 ∧ ((I129 12 7).toInt = 401 ∨ (I129 12 6).toInt ≤ 500); first | omega | decide), f130, (Or.inl ⟨rfl, zr_ok_of hM132 (by rw [zr_ce1 (show zr_tk I k33 = 62 by omega), List.append_assoc]) (by omega) (by omega) (zp_T9 (by omega) (by omega) ho39 (zr_cmp (by omega)) ho117)⟩)⟩
            · obtain ⟨f138, hf139, h140⟩ := hq
              have hb141 := zr_noS hM102 h140
              have hF142 := zr_F_m hM102 hf139
              refine lv_if_ne (tgt := 74) hx hb dX9_one_69 (by decide) (fun c143 => absurd (by decide) c143) (fun c143 => ?_)
              refine lv_iconst (v := 0) hx hb dX9_one_72 (by decide) ?_
              exact z_zret hx hb hr (by decide) hK hS (Nat.le_of_ble_eq_true rfl) (Nat.le_of_ble_eq_true rfl) hlocks dX9_one_73 (shC c, ad, I108, JX, PC c ad) hW ⟨I108, rfl, ⟨(by show 0 ≤ (I108 12 1).toInt ∧ (I108 12 1).toInt ≤ 500; exact hI108R.1), (by show 0 ≤ (I108 12 5).toInt ∧ (I108 12 5).toInt ≤ 501; exact hI108R.2.1), (by show (-1) ≤ (I108 12 6).toInt ∧ (I108 12 6).toInt ≤ 1000000; exact hI108R.2.2.1), (by show 0 ≤ (I108 12 9).toInt ∧ (I108 12 9).toInt ≤ 500; exact hI108R.2.2.2.1), (by show 0 ≤ (I108 12 13).toInt ∧ (I108 12 13).toInt ≤ 24; exact hI108R.2.2.2.2)⟩, (by show (I108 12 6).toInt ≤ 501 ∧ ((I108 12 7).toInt = 401 ∨ (I108 12 6).toInt ≤ 500); first | omega | decide), f109, (Or.inr ⟨rfl, f138, hF142, (zp_T8 (by omega) (by omega) ho39 (zr_cmp (by omega)) hb141)⟩)⟩
          · have g144 := z_f_ne rfl z_l62 c96
            refine lv_iload_n hx hb dX9_one_52 rfl (lv_at hl 0 rfl) ?_
            refine lv_bipush (v := 61) hx hb dX9_one_53 (by decide) ?_
            refine lv_icmp_eq (tgt := 60) hx hb dX9_one_55 (by decide) (fun c145 => ?_) (fun c145 => ?_)
            · have g146 := z_f_eq rfl z_l61 c145
              refine lv_aload_n hx hb dX9_one_60 rfl (lv_at hl 1 rfl) ?_
              have q147 := zr_Q_n (zr_Q_m hP hM40) (by rw [zr_tkS hM40]; omega)
              refine z_cv hW hS hA (va_runV (As := []) (rest := []) ⟨hx, hb, hml, hown, hts⟩ (sx_X9_step_x l G ad c I30 ⟨(by show 0 ≤ (I30 12 1).toInt ∧ (I30 12 1).toInt ≤ 500; exact hI30R.1), (by show 0 ≤ (I30 12 5).toInt ∧ (I30 12 5).toInt ≤ 501; exact hI30R.2.1), (by show (-1) ≤ (I30 12 6).toInt ∧ (I30 12 6).toInt ≤ 1000000; exact hI30R.2.2.1), (by show 0 ≤ (I30 12 9).toInt ∧ (I30 12 9).toInt ≤ 500; exact hI30R.2.2.2.1), (by show 0 ≤ (I30 12 13).toInt ∧ (I30 12 13).toInt ≤ 24; exact hI30R.2.2.2.2)⟩ (k33 + 1) q147 _) (cwV 0 hts gX9_one_X9_step rfl rfl rfl (by decide +kernel) ⟨Nat.le_of_ble_eq_true rfl, Nat.le_of_ble_eq_true rfl⟩) (z_preV (i := 12) hK hW rfl rfl) rfl rfl hl.1 rfl (lv_room (Nat.le_of_ble_eq_true rfl)) dX9_one_61 ⟨Nat.le_of_ble_eq_true rfl, Nat.le_of_ble_eq_true rfl⟩) (fun u1 H locs hp hW hS => ?_)
              obtain ⟨I148, e9, hI148R, hI148T, fI148, hp⟩ := hp
              rw [e9] at hW
              have f149 := z_fr_sub (L := L_X9_one_2x) f31 fI148 (by decide)
              have k150 : (I148 12 6).toInt ≤ 501 ∧ ((I148 12 7).toInt = 401 ∨ (I148 12 6).toInt ≤ 500) := hI148T
              have hM151 := zr_M_s hM40 hp hP.2.2.2.2.1
              have h152 := hM151.1
              have h153 := hM151.2.1
              have h154 := hM151.2.2.1
              have h155 := hM151.2.2.2.1
              have l156 : (cs34).length = cs34.length := by first | rfl | (simp only [List.length_append, List.length_cons, List.length_nil] <;> omega)
              refine lv_aload_n hx hb dX9_one_64 rfl (lv_at hl 1 rfl) ?_
              refine lv_iload_n hx hb dX9_one_65 rfl (lv_at hl 2 rfl) ?_
              refine z_ci hW hS hA (va_runV (As := [.int 2]) (rest := []) ⟨hx, hb, hml, hown, hts⟩ (sx_X9_sum_2x l G ad c I148 ⟨(by show 0 ≤ (I148 12 1).toInt ∧ (I148 12 1).toInt ≤ 500; exact hI148R.1), (by show 0 ≤ (I148 12 5).toInt ∧ (I148 12 5).toInt ≤ 501; exact hI148R.2.1), (by show (-1) ≤ (I148 12 6).toInt ∧ (I148 12 6).toInt ≤ 1000000; exact hI148R.2.2.1), (by show 0 ≤ (I148 12 9).toInt ∧ (I148 12 9).toInt ≤ 500; exact hI148R.2.2.2.1), (by show 0 ≤ (I148 12 13).toInt ∧ (I148 12 13).toInt ≤ 24; exact hI148R.2.2.2.2)⟩ (by show (I148 12 6).toInt ≤ 501 ∧ ((I148 12 7).toInt = 401 ∨ (I148 12 6).toInt ≤ 500); first | omega | decide) (k33 + 1) (zr_P_m hP hM151 (by omega)) _) (cwV 1 hts gX9_one_X9_sum rfl rfl rfl (by decide +kernel) ⟨Nat.le_of_ble_eq_true rfl, Nat.le_of_ble_eq_true rfl⟩) (z_preV (i := 12) hK hW rfl rfl) rfl rfl hl.1 rfl (lv_room (Nat.le_of_ble_eq_true rfl)) dX9_one_66 ⟨Nat.le_of_ble_eq_true rfl, Nat.le_of_ble_eq_true rfl⟩) (fun r u1 H locs hp hW hS => ?_)
              obtain ⟨I157, e9, hI157R, hI157T, fI157, hp⟩ := hp
              rw [e9] at hW
              have f158 := z_fr_sub (L := L_X9_one_2x) f149 fI157 (by decide)
              have k159 : (I157 12 6).toInt ≤ 501 ∧ ((I157 12 7).toInt = 401 ∨ (I157 12 6).toInt ≤ 500) := hI157T
              rcases hp with ⟨rfl, hq⟩ | ⟨rfl, hq⟩
              · obtain ⟨k160, cs161, hm162, h163, h164, h165⟩ := hq
                have ho166 := zr_okS hM151 h165
                have hM167 := zr_M_t hM151 hm162 hP.2.2.2.2.1
                have h168 := hM167.1
                have h169 := hM167.2.1
                have h170 := hM167.2.2.1
                have h171 := hM167.2.2.2.1
                have l172 : ((cs34 ++ cs161)).length = cs34.length + cs161.length := by first | rfl | (simp only [List.length_append, List.length_cons, List.length_nil] <;> omega)
                refine lv_if_ne (tgt := 74) hx hb dX9_one_69 (by decide) (fun c173 => ?_) (fun c173 => absurd c173 (by decide))
                refine lv_aload_n hx hb dX9_one_74 rfl (lv_at hl 1 rfl) ?_
                refine lv_iload_n hx hb dX9_one_75 rfl (lv_at hl 0 rfl) ?_
                refine lv_bipush (v := 60) hx hb dX9_one_76 (by decide) ?_
                refine lv_icmp_ne (tgt := 86) hx hb dX9_one_78 (by decide) (fun c174 => ?_) (fun c174 => (by have g := z_f_eq rfl z_l60 c174; omega))
                have g175 := z_f_ne rfl z_l60 c174
                refine lv_iload_n hx hb dX9_one_86 rfl (lv_at hl 0 rfl) ?_
                refine lv_bipush (v := 62) hx hb dX9_one_87 (by decide) ?_
                refine lv_icmp_ne (tgt := 97) hx hb dX9_one_89 (by decide) (fun c176 => ?_) (fun c176 => (by have g := z_f_eq rfl z_l62 c176; omega))
                have g177 := z_f_ne rfl z_l62 c176
                refine lv_bipush (v := (-9)) hx hb dX9_one_97 (by decide) ?_
                refine z_cv hW hS hA (va_runV (As := [.int (-9)]) (rest := []) ⟨hx, hb, hml, hown, hts⟩ (sx_X9_emit_x l G ad c I157 ⟨(by show 0 ≤ (I157 12 1).toInt ∧ (I157 12 1).toInt ≤ 500; exact hI157R.1), (by show 0 ≤ (I157 12 5).toInt ∧ (I157 12 5).toInt ≤ 501; exact hI157R.2.1), (by show (-1) ≤ (I157 12 6).toInt ∧ (I157 12 6).toInt ≤ 1000000; exact hI157R.2.2.1), (by show 0 ≤ (I157 12 9).toInt ∧ (I157 12 9).toInt ≤ 500; exact hI157R.2.2.2.1), (by show 0 ≤ (I157 12 13).toInt ∧ (I157 12 13).toInt ≤ 24; exact hI157R.2.2.2.2)⟩ (-9) (by omega) _) (cwV 1 hts gX9_one_X9_emit rfl rfl rfl (by decide +kernel) ⟨Nat.le_of_ble_eq_true rfl, Nat.le_of_ble_eq_true rfl⟩) (z_preV (i := 12) hK hW rfl rfl) rfl rfl hl.1 rfl (lv_room (Nat.le_of_ble_eq_true rfl)) dX9_one_99 ⟨Nat.le_of_ble_eq_true rfl, Nat.le_of_ble_eq_true rfl⟩) (fun u1 H locs hp hW hS => ?_)
                obtain ⟨I178, e9, hI178R, fI178, hp⟩ := hp
                rw [e9] at hW
                have f179 := z_fr_sub (L := L_X9_one_2x) f158 fI178 (by decide)
                have k180 : (I178 12 6).toInt ≤ 501 ∧ ((I178 12 7).toInt = 401 ∨ (I178 12 6).toInt ≤ 500) := (by have q0 : (I178 12 6) = (I157 12 6) := (by rw [fI178 12 6 (by decide)]); have q1 : (I178 12 7) = (I157 12 7) := (by rw [fI178 12 7 (by decide)]); show (I178 12 6).toInt ≤ 501 ∧ ((I178 12 7).toInt = 401 ∨ (I178 12 6).toInt ≤ 500); rw [q0, q1]; first | omega | decide)
                have hM181 := zr_M_e hM167 hp (show ((-9) : Int32).toInt = (-9) by decide) hP.2.2.2.2.1
                have h182 := hM181.1
                have h183 := hM181.2.1
                have h184 := hM181.2.2.1
                have h185 := hM181.2.2.2.1
                have l186 : (((cs34 ++ cs161) ++ [(-9)])).length = cs34.length + cs161.length + 1 := by first | rfl | (simp only [List.length_append, List.length_cons, List.length_nil] <;> omega)
                refine lv_iconst (v := 1) hx hb dX9_one_102 (by decide) ?_
                exact z_zret hx hb hr (by decide) hK hS (Nat.le_of_ble_eq_true rfl) (Nat.le_of_ble_eq_true rfl) hlocks dX9_one_103 (shC c, ad, I178, JX, PC c ad) hW ⟨I178, rfl, ⟨(by show 0 ≤ (I178 12 1).toInt ∧ (I178 12 1).toInt ≤ 500; exact hI178R.1), (by show 0 ≤ (I178 12 5).toInt ∧ (I178 12 5).toInt ≤ 501; exact hI178R.2.1), (by show (-1) ≤ (I178 12 6).toInt ∧ (I178 12 6).toInt ≤ 1000000; exact hI178R.2.2.1), (by show 0 ≤ (I178 12 9).toInt ∧ (I178 12 9).toInt ≤ 500; exact hI178R.2.2.2.1), (by show 0 ≤ (I178 12 13).toInt ∧ (I178 12 13).toInt ≤ 24; exact hI178R.2.2.2.2)⟩, (by show (I178 12 6).toInt ≤ 501 ∧ ((I178 12 7).toInt = 401 ∨ (I178 12 6).toInt ≤ 500); first | omega | decide), f179, (Or.inl ⟨rfl, zr_ok_of hM181 (by rw [zr_ce2 (show zr_tk I k33 = 61 by omega), List.append_assoc]) (by omega) (by omega) (zp_T9 (by omega) (by omega) ho39 (zr_cmp (by omega)) ho166)⟩)⟩
              · obtain ⟨f187, hf188, h189⟩ := hq
                have hb190 := zr_noS hM151 h189
                have hF191 := zr_F_m hM151 hf188
                refine lv_if_ne (tgt := 74) hx hb dX9_one_69 (by decide) (fun c192 => absurd (by decide) c192) (fun c192 => ?_)
                refine lv_iconst (v := 0) hx hb dX9_one_72 (by decide) ?_
                exact z_zret hx hb hr (by decide) hK hS (Nat.le_of_ble_eq_true rfl) (Nat.le_of_ble_eq_true rfl) hlocks dX9_one_73 (shC c, ad, I157, JX, PC c ad) hW ⟨I157, rfl, ⟨(by show 0 ≤ (I157 12 1).toInt ∧ (I157 12 1).toInt ≤ 500; exact hI157R.1), (by show 0 ≤ (I157 12 5).toInt ∧ (I157 12 5).toInt ≤ 501; exact hI157R.2.1), (by show (-1) ≤ (I157 12 6).toInt ∧ (I157 12 6).toInt ≤ 1000000; exact hI157R.2.2.1), (by show 0 ≤ (I157 12 9).toInt ∧ (I157 12 9).toInt ≤ 500; exact hI157R.2.2.2.1), (by show 0 ≤ (I157 12 13).toInt ∧ (I157 12 13).toInt ≤ 24; exact hI157R.2.2.2.2)⟩, (by show (I157 12 6).toInt ≤ 501 ∧ ((I157 12 7).toInt = 401 ∨ (I157 12 6).toInt ≤ 500); first | omega | decide), f158, (Or.inr ⟨rfl, f187, hF191, (zp_T8 (by omega) (by omega) ho39 (zr_cmp (by omega)) hb190)⟩)⟩
            · have g193 := z_f_ne rfl z_l61 c145
              refine lv_iconst (v := 0) hx hb dX9_one_58 (by decide) ?_
              exact z_zret hx hb hr (by decide) hK hS (Nat.le_of_ble_eq_true rfl) (Nat.le_of_ble_eq_true rfl) hlocks dX9_one_59 (shC c, ad, I30, JX, PC c ad) hW ⟨I30, rfl, ⟨(by show 0 ≤ (I30 12 1).toInt ∧ (I30 12 1).toInt ≤ 500; exact hI30R.1), (by show 0 ≤ (I30 12 5).toInt ∧ (I30 12 5).toInt ≤ 501; exact hI30R.2.1), (by show (-1) ≤ (I30 12 6).toInt ∧ (I30 12 6).toInt ≤ 1000000; exact hI30R.2.2.1), (by show 0 ≤ (I30 12 9).toInt ∧ (I30 12 9).toInt ≤ 500; exact hI30R.2.2.2.1), (by show 0 ≤ (I30 12 13).toInt ∧ (I30 12 13).toInt ≤ 24; exact hI30R.2.2.2.2)⟩, (by show (I30 12 6).toInt ≤ 501 ∧ ((I30 12 7).toInt = 401 ∨ (I30 12 6).toInt ≤ 500); first | omega | decide), f31, (Or.inr ⟨rfl, k33, (zr_F_0 hM40), (zp_T7 (by omega) (by omega) ho39 (zr_cmn (by omega) (by omega) (by omega)))⟩)⟩
      · obtain ⟨f194, hf195, h196⟩ := hq
        have hb197 := zr_noS hM0 h196
        have hF198 := zr_F_m hM0 hf195
        refine lv_if_ne (tgt := 35) hx hb dX9_one_30 (by decide) (fun c199 => absurd (by decide) c199) (fun c199 => ?_)
        refine lv_iconst (v := 0) hx hb dX9_one_33 (by decide) ?_
        exact z_zret hx hb hr (by decide) hK hS (Nat.le_of_ble_eq_true rfl) (Nat.le_of_ble_eq_true rfl) hlocks dX9_one_34 (shC c, ad, I30, JX, PC c ad) hW ⟨I30, rfl, ⟨(by show 0 ≤ (I30 12 1).toInt ∧ (I30 12 1).toInt ≤ 500; exact hI30R.1), (by show 0 ≤ (I30 12 5).toInt ∧ (I30 12 5).toInt ≤ 501; exact hI30R.2.1), (by show (-1) ≤ (I30 12 6).toInt ∧ (I30 12 6).toInt ≤ 1000000; exact hI30R.2.2.1), (by show 0 ≤ (I30 12 9).toInt ∧ (I30 12 9).toInt ≤ 500; exact hI30R.2.2.2.1), (by show 0 ≤ (I30 12 13).toInt ∧ (I30 12 13).toInt ≤ 24; exact hI30R.2.2.2.2)⟩, (by show (I30 12 6).toInt ≤ 501 ∧ ((I30 12 7).toInt = 401 ∨ (I30 12 6).toInt ≤ 500); first | omega | decide), f31, (Or.inr ⟨rfl, f194, hF198, (zp_T6 (by omega) (by omega) hb197)⟩)⟩
    · have g200 := z_f_eq rfl z_l123 c28
      refine lv_aload_n hx hb dX9_one_19 rfl (lv_at hl 0 rfl) ?_
      refine lv_iload_n hx hb dX9_one_20 rfl (lv_at hl 1 rfl) ?_
      refine z_ci hW hS hA (va_runV (As := [.int 2]) (rest := []) ⟨hx, hb, hml, hown, hts⟩ (sx_X9_opened_2x l G ad c I ⟨(by show 0 ≤ (I 12 1).toInt ∧ (I 12 1).toInt ≤ 500; exact hR.1), (by show 0 ≤ (I 12 5).toInt ∧ (I 12 5).toInt ≤ 501; exact hR.2.1), (by show (-1) ≤ (I 12 6).toInt ∧ (I 12 6).toInt ≤ 1000000; exact hR.2.2.1), (by show 0 ≤ (I 12 9).toInt ∧ (I 12 9).toInt ≤ 500; exact hR.2.2.2.1), (by show 0 ≤ (I 12 13).toInt ∧ (I 12 13).toInt ≤ 24; exact hR.2.2.2.2)⟩ (by show (I 12 6).toInt ≤ 501 ∧ ((I 12 7).toInt = 401 ∨ (I 12 6).toInt ≤ 500); first | omega | decide) k (zr_P_m hP hM0 (by omega)) (by rw [zr_tkS hM0]; omega) _) (cwV 1 hts gX9_one_X9_opened rfl rfl rfl (by decide +kernel) ⟨Nat.le_of_ble_eq_true rfl, Nat.le_of_ble_eq_true rfl⟩) (z_preV (i := 12) hK hW rfl rfl) rfl rfl hl.1 rfl (lv_room (Nat.le_of_ble_eq_true rfl)) dX9_one_21 ⟨Nat.le_of_ble_eq_true rfl, Nat.le_of_ble_eq_true rfl⟩) (fun r u1 H locs hp hW hS => ?_)
      obtain ⟨I201, e9, hI201R, hI201T, fI201, hp⟩ := hp
      rw [e9] at hW
      have f202 := z_fr_sub (L := L_X9_one_2x) z_fr_0 fI201 (by decide)
      have k203 : (I201 12 6).toInt ≤ 501 ∧ ((I201 12 7).toInt = 401 ∨ (I201 12 6).toInt ≤ 500) := hI201T
      rcases hp with ⟨rfl, hq⟩ | ⟨rfl, hq⟩
      · obtain ⟨k204, cs205, hm206, h207, h208, h209⟩ := hq
        have ho210 := zr_okS hM0 h209
        have hM211 := (show zr_M I I201 k204 cs205 from zr_M_t hM0 hm206 hP.2.2.2.2.1)
        have h212 := hM211.1
        have h213 := hM211.2.1
        have h214 := hM211.2.2.1
        have h215 := hM211.2.2.2.1
        have l216 : (cs205).length = cs205.length := by first | rfl | (simp only [List.length_append, List.length_cons, List.length_nil] <;> omega)
        exact z_zret hx hb hr (by decide) hK hS (Nat.le_of_ble_eq_true rfl) (Nat.le_of_ble_eq_true rfl) hlocks dX9_one_24 (shC c, ad, I201, JX, PC c ad) hW ⟨I201, rfl, ⟨(by show 0 ≤ (I201 12 1).toInt ∧ (I201 12 1).toInt ≤ 500; exact hI201R.1), (by show 0 ≤ (I201 12 5).toInt ∧ (I201 12 5).toInt ≤ 501; exact hI201R.2.1), (by show (-1) ≤ (I201 12 6).toInt ∧ (I201 12 6).toInt ≤ 1000000; exact hI201R.2.2.1), (by show 0 ≤ (I201 12 9).toInt ∧ (I201 12 9).toInt ≤ 500; exact hI201R.2.2.2.1), (by show 0 ≤ (I201 12 13).toInt ∧ (I201 12 13).toInt ≤ 24; exact hI201R.2.2.2.2)⟩, (by show (I201 12 6).toInt ≤ 501 ∧ ((I201 12 7).toInt = 401 ∨ (I201 12 6).toInt ≤ 500); first | omega | decide), f202, (Or.inl ⟨rfl, zr_ok_of hM211 rfl (by omega) (by omega) ho210⟩)⟩
      · obtain ⟨f217, hf218, h219⟩ := hq
        have hb220 := zr_noS hM0 h219
        have hF221 := zr_F_m hM0 hf218
        exact z_zret hx hb hr (by decide) hK hS (Nat.le_of_ble_eq_true rfl) (Nat.le_of_ble_eq_true rfl) hlocks dX9_one_24 (shC c, ad, I201, JX, PC c ad) hW ⟨I201, rfl, ⟨(by show 0 ≤ (I201 12 1).toInt ∧ (I201 12 1).toInt ≤ 500; exact hI201R.1), (by show 0 ≤ (I201 12 5).toInt ∧ (I201 12 5).toInt ≤ 501; exact hI201R.2.1), (by show (-1) ≤ (I201 12 6).toInt ∧ (I201 12 6).toInt ≤ 1000000; exact hI201R.2.2.1), (by show 0 ≤ (I201 12 9).toInt ∧ (I201 12 9).toInt ≤ 500; exact hI201R.2.2.2.1), (by show 0 ≤ (I201 12 13).toInt ∧ (I201 12 13).toInt ≤ 24; exact hI201R.2.2.2.2)⟩, (by show (I201 12 6).toInt ≤ 501 ∧ ((I201 12 7).toInt = 401 ∨ (I201 12 6).toInt ≤ 500); first | omega | decide), f202, (Or.inr ⟨rfl, f217, hF221, hb220⟩)⟩
noncomputable def L_X9_all_2x : z_L := [(12, 6), (12, 7), (17, 999), (12, 9)]
set_option maxHeartbeats 8000000 in
set_option maxRecDepth 100000 in
theorem sx_X9_all_2x (l : Launch) (G : z_G) (ad : Nat → Nat) (c : z_C) (I : z_I) (hR : z_iR I) (hT : z_iT I) (k : Nat) (hP : zr_P I k) : z_M l yX9_all wsX9_all { frames := 75, cells := 0, slots := 0, locals := 1639 } [.ref (ad 12), .int 2] G (shC c, ad, I, JX, PC c ad) (fun r u1 => ∃ I1 : z_I, u1 = (shC c, ad, I1, JX, PC c ad) ∧ z_iR I1 ∧ z_iT I1 ∧ z_fr L_X9_all_2x I1 I ∧ ((r = 1 ∧ zr_ok 4 2 I I1 k) ∨ (r = 0 ∧ zr_no 4 2 I I1 k))) 0 0 := by
  intro sz
  refine z_headQ (cc := cX9_all) (maxL := 3) (ret := (some .boolean)) (by decide) rfl (Nat.le_of_ble_eq_true rfl) ?_
  intro p e s m below meth c0 ls hIn hK hsz hW hl
  obtain ⟨hx, hb, hr, hml, hown, hts, hlocks, hname⟩ := hIn
  subst hsz
  have hown : s.vm.findClass RX9 = some m.cls := hown
  have hA : ∀ q : Nat, s.heap.size ≤ q → z_A (shC c, ad, I, JX, PC c ad) s.heap.size q := fun q h => Or.inr h
  generalize hAe : z_A (shC c, ad, I, JX, PC c ad) s.heap.size = A at *
  have hS : va_S A s.heap s.heap [] := va_S.rf
  have hl : lv_has ls 3 [(0, .ref (ad 12)), (1, .int 2)] := hl
  have hM0 := zr_M_0 hP
  have hP1 := hP.1
  have hP2 := hP.2.1
  have hP3 := hP.2.2.1
  have hP4 := hP.2.2.2.1
  have hP5 := hP.2.2.2.2.1
  have hP6 := hP.2.2.2.2.2.1
  have hlz : ([] : List Int).length = 0 := rfl
  have kT : (I 12 6).toInt ≤ 501 ∧ ((I 12 7).toInt = 401 ∨ (I 12 6).toInt ≤ 500) := hT
  refine lv_aload_n hx hb dX9_all_0 rfl (lv_at hl 0 rfl) ?_
  refine lv_iload_n hx hb dX9_all_1 rfl (lv_at hl 1 rfl) ?_
  refine z_ci hW hS hA (va_runV (As := [.int 2]) (rest := []) ⟨hx, hb, hml, hown, hts⟩ (sx_X9_one_2x l G ad c I ⟨(by show 0 ≤ (I 12 1).toInt ∧ (I 12 1).toInt ≤ 500; exact hR.1), (by show 0 ≤ (I 12 5).toInt ∧ (I 12 5).toInt ≤ 501; exact hR.2.1), (by show (-1) ≤ (I 12 6).toInt ∧ (I 12 6).toInt ≤ 1000000; exact hR.2.2.1), (by show 0 ≤ (I 12 9).toInt ∧ (I 12 9).toInt ≤ 500; exact hR.2.2.2.1), (by show 0 ≤ (I 12 13).toInt ∧ (I 12 13).toInt ≤ 24; exact hR.2.2.2.2)⟩ (by show (I 12 6).toInt ≤ 501 ∧ ((I 12 7).toInt = 401 ∨ (I 12 6).toInt ≤ 500); first | omega | decide) k (zr_P_m hP hM0 (by omega)) _) (cwV 1 hts gX9_all_X9_one rfl rfl rfl (by decide +kernel) ⟨Nat.le_of_ble_eq_true rfl, Nat.le_of_ble_eq_true rfl⟩) (z_preV (i := 12) hK hW rfl rfl) rfl rfl hl.1 rfl (lv_room (Nat.le_of_ble_eq_true rfl)) dX9_all_2 ⟨Nat.le_of_ble_eq_true rfl, Nat.le_of_ble_eq_true rfl⟩) (fun r u1 H locs hp hW hS => ?_)
  obtain ⟨I1, e9, hI1R, hI1T, fI1, hp⟩ := hp
  rw [e9] at hW
  have f2 := z_fr_sub (L := L_X9_all_2x) z_fr_0 fI1 (by decide)
  have k3 : (I1 12 6).toInt ≤ 501 ∧ ((I1 12 7).toInt = 401 ∨ (I1 12 6).toInt ≤ 500) := hI1T
  rcases hp with ⟨rfl, hq⟩ | ⟨rfl, hq⟩
  · obtain ⟨k4, cs5, hm6, h7, h8, h9⟩ := hq
    have ho10 := zr_okS hM0 h9
    have hM11 := (show zr_M I I1 k4 cs5 from zr_M_t hM0 hm6 hP.2.2.2.2.1)
    have h12 := hM11.1
    have h13 := hM11.2.1
    have h14 := hM11.2.2.1
    have h15 := hM11.2.2.2.1
    have l16 : (cs5).length = cs5.length := by first | rfl | (simp only [List.length_append, List.length_cons, List.length_nil] <;> omega)
    refine lv_if_ne (tgt := 10) hx hb dX9_all_5 (by decide) (fun c17 => ?_) (fun c17 => absurd c17 (by decide))
    refine lv_iconst (v := 0) hx hb dX9_all_10 (by decide) ?_
    refine lv_istore_n (lv' := [(2, .int 0), (0, .ref (ad 12)), (1, .int 2)]) hx hb dX9_all_11 rfl hl (by decide) rfl (fun ls hl => ?_)
    have lp18 : ∀ (f : Nat) (y19 : Int32) (I20 : z_I) (H : Heap) (locs : List Loc) (ls : Array Slot), (2147483647 < y19.toInt + (f : Int)) → (0 ≤ y19.toInt) → (z_iR I20) → (z_iT I20) → (zr_lp 4 2 I I20 k y19.toInt) → (z_fr L_X9_all_2x I20 I) → z_W G A (shC c, ad, I20, JX, PC c ad) H → va_S A s.heap H locs → lv_has ls 3 [(2, .int y19), (0, .ref (ad 12)), (1, .int 2)] → W p l e (headSpec wsX9_all { frames := 75, cells := 0, slots := 0, locals := 1639 }).room s m ([.ref (ad 12), .int 2] : List Value).toArray below meth c0 H locs 0 0 (MQ below (va_Qi (fun (r : Int32) (u1 : z_U) => ∃ I1 : z_I, u1 = (shC c, ad, I1, JX, PC c ad) ∧ z_iR I1 ∧ z_iT I1 ∧ z_fr L_X9_all_2x I1 I ∧ ((r = 1 ∧ zr_ok 4 2 I I1 k) ∨ (r = 0 ∧ zr_no 4 2 I I1 k))) (z_B G A) A) ([.ref (ad 12), .int 2] : List Value).toArray s 0 0 A) (F0 m 12 ls []) := by
      intro f
      induction f with
      | zero => intro y19 I20  H locs ls lp18m lp18l2 lp18R lp18T lp18LP lp18fr hW hS hl; exact absurd lp18m (by have := Int32.toInt_lt y19; have := Int32.le_toInt y19; omega)
      | succ f lp18ih =>
        intro y19 I20  H locs ls lp18m lp18l2 lp18R lp18T lp18LP lp18fr hW hS hl
        have k21 : (I20 12 6).toInt ≤ 501 ∧ ((I20 12 7).toInt = 401 ∨ (I20 12 6).toInt ≤ 500) := lp18T
        refine lv_iload_n hx hb dX9_all_12 rfl (lv_at hl 0 rfl) ?_
        obtain ⟨k22, cs23, hm24, h25, h26, lp27⟩ := lp18LP
        have hM28 := hm24
        have h29 := hM28.1
        have h30 := hM28.2.1
        have h31 := hM28.2.2.1
        have h32 := hM28.2.2.2.1
        have l33 : (cs23).length = cs23.length := by first | rfl | (simp only [List.length_append, List.length_cons, List.length_nil] <;> omega)
        refine lv_sipush (v := 500) hx hb dX9_all_13 (by decide) ?_
        refine lv_icmp_ge (tgt := 55) hx hb dX9_all_16 (by decide) (fun c34 => ?_) (fun c34 => ?_)
        · have g35 := z_f_ge rfl z_l500 c34
          have b36 := Int32.toInt_lt y19
          refine lv_iconst (v := 1) hx hb dX9_all_55 (by decide) ?_
          exact z_zret hx hb hr (by decide) hK hS (Nat.le_of_ble_eq_true rfl) (Nat.le_of_ble_eq_true rfl) hlocks dX9_all_56 (shC c, ad, I20, JX, PC c ad) hW ⟨I20, rfl, ⟨(by show 0 ≤ (I20 12 1).toInt ∧ (I20 12 1).toInt ≤ 500; exact lp18R.1), (by show 0 ≤ (I20 12 5).toInt ∧ (I20 12 5).toInt ≤ 501; exact lp18R.2.1), (by show (-1) ≤ (I20 12 6).toInt ∧ (I20 12 6).toInt ≤ 1000000; exact lp18R.2.2.1), (by show 0 ≤ (I20 12 9).toInt ∧ (I20 12 9).toInt ≤ 500; exact lp18R.2.2.2.1), (by show 0 ≤ (I20 12 13).toInt ∧ (I20 12 13).toInt ≤ 24; exact lp18R.2.2.2.2)⟩, (by show (I20 12 6).toInt ≤ 501 ∧ ((I20 12 7).toInt = 401 ∨ (I20 12 6).toInt ≤ 500); first | omega | decide), lp18fr, (False.elim (by omega))⟩
        · have g37 := z_f_nge rfl z_l500 c34
          have b38 := Int32.toInt_lt y19
          refine lv_aload_n hx hb dX9_all_19 rfl (lv_at hl 1 rfl) ?_
          refine z_get (T := TX9) (N := 14) (ci := 9) (i := 12) (v := .int (I20 12 7)) hx hb hts zj_X9_all_X9 hown hK hW rfl rfl 7 (by decide) (hts (.fieldLink RX9 62 "PetrolBoard$Reader" "token" "I") (me_s (me_l (me_l (List.mem_of_getElem? (i := 0) rfl))))) (fun _ h => h) rfl dX9_all_20 ?_
          refine lv_sipush (v := 310) hx hb dX9_all_23 (by decide) ?_
          refine lv_icmp_ne (tgt := 55) hx hb dX9_all_26 (by decide) (fun c39 => ?_) (fun c39 => ?_)
          · have g40 := z_f_ne rfl z_l310 c39
            have b41 := Int32.toInt_lt (I20 12 7)
            refine lv_iconst (v := 1) hx hb dX9_all_55 (by decide) ?_
            exact z_zret hx hb hr (by decide) hK hS (Nat.le_of_ble_eq_true rfl) (Nat.le_of_ble_eq_true rfl) hlocks dX9_all_56 (shC c, ad, I20, JX, PC c ad) hW ⟨I20, rfl, ⟨(by show 0 ≤ (I20 12 1).toInt ∧ (I20 12 1).toInt ≤ 500; exact lp18R.1), (by show 0 ≤ (I20 12 5).toInt ∧ (I20 12 5).toInt ≤ 501; exact lp18R.2.1), (by show (-1) ≤ (I20 12 6).toInt ∧ (I20 12 6).toInt ≤ 1000000; exact lp18R.2.2.1), (by show 0 ≤ (I20 12 9).toInt ∧ (I20 12 9).toInt ≤ 500; exact lp18R.2.2.2.1), (by show 0 ≤ (I20 12 13).toInt ∧ (I20 12 13).toInt ≤ 24; exact lp18R.2.2.2.2)⟩, (by show (I20 12 6).toInt ≤ 501 ∧ ((I20 12 7).toInt = 401 ∨ (I20 12 6).toInt ≤ 500); first | omega | decide), lp18fr, (Or.inl ⟨rfl, zr_ok_of hM28 rfl (by omega) (by omega) (zp_L3 (Or.inr (Or.inr (Or.inr rfl))) lp27 (zr_g4n (by omega)))⟩)⟩
          · have g42 := z_f_eq rfl z_l310 c39
            have b43 := Int32.toInt_lt (I20 12 7)
            refine lv_aload_n hx hb dX9_all_29 rfl (lv_at hl 1 rfl) ?_
            have q44 := zr_Q_n (zr_Q_m hP hM28) (by rw [zr_tkS hM28]; omega)
            refine z_cv hW hS hA (va_runV (As := []) (rest := []) ⟨hx, hb, hml, hown, hts⟩ (sx_X9_step_x l G ad c I20 ⟨(by show 0 ≤ (I20 12 1).toInt ∧ (I20 12 1).toInt ≤ 500; exact lp18R.1), (by show 0 ≤ (I20 12 5).toInt ∧ (I20 12 5).toInt ≤ 501; exact lp18R.2.1), (by show (-1) ≤ (I20 12 6).toInt ∧ (I20 12 6).toInt ≤ 1000000; exact lp18R.2.2.1), (by show 0 ≤ (I20 12 9).toInt ∧ (I20 12 9).toInt ≤ 500; exact lp18R.2.2.2.1), (by show 0 ≤ (I20 12 13).toInt ∧ (I20 12 13).toInt ≤ 24; exact lp18R.2.2.2.2)⟩ (k22 + 1) q44 _) (cwV 0 hts gX9_all_X9_step rfl rfl rfl (by decide +kernel) ⟨Nat.le_of_ble_eq_true rfl, Nat.le_of_ble_eq_true rfl⟩) (z_preV (i := 12) hK hW rfl rfl) rfl rfl hl.1 rfl (lv_room (Nat.le_of_ble_eq_true rfl)) dX9_all_30 ⟨Nat.le_of_ble_eq_true rfl, Nat.le_of_ble_eq_true rfl⟩) (fun u1 H locs hp hW hS => ?_)
            obtain ⟨I45, e9, hI45R, hI45T, fI45, hp⟩ := hp
            rw [e9] at hW
            have f46 := z_fr_sub (L := L_X9_all_2x) lp18fr fI45 (by decide)
            have k47 : (I45 12 6).toInt ≤ 501 ∧ ((I45 12 7).toInt = 401 ∨ (I45 12 6).toInt ≤ 500) := hI45T
            have hM48 := zr_M_s hM28 hp hP.2.2.2.2.1
            have h49 := hM48.1
            have h50 := hM48.2.1
            have h51 := hM48.2.2.1
            have h52 := hM48.2.2.2.1
            have l53 : (cs23).length = cs23.length := by first | rfl | (simp only [List.length_append, List.length_cons, List.length_nil] <;> omega)
            refine lv_aload_n hx hb dX9_all_33 rfl (lv_at hl 1 rfl) ?_
            refine lv_iload_n hx hb dX9_all_34 rfl (lv_at hl 2 rfl) ?_
            refine z_ci hW hS hA (va_runV (As := [.int 2]) (rest := []) ⟨hx, hb, hml, hown, hts⟩ (sx_X9_one_2x l G ad c I45 ⟨(by show 0 ≤ (I45 12 1).toInt ∧ (I45 12 1).toInt ≤ 500; exact hI45R.1), (by show 0 ≤ (I45 12 5).toInt ∧ (I45 12 5).toInt ≤ 501; exact hI45R.2.1), (by show (-1) ≤ (I45 12 6).toInt ∧ (I45 12 6).toInt ≤ 1000000; exact hI45R.2.2.1), (by show 0 ≤ (I45 12 9).toInt ∧ (I45 12 9).toInt ≤ 500; exact hI45R.2.2.2.1), (by show 0 ≤ (I45 12 13).toInt ∧ (I45 12 13).toInt ≤ 24; exact hI45R.2.2.2.2)⟩ (by show (I45 12 6).toInt ≤ 501 ∧ ((I45 12 7).toInt = 401 ∨ (I45 12 6).toInt ≤ 500); first | omega | decide) (k22 + 1) (zr_P_m hP hM48 (by omega)) _) (cwV 1 hts gX9_all_X9_one rfl rfl rfl (by decide +kernel) ⟨Nat.le_of_ble_eq_true rfl, Nat.le_of_ble_eq_true rfl⟩) (z_preV (i := 12) hK hW rfl rfl) rfl rfl hl.1 rfl (lv_room (Nat.le_of_ble_eq_true rfl)) dX9_all_35 ⟨Nat.le_of_ble_eq_true rfl, Nat.le_of_ble_eq_true rfl⟩) (fun r u1 H locs hp hW hS => ?_)
            obtain ⟨I54, e9, hI54R, hI54T, fI54, hp⟩ := hp
            rw [e9] at hW
            have f55 := z_fr_sub (L := L_X9_all_2x) f46 fI54 (by decide)
            have k56 : (I54 12 6).toInt ≤ 501 ∧ ((I54 12 7).toInt = 401 ∨ (I54 12 6).toInt ≤ 500) := hI54T
            rcases hp with ⟨rfl, hq⟩ | ⟨rfl, hq⟩
            · obtain ⟨k57, cs58, hm59, h60, h61, h62⟩ := hq
              have ho63 := zr_okS hM48 h62
              have hM64 := zr_M_t hM48 hm59 hP.2.2.2.2.1
              have h65 := hM64.1
              have h66 := hM64.2.1
              have h67 := hM64.2.2.1
              have h68 := hM64.2.2.2.1
              have l69 : ((cs23 ++ cs58)).length = cs23.length + cs58.length := by first | rfl | (simp only [List.length_append, List.length_cons, List.length_nil] <;> omega)
              refine lv_if_ne (tgt := 43) hx hb dX9_all_38 (by decide) (fun c70 => ?_) (fun c70 => absurd c70 (by decide))
              refine lv_aload_n hx hb dX9_all_43 rfl (lv_at hl 1 rfl) ?_
              refine lv_bipush (v := (-10)) hx hb dX9_all_44 (by decide) ?_
              refine z_cv hW hS hA (va_runV (As := [.int (-10)]) (rest := []) ⟨hx, hb, hml, hown, hts⟩ (sx_X9_emit_x l G ad c I54 ⟨(by show 0 ≤ (I54 12 1).toInt ∧ (I54 12 1).toInt ≤ 500; exact hI54R.1), (by show 0 ≤ (I54 12 5).toInt ∧ (I54 12 5).toInt ≤ 501; exact hI54R.2.1), (by show (-1) ≤ (I54 12 6).toInt ∧ (I54 12 6).toInt ≤ 1000000; exact hI54R.2.2.1), (by show 0 ≤ (I54 12 9).toInt ∧ (I54 12 9).toInt ≤ 500; exact hI54R.2.2.2.1), (by show 0 ≤ (I54 12 13).toInt ∧ (I54 12 13).toInt ≤ 24; exact hI54R.2.2.2.2)⟩ (-10) (by omega) _) (cwV 1 hts gX9_all_X9_emit rfl rfl rfl (by decide +kernel) ⟨Nat.le_of_ble_eq_true rfl, Nat.le_of_ble_eq_true rfl⟩) (z_preV (i := 12) hK hW rfl rfl) rfl rfl hl.1 rfl (lv_room (Nat.le_of_ble_eq_true rfl)) dX9_all_46 ⟨Nat.le_of_ble_eq_true rfl, Nat.le_of_ble_eq_true rfl⟩) (fun u1 H locs hp hW hS => ?_)
              obtain ⟨I71, e9, hI71R, fI71, hp⟩ := hp
              rw [e9] at hW
              have f72 := z_fr_sub (L := L_X9_all_2x) f55 fI71 (by decide)
              have k73 : (I71 12 6).toInt ≤ 501 ∧ ((I71 12 7).toInt = 401 ∨ (I71 12 6).toInt ≤ 500) := (by have q0 : (I71 12 6) = (I54 12 6) := (by rw [fI71 12 6 (by decide)]); have q1 : (I71 12 7) = (I54 12 7) := (by rw [fI71 12 7 (by decide)]); show (I71 12 6).toInt ≤ 501 ∧ ((I71 12 7).toInt = 401 ∨ (I71 12 6).toInt ≤ 500); rw [q0, q1]; first | omega | decide)
              have hM74 := zr_M_e hM64 hp (show ((-10) : Int32).toInt = (-10) by decide) hP.2.2.2.2.1
              have h75 := hM74.1
              have h76 := hM74.2.1
              have h77 := hM74.2.2.1
              have h78 := hM74.2.2.2.1
              have l79 : (((cs23 ++ cs58) ++ [(-10)])).length = cs23.length + cs58.length + 1 := by first | rfl | (simp only [List.length_append, List.length_cons, List.length_nil] <;> omega)
              obtain ⟨x80, ex80⟩ : ∃ y : Int32, y = y19 + 1 := ⟨_, rfl⟩
              have tx80 : x80.toInt = y19.toInt + 1 := z_tadd ex80 rfl z_l1 (by omega) (by omega)
              refine lv_iinc (v := x80) (lv' := [(2, .int x80), (0, .ref (ad 12)), (1, .int 2)]) hx hb dX9_all_49 hl (k := 0) rfl (by rw [ex80]; rfl) (by decide) rfl (fun ls hl => ?_)
              refine lv_goto (tgt := 12) hx hb dX9_all_52 (by decide) ?_
              exact lp18ih x80 I71  _ _ _ (by omega) (by omega) ⟨(by show 0 ≤ (I71 12 1).toInt ∧ (I71 12 1).toInt ≤ 500; exact hI71R.1), (by show 0 ≤ (I71 12 5).toInt ∧ (I71 12 5).toInt ≤ 501; exact hI71R.2.1), (by show (-1) ≤ (I71 12 6).toInt ∧ (I71 12 6).toInt ≤ 1000000; exact hI71R.2.2.1), (by show 0 ≤ (I71 12 9).toInt ∧ (I71 12 9).toInt ≤ 500; exact hI71R.2.2.2.1), (by show 0 ≤ (I71 12 13).toInt ∧ (I71 12 13).toInt ≤ 24; exact hI71R.2.2.2.2)⟩ (by show (I71 12 6).toInt ≤ 501 ∧ ((I71 12 7).toInt = 401 ∨ (I71 12 6).toInt ≤ 500); first | omega | decide) (zr_lp_of hM74 (by rw [zr_e4 (show zr_tk I k22 = 310 by omega), List.append_assoc]) (by omega) (by omega) (zp_L2 (by decide) (Or.inr (Or.inr (Or.inr rfl))) lp27 (zr_g4p (by omega)) ho63)) f72 hW hS (lv_sub hl [0, 1, 2] rfl)
            · obtain ⟨f81, hf82, h83⟩ := hq
              have hb84 := zr_noS hM48 h83
              have hF85 := zr_F_m hM48 hf82
              refine lv_if_ne (tgt := 43) hx hb dX9_all_38 (by decide) (fun c86 => absurd (by decide) c86) (fun c86 => ?_)
              refine lv_iconst (v := 0) hx hb dX9_all_41 (by decide) ?_
              exact z_zret hx hb hr (by decide) hK hS (Nat.le_of_ble_eq_true rfl) (Nat.le_of_ble_eq_true rfl) hlocks dX9_all_42 (shC c, ad, I54, JX, PC c ad) hW ⟨I54, rfl, ⟨(by show 0 ≤ (I54 12 1).toInt ∧ (I54 12 1).toInt ≤ 500; exact hI54R.1), (by show 0 ≤ (I54 12 5).toInt ∧ (I54 12 5).toInt ≤ 501; exact hI54R.2.1), (by show (-1) ≤ (I54 12 6).toInt ∧ (I54 12 6).toInt ≤ 1000000; exact hI54R.2.2.1), (by show 0 ≤ (I54 12 9).toInt ∧ (I54 12 9).toInt ≤ 500; exact hI54R.2.2.2.1), (by show 0 ≤ (I54 12 13).toInt ∧ (I54 12 13).toInt ≤ 24; exact hI54R.2.2.2.2)⟩, (by show (I54 12 6).toInt ≤ 501 ∧ ((I54 12 7).toInt = 401 ∨ (I54 12 6).toInt ≤ 500); first | omega | decide), f55, (Or.inr ⟨rfl, f81, hF85, (zp_L5 (by decide) (Or.inr (Or.inr (Or.inr rfl))) lp27 (zr_g4p (by omega)) hb84)⟩)⟩
    exact lp18 4294967296 (0) I1  _ _ _ (z_m0u _) (by rw [z_l0]; omega) ⟨(by show 0 ≤ (I1 12 1).toInt ∧ (I1 12 1).toInt ≤ 500; exact hI1R.1), (by show 0 ≤ (I1 12 5).toInt ∧ (I1 12 5).toInt ≤ 501; exact hI1R.2.1), (by show (-1) ≤ (I1 12 6).toInt ∧ (I1 12 6).toInt ≤ 1000000; exact hI1R.2.2.1), (by show 0 ≤ (I1 12 9).toInt ∧ (I1 12 9).toInt ≤ 500; exact hI1R.2.2.2.1), (by show 0 ≤ (I1 12 13).toInt ∧ (I1 12 13).toInt ≤ 24; exact hI1R.2.2.2.2)⟩ (by show (I1 12 6).toInt ≤ 501 ∧ ((I1 12 7).toInt = 401 ∨ (I1 12 6).toInt ≤ 500); first | omega | decide) (zr_lp_of hM11 rfl (by have := z_l0; omega) (by omega) (zp_L1 (by decide) (Or.inr (Or.inr (Or.inr rfl))) ho10)) f2 hW hS (lv_sub hl [0, 1, 2] rfl)
  · obtain ⟨f87, hf88, h89⟩ := hq
    have hb90 := zr_noS hM0 h89
    have hF91 := zr_F_m hM0 hf88
    refine lv_if_ne (tgt := 10) hx hb dX9_all_5 (by decide) (fun c92 => absurd (by decide) c92) (fun c92 => ?_)
    refine lv_iconst (v := 0) hx hb dX9_all_8 (by decide) ?_
    exact z_zret hx hb hr (by decide) hK hS (Nat.le_of_ble_eq_true rfl) (Nat.le_of_ble_eq_true rfl) hlocks dX9_all_9 (shC c, ad, I1, JX, PC c ad) hW ⟨I1, rfl, ⟨(by show 0 ≤ (I1 12 1).toInt ∧ (I1 12 1).toInt ≤ 500; exact hI1R.1), (by show 0 ≤ (I1 12 5).toInt ∧ (I1 12 5).toInt ≤ 501; exact hI1R.2.1), (by show (-1) ≤ (I1 12 6).toInt ∧ (I1 12 6).toInt ≤ 1000000; exact hI1R.2.2.1), (by show 0 ≤ (I1 12 9).toInt ∧ (I1 12 9).toInt ≤ 500; exact hI1R.2.2.2.1), (by show 0 ≤ (I1 12 13).toInt ∧ (I1 12 13).toInt ≤ 24; exact hI1R.2.2.2.2)⟩, (by show (I1 12 6).toInt ≤ 501 ∧ ((I1 12 7).toInt = 401 ∨ (I1 12 6).toInt ≤ 500); first | omega | decide), f2, (Or.inr ⟨rfl, f87, hF91, (zp_L4 (by decide) (Or.inr (Or.inr (Or.inr rfl))) hb90)⟩)⟩
noncomputable def L_X9_either_2x : z_L := [(12, 6), (12, 7), (17, 999), (12, 9)]
set_option maxHeartbeats 8000000 in
set_option maxRecDepth 100000 in
theorem sx_X9_either_2x (l : Launch) (G : z_G) (ad : Nat → Nat) (c : z_C) (I : z_I) (hR : z_iR I) (hT : z_iT I) (k : Nat) (hP : zr_P I k) : z_M l yX9_either wsX9_either { frames := 76, cells := 0, slots := 0, locals := 1661 } [.ref (ad 12), .int 2] G (shC c, ad, I, JX, PC c ad) (fun r u1 => ∃ I1 : z_I, u1 = (shC c, ad, I1, JX, PC c ad) ∧ z_iR I1 ∧ z_iT I1 ∧ z_fr L_X9_either_2x I1 I ∧ ((r = 1 ∧ zr_ok 3 2 I I1 k) ∨ (r = 0 ∧ zr_no 3 2 I I1 k))) 0 0 := by
  intro sz
  refine z_headQ (cc := cX9_either) (maxL := 3) (ret := (some .boolean)) (by decide) rfl (Nat.le_of_ble_eq_true rfl) ?_
  intro p e s m below meth c0 ls hIn hK hsz hW hl
  obtain ⟨hx, hb, hr, hml, hown, hts, hlocks, hname⟩ := hIn
  subst hsz
  have hown : s.vm.findClass RX9 = some m.cls := hown
  have hA : ∀ q : Nat, s.heap.size ≤ q → z_A (shC c, ad, I, JX, PC c ad) s.heap.size q := fun q h => Or.inr h
  generalize hAe : z_A (shC c, ad, I, JX, PC c ad) s.heap.size = A at *
  have hS : va_S A s.heap s.heap [] := va_S.rf
  have hl : lv_has ls 3 [(0, .ref (ad 12)), (1, .int 2)] := hl
  have hM0 := zr_M_0 hP
  have hP1 := hP.1
  have hP2 := hP.2.1
  have hP3 := hP.2.2.1
  have hP4 := hP.2.2.2.1
  have hP5 := hP.2.2.2.2.1
  have hP6 := hP.2.2.2.2.2.1
  have hlz : ([] : List Int).length = 0 := rfl
  have kT : (I 12 6).toInt ≤ 501 ∧ ((I 12 7).toInt = 401 ∨ (I 12 6).toInt ≤ 500) := hT
  refine lv_aload_n hx hb dX9_either_0 rfl (lv_at hl 0 rfl) ?_
  refine lv_iload_n hx hb dX9_either_1 rfl (lv_at hl 1 rfl) ?_
  refine z_ci hW hS hA (va_runV (As := [.int 2]) (rest := []) ⟨hx, hb, hml, hown, hts⟩ (sx_X9_all_2x l G ad c I ⟨(by show 0 ≤ (I 12 1).toInt ∧ (I 12 1).toInt ≤ 500; exact hR.1), (by show 0 ≤ (I 12 5).toInt ∧ (I 12 5).toInt ≤ 501; exact hR.2.1), (by show (-1) ≤ (I 12 6).toInt ∧ (I 12 6).toInt ≤ 1000000; exact hR.2.2.1), (by show 0 ≤ (I 12 9).toInt ∧ (I 12 9).toInt ≤ 500; exact hR.2.2.2.1), (by show 0 ≤ (I 12 13).toInt ∧ (I 12 13).toInt ≤ 24; exact hR.2.2.2.2)⟩ (by show (I 12 6).toInt ≤ 501 ∧ ((I 12 7).toInt = 401 ∨ (I 12 6).toInt ≤ 500); first | omega | decide) k (zr_P_m hP hM0 (by omega)) _) (cwV 1 hts gX9_either_X9_all rfl rfl rfl (by decide +kernel) ⟨Nat.le_of_ble_eq_true rfl, Nat.le_of_ble_eq_true rfl⟩) (z_preV (i := 12) hK hW rfl rfl) rfl rfl hl.1 rfl (lv_room (Nat.le_of_ble_eq_true rfl)) dX9_either_2 ⟨Nat.le_of_ble_eq_true rfl, Nat.le_of_ble_eq_true rfl⟩) (fun r u1 H locs hp hW hS => ?_)
  obtain ⟨I1, e9, hI1R, hI1T, fI1, hp⟩ := hp
  rw [e9] at hW
  have f2 := z_fr_sub (L := L_X9_either_2x) z_fr_0 fI1 (by decide)
  have k3 : (I1 12 6).toInt ≤ 501 ∧ ((I1 12 7).toInt = 401 ∨ (I1 12 6).toInt ≤ 500) := hI1T
  rcases hp with ⟨rfl, hq⟩ | ⟨rfl, hq⟩
  · obtain ⟨k4, cs5, hm6, h7, h8, h9⟩ := hq
    have ho10 := zr_okS hM0 h9
    have hM11 := (show zr_M I I1 k4 cs5 from zr_M_t hM0 hm6 hP.2.2.2.2.1)
    have h12 := hM11.1
    have h13 := hM11.2.1
    have h14 := hM11.2.2.1
    have h15 := hM11.2.2.2.1
    have l16 : (cs5).length = cs5.length := by first | rfl | (simp only [List.length_append, List.length_cons, List.length_nil] <;> omega)
    refine lv_if_ne (tgt := 10) hx hb dX9_either_5 (by decide) (fun c17 => ?_) (fun c17 => absurd c17 (by decide))
    refine lv_iconst (v := 0) hx hb dX9_either_10 (by decide) ?_
    refine lv_istore_n (lv' := [(2, .int 0), (0, .ref (ad 12)), (1, .int 2)]) hx hb dX9_either_11 rfl hl (by decide) rfl (fun ls hl => ?_)
    have lp18 : ∀ (f : Nat) (y19 : Int32) (I20 : z_I) (H : Heap) (locs : List Loc) (ls : Array Slot), (2147483647 < y19.toInt + (f : Int)) → (0 ≤ y19.toInt) → (z_iR I20) → (z_iT I20) → (zr_lp 3 2 I I20 k y19.toInt) → (z_fr L_X9_either_2x I20 I) → z_W G A (shC c, ad, I20, JX, PC c ad) H → va_S A s.heap H locs → lv_has ls 3 [(2, .int y19), (0, .ref (ad 12)), (1, .int 2)] → W p l e (headSpec wsX9_either { frames := 76, cells := 0, slots := 0, locals := 1661 }).room s m ([.ref (ad 12), .int 2] : List Value).toArray below meth c0 H locs 0 0 (MQ below (va_Qi (fun (r : Int32) (u1 : z_U) => ∃ I1 : z_I, u1 = (shC c, ad, I1, JX, PC c ad) ∧ z_iR I1 ∧ z_iT I1 ∧ z_fr L_X9_either_2x I1 I ∧ ((r = 1 ∧ zr_ok 3 2 I I1 k) ∨ (r = 0 ∧ zr_no 3 2 I I1 k))) (z_B G A) A) ([.ref (ad 12), .int 2] : List Value).toArray s 0 0 A) (F0 m 12 ls []) := by
      intro f
      induction f with
      | zero => intro y19 I20  H locs ls lp18m lp18l2 lp18R lp18T lp18LP lp18fr hW hS hl; exact absurd lp18m (by have := Int32.toInt_lt y19; have := Int32.le_toInt y19; omega)
      | succ f lp18ih =>
        intro y19 I20  H locs ls lp18m lp18l2 lp18R lp18T lp18LP lp18fr hW hS hl
        have k21 : (I20 12 6).toInt ≤ 501 ∧ ((I20 12 7).toInt = 401 ∨ (I20 12 6).toInt ≤ 500) := lp18T
        refine lv_iload_n hx hb dX9_either_12 rfl (lv_at hl 0 rfl) ?_
        obtain ⟨k22, cs23, hm24, h25, h26, lp27⟩ := lp18LP
        have hM28 := hm24
        have h29 := hM28.1
        have h30 := hM28.2.1
        have h31 := hM28.2.2.1
        have h32 := hM28.2.2.2.1
        have l33 : (cs23).length = cs23.length := by first | rfl | (simp only [List.length_append, List.length_cons, List.length_nil] <;> omega)
        refine lv_sipush (v := 500) hx hb dX9_either_13 (by decide) ?_
        refine lv_icmp_ge (tgt := 55) hx hb dX9_either_16 (by decide) (fun c34 => ?_) (fun c34 => ?_)
        · have g35 := z_f_ge rfl z_l500 c34
          have b36 := Int32.toInt_lt y19
          refine lv_iconst (v := 1) hx hb dX9_either_55 (by decide) ?_
          exact z_zret hx hb hr (by decide) hK hS (Nat.le_of_ble_eq_true rfl) (Nat.le_of_ble_eq_true rfl) hlocks dX9_either_56 (shC c, ad, I20, JX, PC c ad) hW ⟨I20, rfl, ⟨(by show 0 ≤ (I20 12 1).toInt ∧ (I20 12 1).toInt ≤ 500; exact lp18R.1), (by show 0 ≤ (I20 12 5).toInt ∧ (I20 12 5).toInt ≤ 501; exact lp18R.2.1), (by show (-1) ≤ (I20 12 6).toInt ∧ (I20 12 6).toInt ≤ 1000000; exact lp18R.2.2.1), (by show 0 ≤ (I20 12 9).toInt ∧ (I20 12 9).toInt ≤ 500; exact lp18R.2.2.2.1), (by show 0 ≤ (I20 12 13).toInt ∧ (I20 12 13).toInt ≤ 24; exact lp18R.2.2.2.2)⟩, (by show (I20 12 6).toInt ≤ 501 ∧ ((I20 12 7).toInt = 401 ∨ (I20 12 6).toInt ≤ 500); first | omega | decide), lp18fr, (False.elim (by omega))⟩
        · have g37 := z_f_nge rfl z_l500 c34
          have b38 := Int32.toInt_lt y19
          refine lv_aload_n hx hb dX9_either_19 rfl (lv_at hl 1 rfl) ?_
          refine z_get (T := TX9) (N := 14) (ci := 9) (i := 12) (v := .int (I20 12 7)) hx hb hts zj_X9_either_X9 hown hK hW rfl rfl 7 (by decide) (hts (.fieldLink RX9 62 "PetrolBoard$Reader" "token" "I") (me_s (me_l (me_l (List.mem_of_getElem? (i := 0) rfl))))) (fun _ h => h) rfl dX9_either_20 ?_
          refine lv_sipush (v := 309) hx hb dX9_either_23 (by decide) ?_
          refine lv_icmp_ne (tgt := 55) hx hb dX9_either_26 (by decide) (fun c39 => ?_) (fun c39 => ?_)
          · have g40 := z_f_ne rfl z_l309 c39
            have b41 := Int32.toInt_lt (I20 12 7)
            refine lv_iconst (v := 1) hx hb dX9_either_55 (by decide) ?_
            exact z_zret hx hb hr (by decide) hK hS (Nat.le_of_ble_eq_true rfl) (Nat.le_of_ble_eq_true rfl) hlocks dX9_either_56 (shC c, ad, I20, JX, PC c ad) hW ⟨I20, rfl, ⟨(by show 0 ≤ (I20 12 1).toInt ∧ (I20 12 1).toInt ≤ 500; exact lp18R.1), (by show 0 ≤ (I20 12 5).toInt ∧ (I20 12 5).toInt ≤ 501; exact lp18R.2.1), (by show (-1) ≤ (I20 12 6).toInt ∧ (I20 12 6).toInt ≤ 1000000; exact lp18R.2.2.1), (by show 0 ≤ (I20 12 9).toInt ∧ (I20 12 9).toInt ≤ 500; exact lp18R.2.2.2.1), (by show 0 ≤ (I20 12 13).toInt ∧ (I20 12 13).toInt ≤ 24; exact lp18R.2.2.2.2)⟩, (by show (I20 12 6).toInt ≤ 501 ∧ ((I20 12 7).toInt = 401 ∨ (I20 12 6).toInt ≤ 500); first | omega | decide), lp18fr, (Or.inl ⟨rfl, zr_ok_of hM28 rfl (by omega) (by omega) (zp_L3 (Or.inr (Or.inr (Or.inl rfl))) lp27 (zr_g3n (by omega)))⟩)⟩
          · have g42 := z_f_eq rfl z_l309 c39
            have b43 := Int32.toInt_lt (I20 12 7)
            refine lv_aload_n hx hb dX9_either_29 rfl (lv_at hl 1 rfl) ?_
            have q44 := zr_Q_n (zr_Q_m hP hM28) (by rw [zr_tkS hM28]; omega)
            refine z_cv hW hS hA (va_runV (As := []) (rest := []) ⟨hx, hb, hml, hown, hts⟩ (sx_X9_step_x l G ad c I20 ⟨(by show 0 ≤ (I20 12 1).toInt ∧ (I20 12 1).toInt ≤ 500; exact lp18R.1), (by show 0 ≤ (I20 12 5).toInt ∧ (I20 12 5).toInt ≤ 501; exact lp18R.2.1), (by show (-1) ≤ (I20 12 6).toInt ∧ (I20 12 6).toInt ≤ 1000000; exact lp18R.2.2.1), (by show 0 ≤ (I20 12 9).toInt ∧ (I20 12 9).toInt ≤ 500; exact lp18R.2.2.2.1), (by show 0 ≤ (I20 12 13).toInt ∧ (I20 12 13).toInt ≤ 24; exact lp18R.2.2.2.2)⟩ (k22 + 1) q44 _) (cwV 0 hts gX9_either_X9_step rfl rfl rfl (by decide +kernel) ⟨Nat.le_of_ble_eq_true rfl, Nat.le_of_ble_eq_true rfl⟩) (z_preV (i := 12) hK hW rfl rfl) rfl rfl hl.1 rfl (lv_room (Nat.le_of_ble_eq_true rfl)) dX9_either_30 ⟨Nat.le_of_ble_eq_true rfl, Nat.le_of_ble_eq_true rfl⟩) (fun u1 H locs hp hW hS => ?_)
            obtain ⟨I45, e9, hI45R, hI45T, fI45, hp⟩ := hp
            rw [e9] at hW
            have f46 := z_fr_sub (L := L_X9_either_2x) lp18fr fI45 (by decide)
            have k47 : (I45 12 6).toInt ≤ 501 ∧ ((I45 12 7).toInt = 401 ∨ (I45 12 6).toInt ≤ 500) := hI45T
            have hM48 := zr_M_s hM28 hp hP.2.2.2.2.1
            have h49 := hM48.1
            have h50 := hM48.2.1
            have h51 := hM48.2.2.1
            have h52 := hM48.2.2.2.1
            have l53 : (cs23).length = cs23.length := by first | rfl | (simp only [List.length_append, List.length_cons, List.length_nil] <;> omega)
            refine lv_aload_n hx hb dX9_either_33 rfl (lv_at hl 1 rfl) ?_
            refine lv_iload_n hx hb dX9_either_34 rfl (lv_at hl 2 rfl) ?_
            refine z_ci hW hS hA (va_runV (As := [.int 2]) (rest := []) ⟨hx, hb, hml, hown, hts⟩ (sx_X9_all_2x l G ad c I45 ⟨(by show 0 ≤ (I45 12 1).toInt ∧ (I45 12 1).toInt ≤ 500; exact hI45R.1), (by show 0 ≤ (I45 12 5).toInt ∧ (I45 12 5).toInt ≤ 501; exact hI45R.2.1), (by show (-1) ≤ (I45 12 6).toInt ∧ (I45 12 6).toInt ≤ 1000000; exact hI45R.2.2.1), (by show 0 ≤ (I45 12 9).toInt ∧ (I45 12 9).toInt ≤ 500; exact hI45R.2.2.2.1), (by show 0 ≤ (I45 12 13).toInt ∧ (I45 12 13).toInt ≤ 24; exact hI45R.2.2.2.2)⟩ (by show (I45 12 6).toInt ≤ 501 ∧ ((I45 12 7).toInt = 401 ∨ (I45 12 6).toInt ≤ 500); first | omega | decide) (k22 + 1) (zr_P_m hP hM48 (by omega)) _) (cwV 1 hts gX9_either_X9_all rfl rfl rfl (by decide +kernel) ⟨Nat.le_of_ble_eq_true rfl, Nat.le_of_ble_eq_true rfl⟩) (z_preV (i := 12) hK hW rfl rfl) rfl rfl hl.1 rfl (lv_room (Nat.le_of_ble_eq_true rfl)) dX9_either_35 ⟨Nat.le_of_ble_eq_true rfl, Nat.le_of_ble_eq_true rfl⟩) (fun r u1 H locs hp hW hS => ?_)
            obtain ⟨I54, e9, hI54R, hI54T, fI54, hp⟩ := hp
            rw [e9] at hW
            have f55 := z_fr_sub (L := L_X9_either_2x) f46 fI54 (by decide)
            have k56 : (I54 12 6).toInt ≤ 501 ∧ ((I54 12 7).toInt = 401 ∨ (I54 12 6).toInt ≤ 500) := hI54T
            rcases hp with ⟨rfl, hq⟩ | ⟨rfl, hq⟩
            · obtain ⟨k57, cs58, hm59, h60, h61, h62⟩ := hq
              have ho63 := zr_okS hM48 h62
              have hM64 := zr_M_t hM48 hm59 hP.2.2.2.2.1
              have h65 := hM64.1
              have h66 := hM64.2.1
              have h67 := hM64.2.2.1
              have h68 := hM64.2.2.2.1
              have l69 : ((cs23 ++ cs58)).length = cs23.length + cs58.length := by first | rfl | (simp only [List.length_append, List.length_cons, List.length_nil] <;> omega)
              refine lv_if_ne (tgt := 43) hx hb dX9_either_38 (by decide) (fun c70 => ?_) (fun c70 => absurd c70 (by decide))
              refine lv_aload_n hx hb dX9_either_43 rfl (lv_at hl 1 rfl) ?_
              refine lv_bipush (v := (-11)) hx hb dX9_either_44 (by decide) ?_
              refine z_cv hW hS hA (va_runV (As := [.int (-11)]) (rest := []) ⟨hx, hb, hml, hown, hts⟩ (sx_X9_emit_x l G ad c I54 ⟨(by show 0 ≤ (I54 12 1).toInt ∧ (I54 12 1).toInt ≤ 500; exact hI54R.1), (by show 0 ≤ (I54 12 5).toInt ∧ (I54 12 5).toInt ≤ 501; exact hI54R.2.1), (by show (-1) ≤ (I54 12 6).toInt ∧ (I54 12 6).toInt ≤ 1000000; exact hI54R.2.2.1), (by show 0 ≤ (I54 12 9).toInt ∧ (I54 12 9).toInt ≤ 500; exact hI54R.2.2.2.1), (by show 0 ≤ (I54 12 13).toInt ∧ (I54 12 13).toInt ≤ 24; exact hI54R.2.2.2.2)⟩ (-11) (by omega) _) (cwV 1 hts gX9_either_X9_emit rfl rfl rfl (by decide +kernel) ⟨Nat.le_of_ble_eq_true rfl, Nat.le_of_ble_eq_true rfl⟩) (z_preV (i := 12) hK hW rfl rfl) rfl rfl hl.1 rfl (lv_room (Nat.le_of_ble_eq_true rfl)) dX9_either_46 ⟨Nat.le_of_ble_eq_true rfl, Nat.le_of_ble_eq_true rfl⟩) (fun u1 H locs hp hW hS => ?_)
              obtain ⟨I71, e9, hI71R, fI71, hp⟩ := hp
              rw [e9] at hW
              have f72 := z_fr_sub (L := L_X9_either_2x) f55 fI71 (by decide)
              have k73 : (I71 12 6).toInt ≤ 501 ∧ ((I71 12 7).toInt = 401 ∨ (I71 12 6).toInt ≤ 500) := (by have q0 : (I71 12 6) = (I54 12 6) := (by rw [fI71 12 6 (by decide)]); have q1 : (I71 12 7) = (I54 12 7) := (by rw [fI71 12 7 (by decide)]); show (I71 12 6).toInt ≤ 501 ∧ ((I71 12 7).toInt = 401 ∨ (I71 12 6).toInt ≤ 500); rw [q0, q1]; first | omega | decide)
              have hM74 := zr_M_e hM64 hp (show ((-11) : Int32).toInt = (-11) by decide) hP.2.2.2.2.1
              have h75 := hM74.1
              have h76 := hM74.2.1
              have h77 := hM74.2.2.1
              have h78 := hM74.2.2.2.1
              have l79 : (((cs23 ++ cs58) ++ [(-11)])).length = cs23.length + cs58.length + 1 := by first | rfl | (simp only [List.length_append, List.length_cons, List.length_nil] <;> omega)
              obtain ⟨x80, ex80⟩ : ∃ y : Int32, y = y19 + 1 := ⟨_, rfl⟩
              have tx80 : x80.toInt = y19.toInt + 1 := z_tadd ex80 rfl z_l1 (by omega) (by omega)
              refine lv_iinc (v := x80) (lv' := [(2, .int x80), (0, .ref (ad 12)), (1, .int 2)]) hx hb dX9_either_49 hl (k := 0) rfl (by rw [ex80]; rfl) (by decide) rfl (fun ls hl => ?_)
              refine lv_goto (tgt := 12) hx hb dX9_either_52 (by decide) ?_
              exact lp18ih x80 I71  _ _ _ (by omega) (by omega) ⟨(by show 0 ≤ (I71 12 1).toInt ∧ (I71 12 1).toInt ≤ 500; exact hI71R.1), (by show 0 ≤ (I71 12 5).toInt ∧ (I71 12 5).toInt ≤ 501; exact hI71R.2.1), (by show (-1) ≤ (I71 12 6).toInt ∧ (I71 12 6).toInt ≤ 1000000; exact hI71R.2.2.1), (by show 0 ≤ (I71 12 9).toInt ∧ (I71 12 9).toInt ≤ 500; exact hI71R.2.2.2.1), (by show 0 ≤ (I71 12 13).toInt ∧ (I71 12 13).toInt ≤ 24; exact hI71R.2.2.2.2)⟩ (by show (I71 12 6).toInt ≤ 501 ∧ ((I71 12 7).toInt = 401 ∨ (I71 12 6).toInt ≤ 500); first | omega | decide) (zr_lp_of hM74 (by rw [zr_e3 (show zr_tk I k22 = 309 by omega), List.append_assoc]) (by omega) (by omega) (zp_L2 (by decide) (Or.inr (Or.inr (Or.inl rfl))) lp27 (zr_g3p (by omega)) ho63)) f72 hW hS (lv_sub hl [0, 1, 2] rfl)
            · obtain ⟨f81, hf82, h83⟩ := hq
              have hb84 := zr_noS hM48 h83
              have hF85 := zr_F_m hM48 hf82
              refine lv_if_ne (tgt := 43) hx hb dX9_either_38 (by decide) (fun c86 => absurd (by decide) c86) (fun c86 => ?_)
              refine lv_iconst (v := 0) hx hb dX9_either_41 (by decide) ?_
              exact z_zret hx hb hr (by decide) hK hS (Nat.le_of_ble_eq_true rfl) (Nat.le_of_ble_eq_true rfl) hlocks dX9_either_42 (shC c, ad, I54, JX, PC c ad) hW ⟨I54, rfl, ⟨(by show 0 ≤ (I54 12 1).toInt ∧ (I54 12 1).toInt ≤ 500; exact hI54R.1), (by show 0 ≤ (I54 12 5).toInt ∧ (I54 12 5).toInt ≤ 501; exact hI54R.2.1), (by show (-1) ≤ (I54 12 6).toInt ∧ (I54 12 6).toInt ≤ 1000000; exact hI54R.2.2.1), (by show 0 ≤ (I54 12 9).toInt ∧ (I54 12 9).toInt ≤ 500; exact hI54R.2.2.2.1), (by show 0 ≤ (I54 12 13).toInt ∧ (I54 12 13).toInt ≤ 24; exact hI54R.2.2.2.2)⟩, (by show (I54 12 6).toInt ≤ 501 ∧ ((I54 12 7).toInt = 401 ∨ (I54 12 6).toInt ≤ 500); first | omega | decide), f55, (Or.inr ⟨rfl, f81, hF85, (zp_L5 (by decide) (Or.inr (Or.inr (Or.inl rfl))) lp27 (zr_g3p (by omega)) hb84)⟩)⟩
    exact lp18 4294967296 (0) I1  _ _ _ (z_m0u _) (by rw [z_l0]; omega) ⟨(by show 0 ≤ (I1 12 1).toInt ∧ (I1 12 1).toInt ≤ 500; exact hI1R.1), (by show 0 ≤ (I1 12 5).toInt ∧ (I1 12 5).toInt ≤ 501; exact hI1R.2.1), (by show (-1) ≤ (I1 12 6).toInt ∧ (I1 12 6).toInt ≤ 1000000; exact hI1R.2.2.1), (by show 0 ≤ (I1 12 9).toInt ∧ (I1 12 9).toInt ≤ 500; exact hI1R.2.2.2.1), (by show 0 ≤ (I1 12 13).toInt ∧ (I1 12 13).toInt ≤ 24; exact hI1R.2.2.2.2)⟩ (by show (I1 12 6).toInt ≤ 501 ∧ ((I1 12 7).toInt = 401 ∨ (I1 12 6).toInt ≤ 500); first | omega | decide) (zr_lp_of hM11 rfl (by have := z_l0; omega) (by omega) (zp_L1 (by decide) (Or.inr (Or.inr (Or.inl rfl))) ho10)) f2 hW hS (lv_sub hl [0, 1, 2] rfl)
  · obtain ⟨f87, hf88, h89⟩ := hq
    have hb90 := zr_noS hM0 h89
    have hF91 := zr_F_m hM0 hf88
    refine lv_if_ne (tgt := 10) hx hb dX9_either_5 (by decide) (fun c92 => absurd (by decide) c92) (fun c92 => ?_)
    refine lv_iconst (v := 0) hx hb dX9_either_8 (by decide) ?_
    exact z_zret hx hb hr (by decide) hK hS (Nat.le_of_ble_eq_true rfl) (Nat.le_of_ble_eq_true rfl) hlocks dX9_either_9 (shC c, ad, I1, JX, PC c ad) hW ⟨I1, rfl, ⟨(by show 0 ≤ (I1 12 1).toInt ∧ (I1 12 1).toInt ≤ 500; exact hI1R.1), (by show 0 ≤ (I1 12 5).toInt ∧ (I1 12 5).toInt ≤ 501; exact hI1R.2.1), (by show (-1) ≤ (I1 12 6).toInt ∧ (I1 12 6).toInt ≤ 1000000; exact hI1R.2.2.1), (by show 0 ≤ (I1 12 9).toInt ∧ (I1 12 9).toInt ≤ 500; exact hI1R.2.2.2.1), (by show 0 ≤ (I1 12 13).toInt ∧ (I1 12 13).toInt ≤ 24; exact hI1R.2.2.2.2)⟩, (by show (I1 12 6).toInt ≤ 501 ∧ ((I1 12 7).toInt = 401 ∨ (I1 12 6).toInt ≤ 500); first | omega | decide), f2, (Or.inr ⟨rfl, f87, hF91, (zp_L4 (by decide) (Or.inr (Or.inr (Or.inl rfl))) hb90)⟩)⟩
