section ZW
variable {A : Int → Int} {n : zp_N} {a b : Int}
end ZW
set_option maxHeartbeats 8000000 in
set_option maxRecDepth 100000 in
theorem sx_X12_works_x_q (l : Launch) (G : z_G) (ad : Nat → Nat) (I : z_I) (J : z_J) (hNd : z_Nd I) (hAsf : z_rg 19 0 6200 I) (hAst : z_rg 20 0 6200 I) (FZ0 : Nat) (NN : List zp_N) (a1 : Int32) (q1 : 0 ≤ a1.toInt ∧ a1.toInt ≤ 319) (hF : (I 19 a1.toNatClampNeg).toInt = (FZ0 : Int)) (hT : (I 20 a1.toNatClampNeg).toInt = (FZ0 : Int) + (NN.length : Int)) (hQ : zm_Q I FZ0 NN) (hod : zv_od FZ0 FZ0 NN) (hnn : zv_nn NN) (hbA : zv_bA (zw_A J)) : z_Mv l yX12_works wsX12_works { frames := 2, cells := 0, slots := 0, locals := 33 } [.ref (ad 0), .int a1] G (shM, ad, I, J, PM ad) (fun u1 => ∃ (I1 : z_I) (J1 : z_J), u1 = (shM, ad, I1, J1, PM ad) ∧ z_Nd I1 ∧ z_rg 19 0 6200 I1 ∧ z_rg 20 0 6200 I1 ∧ z_fr L_X12_works_x I1 I ∧ zp_RV (zw_A J) (zw_R J1) FZ0 NN ∧ ∀ j, J1 30 j = J 30 j) 0 0 := sorry
set_option maxHeartbeats 8000000 in
set_option maxRecDepth 100000 in
theorem sx_X12_first_x_q (l : Launch) (G : z_G) (ad : Nat → Nat) (I : z_I) (J : z_J) (hmb : z_imb I) (hAtf : z_rg 11 0 288 I) (hAtm : z_rg 12 0 24 I) (hNd : z_Nd I) (hAsf : z_rg 19 0 6200 I) (hAst : z_rg 20 0 6200 I) (hAsc : z_rg 18 (-1) 6199 I) (hEx : z_Ex I) (RS : List zm_row) (FZ0 : Nat) (a1 : Int32) (a2 : Int32) (q1 : -1 ≤ a1.toInt ∧ a1.toInt ≤ 11) (q2 : 0 ≤ a2.toInt ∧ a2.toInt ≤ 1) (hT : 0 ≤ a1.toInt → zw_T I a1.toNatClampNeg FZ0 RS) (hbA : zv_bA (zw_A J)) : z_M l yX12_first wsX12_first { frames := 4, cells := 0, slots := 0, locals := 83 } [.ref (ad 0), .int a1, .int a2] G (shM, ad, I, J, PM ad) (fun r u1 => ∃ (I1 : z_I) (J1 : z_J), u1 = (shM, ad, I1, J1, PM ad) ∧ z_imb I1 ∧ z_rg 11 0 288 I1 ∧ z_rg 12 0 24 I1 ∧ z_Nd I1 ∧ z_rg 19 0 6200 I1 ∧ z_rg 20 0 6200 I1 ∧ z_rg 18 (-1) 6199 I1 ∧ z_Ex I1 ∧ z_fr L_X12_first_x I1 I ∧ ((a1.toInt < 0 → r.toInt = 0) ∧ (0 ≤ a1.toInt → r.toInt = zv_fi (zw_A J) (300 + a2.toInt) (RS.map Prod.fst)) ∧ ∀ j, J1 30 j = J 30 j)) 0 0 := by
  intro sz
  refine z_headQ (cc := cX12_first) (maxL := 6) (ret := (some .int)) (by decide) rfl (Nat.le_of_ble_eq_true rfl) ?_
  intro p e s m below meth c0 ls hIn hK hsz hW hl
  obtain ⟨hx, hb, hr, hml, hown, hts, hlocks, hname⟩ := hIn
  subst hsz
  have hown : s.vm.findClass RX12 = some m.cls := hown
  have hA : ∀ q : Nat, s.heap.size ≤ q → z_A (shM, ad, I, J, PM ad) s.heap.size q := fun q h => Or.inr h
  generalize hAe : z_A (shM, ad, I, J, PM ad) s.heap.size = A at *
  have hS : va_S A s.heap s.heap [] := va_S.rf
  have hl : lv_has ls 6 [(0, .ref (ad 0)), (1, .int a1), (2, .int a2)] := hl
  refine lv_iload_n hx hb dX12_first_0 rfl (lv_at hl 1 rfl) ?_
  refine lv_if_ge (tgt := 6) hx hb dX12_first_1 (by decide) (fun c1 => ?_) (fun c1 => ?_)
  · have g2 := z_f_ge rfl z_l0 c1
    have hT9 := hT (by omega)
    have htf9 := hT9.1
    have htm9 := hT9.2.1
    refine lv_aload_n hx hb dX12_first_6 rfl (lv_at hl 0 rfl) ?_
    refine z_get (T := TX12) (N := 96) (ci := 12) (i := 0) (v := .ref (ad 11)) hx hb hts zj_X12_first_X12 hown hK hW rfl rfl 16 (by decide) (hts (.fieldLink RX12 40 "PetrolBoardModel" "textFirst" "[I") (me_s (me_l (me_l (List.mem_of_getElem? (i := 0) rfl))))) (fun _ h => h) rfl dX12_first_7 ?_
    refine lv_iload_n hx hb dX12_first_10 rfl (lv_at hl 1 rfl) ?_
    refine z_iald (i := 11) hx hb hK hW rfl (z_ix rfl (by omega) (by omega)) dX12_first_11 ?_
    refine lv_topi (fun x3 ex3 => ?_)
    have h4 : 0 ≤ x3.toInt ∧ x3.toInt ≤ 288 := by rw [ex3]; exact hAtf _
    have h5 : x3 = I 11 a1.toNatClampNeg := by rw [ex3]
    have h6 := congrArg Int32.toInt h5
    refine lv_istore_n (lv' := [(3, .int x3), (0, .ref (ad 0)), (1, .int a1), (2, .int a2)]) hx hb dX12_first_12 rfl hl (by decide) rfl (fun ls hl => ?_)
    have lp7 : ∀ (f : Nat) (y8 : Int32) (I9 : z_I) (J10 : z_J) (H : Heap) (locs : List Loc) (ls : Array Slot), (2147483647 < y8.toInt + (f : Int)) → (0 ≤ y8.toInt) → (z_imb I9) → (z_rg 11 0 288 I9) → (z_rg 12 0 24 I9) → (z_Nd I9) → (z_rg 19 0 6200 I9) → (z_rg 20 0 6200 I9) → (z_rg 18 (-1) 6199 I9) → (z_Ex I9) → (x3.toInt ≤ y8.toInt) → (∃ i : Nat, y8.toInt = (I 11 a1.toNatClampNeg).toInt + (i : Int) ∧ i ≤ RS.length ∧ zv_fi (zw_A J) (300 + a2.toInt) ((RS.map Prod.fst).drop i) = zv_fi (zw_A J) (300 + a2.toInt) (RS.map Prod.fst) ∧ ∀ j, J10 30 j = J 30 j) → (z_fr L_X12_first_x I9 I) → z_W G A (shM, ad, I9, J10, PM ad) H → va_S A s.heap H locs → lv_has ls 6 [(3, .int y8), (0, .ref (ad 0)), (1, .int a1), (2, .int a2)] → W p l e (headSpec wsX12_first { frames := 4, cells := 0, slots := 0, locals := 83 }).room s m ([.ref (ad 0), .int a1, .int a2] : List Value).toArray below meth c0 H locs 0 0 (MQ below (va_Qi (fun (r : Int32) (u1 : z_U) => ∃ (I1 : z_I) (J1 : z_J), u1 = (shM, ad, I1, J1, PM ad) ∧ z_imb I1 ∧ z_rg 11 0 288 I1 ∧ z_rg 12 0 24 I1 ∧ z_Nd I1 ∧ z_rg 19 0 6200 I1 ∧ z_rg 20 0 6200 I1 ∧ z_rg 18 (-1) 6199 I1 ∧ z_Ex I1 ∧ z_fr L_X12_first_x I1 I ∧ ((a1.toInt < 0 → r.toInt = 0) ∧ (0 ≤ a1.toInt → r.toInt = zv_fi (zw_A J) (300 + a2.toInt) (RS.map Prod.fst)) ∧ ∀ j, J1 30 j = J 30 j)) (z_B G A) A) ([.ref (ad 0), .int a1, .int a2] : List Value).toArray s 0 0 A) (F0 m 13 ls []) := by
      intro f
      induction f with
      | zero => intro y8 I9 J10 H locs ls lp7m lp7l3 lp7mb lp7Atf lp7Atm lp7Nd lp7Asf lp7Ast lp7Asc lp7Ex lp7z lp7B lp7fr hW hS hl; exact absurd lp7m (by have := Int32.toInt_lt y8; have := Int32.le_toInt y8; omega)
      | succ f lp7ih =>
        intro y8 I9 J10 H locs ls lp7m lp7l3 lp7mb lp7Atf lp7Atm lp7Nd lp7Asf lp7Ast lp7Asc lp7Ex lp7z lp7B lp7fr hW hS hl
        obtain ⟨i9, hi9, hn9, hB9, hc9⟩ := lp7B
        have cq9 := z_clt (x := y8) rfl (by omega)
        obtain ⟨t1, t2, t3, t4, t5⟩ := zw_T_c hT9 (fun j => ⟨lp7fr 11 j (z_wr_c (by decide)), lp7fr 12 j (z_wr_c (by decide))⟩) (fun j => ⟨lp7fr 15 j (z_wr_c (by decide)), lp7fr 16 j (z_wr_c (by decide)), lp7fr 17 j (z_wr_c (by decide)), lp7fr 18 j (z_wr_c (by decide)), lp7fr 19 j (z_wr_c (by decide)), lp7fr 20 j (z_wr_c (by decide))⟩) (fun j => ⟨lp7fr 21 j (z_wr_c (by decide)), lp7fr 22 j (z_wr_c (by decide)), lp7fr 23 j (z_wr_c (by decide))⟩)
        have hJA9 := zw_A_c hc9
        refine lv_iload_n hx hb dX12_first_13 rfl (lv_at hl 0 rfl) ?_
        refine lv_aload_n hx hb dX12_first_14 rfl (lv_at hl 1 rfl) ?_
        refine z_get (T := TX12) (N := 96) (ci := 12) (i := 0) (v := .ref (ad 11)) hx hb hts zj_X12_first_X12 hown hK hW rfl rfl 16 (by decide) (hts (.fieldLink RX12 40 "PetrolBoardModel" "textFirst" "[I") (me_s (me_l (me_l (List.mem_of_getElem? (i := 0) rfl))))) (fun _ h => h) rfl dX12_first_15 ?_
        refine lv_iload_n hx hb dX12_first_18 rfl (lv_at hl 2 rfl) ?_
        refine z_iald (i := 11) hx hb hK hW rfl (z_ix rfl (by omega) (by omega)) dX12_first_19 ?_
        refine lv_topi (fun x11 ex11 => ?_)
        have h12 : 0 ≤ x11.toInt ∧ x11.toInt ≤ 288 := by rw [ex11]; exact lp7Atf _
        have h13 : x11 = I 11 a1.toNatClampNeg := by rw [ex11, lp7fr 11 _ (z_wr_c (by decide))]
        have h14 := congrArg Int32.toInt h13
        refine lv_aload_n hx hb dX12_first_20 rfl (lv_at hl 1 rfl) ?_
        refine z_get (T := TX12) (N := 96) (ci := 12) (i := 0) (v := .ref (ad 12)) hx hb hts zj_X12_first_X12 hown hK hW rfl rfl 17 (by decide) (hts (.fieldLink RX12 43 "PetrolBoardModel" "textMany" "[I") (me_s (me_l (me_l (List.mem_of_getElem? (i := 1) rfl))))) (fun _ h => h) rfl dX12_first_21 ?_
        refine lv_iload_n hx hb dX12_first_24 rfl (lv_at hl 2 rfl) ?_
        refine z_iald (i := 12) hx hb hK hW rfl (z_ix rfl (by omega) (by omega)) dX12_first_25 ?_
        refine lv_topi (fun x15 ex15 => ?_)
        have h16 : 0 ≤ x15.toInt ∧ x15.toInt ≤ 24 := by rw [ex15]; exact lp7Atm _
        have h17 : x15 = I 12 a1.toNatClampNeg := by rw [ex15, lp7fr 12 _ (z_wr_c (by decide))]
        have h18 := congrArg Int32.toInt h17
        refine lv_iadd hx hb dX12_first_26 ?_
        refine lv_topi (fun x19 ex19 => ?_)
        have tx19 : x19.toInt = x11.toInt + x15.toInt := z_tadd ex19 rfl rfl (by omega) (by omega)
        refine lv_icmp_ge (tgt := 99) hx hb dX12_first_27 (by decide) (fun c20 => ?_) (fun c20 => ?_)
        · have g21 := z_f_ge rfl rfl c20
          have b22 := Int32.toInt_lt y8
          refine lv_iconst (v := 0) hx hb dX12_first_99 (by decide) ?_
          exact z_iret hx hb hr hK hS (Nat.le_of_ble_eq_true rfl) (Nat.le_of_ble_eq_true rfl) hlocks dX12_first_100 (shM, ad, I9, J10, PM ad) hW ⟨I9, J10, rfl, ⟨(by show 0 ≤ (I9 0 13).toInt ∧ (I9 0 13).toInt ≤ 12; exact lp7mb.1), (by show 0 ≤ (I9 0 14).toInt ∧ (I9 0 14).toInt ≤ 288; exact lp7mb.2)⟩, lp7Atf, lp7Atm, lp7Nd, lp7Asf, lp7Ast, lp7Asc, lp7Ex, lp7fr, ⟨fun q => absurd q (by omega), fun _ => by rw [← hB9, zv_fi_0 (by rw [List.length_map]; omega)]; decide, hc9⟩⟩
        · have g23 := z_f_nge rfl rfl c20
          have b24 := Int32.toInt_lt y8
          have cf9 := z_clt (x := (I9 11 a1.toNatClampNeg)) rfl t1
          have ec9 : (I9 11 a1.toNatClampNeg).toInt = (I 11 a1.toNatClampNeg).toInt := congrArg Int32.toInt (lp7fr 11 _ (z_wr_c (by decide)))
          obtain ⟨s9, hs9⟩ := zv_at (RS.map Prod.fst) i9 (by rw [List.length_map]; omega)
          obtain ⟨F1, g1, g2, hrw9, hQ9⟩ := zw_row RS _ _ i9 s9 t3 t4 hs9
          rw [show (I9 11 a1.toNatClampNeg).toNatClampNeg + i9 = y8.toNatClampNeg by omega] at hrw9
          refine lv_aload_n hx hb dX12_first_30 rfl (lv_at hl 1 rfl) ?_
          refine z_get (T := TX12) (N := 96) (ci := 12) (i := 0) (v := .ref (ad 15)) hx hb hts zj_X12_first_X12 hown hK hW rfl rfl 20 (by decide) (hts (.fieldLink RX12 52 "PetrolBoardModel" "stRule" "[I") (me_s (me_l (me_l (List.mem_of_getElem? (i := 2) rfl))))) (fun _ h => h) rfl dX12_first_31 ?_
          refine lv_iload_n hx hb dX12_first_34 rfl (lv_at hl 0 rfl) ?_
          refine z_iald (i := 15) hx hb hK hW rfl (z_ix rfl (by omega) (by omega)) dX12_first_35 ?_
          refine lv_topi (fun x25 ex25 => ?_)
          have h26 := lp7Ex (y8 : Int32).toNatClampNeg
          rw [← ex25] at h26
          have h27 : x25.toInt = s9.1 - 300 := by rw [ex25]; exact hrw9.1
          refine lv_iload_n hx hb dX12_first_36 rfl (lv_at hl 3 rfl) ?_
          refine lv_icmp_ne (tgt := 93) hx hb dX12_first_37 (by decide) (fun c28 => ?_) (fun c28 => ?_)
          · have g29 := z_f_ne rfl rfl c28
            have b30 := Int32.toInt_lt x25
            obtain ⟨x31, ex31⟩ : ∃ y : Int32, y = y8 + 1 := ⟨_, rfl⟩
            have tx31 : x31.toInt = y8.toInt + 1 := z_tadd ex31 rfl z_l1 (by omega) (by omega)
            refine lv_iinc (v := x31) (lv' := [(3, .int x31), (0, .ref (ad 0)), (1, .int a1), (2, .int a2)]) hx hb dX12_first_93 hl (k := 0) rfl (by rw [ex31]; rfl) (by decide) rfl (fun ls hl => ?_)
            refine lv_goto (tgt := 13) hx hb dX12_first_96 (by decide) ?_
            exact lp7ih x31 I9 J10 _ _ _ (by omega) (by omega) ⟨(by show 0 ≤ (I9 0 13).toInt ∧ (I9 0 13).toInt ≤ 12; exact lp7mb.1), (by show 0 ≤ (I9 0 14).toInt ∧ (I9 0 14).toInt ≤ 288; exact lp7mb.2)⟩ lp7Atf lp7Atm lp7Nd lp7Asf lp7Ast lp7Asc lp7Ex (by omega) ⟨_, by omega, by omega, (zv_fi_n hs9 (fun q => absurd q.1 (by omega))).trans hB9, hc9⟩ lp7fr hW hS (lv_sub hl [0, 1, 2, 3] rfl)
          · have g32 := z_f_eq rfl rfl c28
            have b33 := Int32.toInt_lt x25
            refine lv_aload_n hx hb dX12_first_40 rfl (lv_at hl 1 rfl) ?_
            refine lv_iload_n hx hb dX12_first_41 rfl (lv_at hl 0 rfl) ?_
            refine z_ci hW hS hA (va_runV (As := [.int y8]) (rest := []) ⟨hx, hb, hml, hown, hts⟩ (sx_X12_holds_x l G ad I9 J10 lp7Nd lp7Asf lp7Ast lp7Asc s9 F1 g1 g2 y8 (by omega) hrw9 hQ9 (t5 i9 s9 hs9) (by rw [hJA9]; exact hbA) _) (cwV 1 hts gX12_first_X12_holds rfl rfl rfl (by decide +kernel) ⟨Nat.le_of_ble_eq_true rfl, Nat.le_of_ble_eq_true rfl⟩) (z_preV (i := 0) hK hW rfl rfl) rfl rfl hl.1 rfl (lv_room (Nat.le_of_ble_eq_true rfl)) dX12_first_42 ⟨Nat.le_of_ble_eq_true rfl, Nat.le_of_ble_eq_true rfl⟩) (fun r u1 H locs hp hW hS => ?_)
            obtain ⟨I34, J36, e9, hI34Nd, hI34Asf, hI34Ast, hI34Asc, fI34, hp⟩ := hp
            rw [e9] at hW
            have f35 := z_fr_sub (L := L_X12_first_x) lp7fr fI34 (by decide)
            have k37 : 0 ≤ (I34 0 13).toInt ∧ (I34 0 13).toInt ≤ 12 := by rw [fI34 0 13 (by decide)]; exact (by show 0 ≤ (I9 0 13).toInt ∧ (I9 0 13).toInt ≤ 12; exact lp7mb.1)
            have k38 : 0 ≤ (I34 0 14).toInt ∧ (I34 0 14).toInt ≤ 288 := by rw [fI34 0 14 (by decide)]; exact (by show 0 ≤ (I9 0 14).toInt ∧ (I9 0 14).toInt ≤ 288; exact lp7mb.2)
            obtain ⟨hp, hr40, ha41⟩ := hp
            rcases hp with ⟨rfl, hd39⟩ | ⟨rfl, hd39⟩
            · refine lv_if_ne (tgt := 51) hx hb dX12_first_45 (by decide) (fun c42 => ?_) (fun c42 => absurd c42 (by decide))
              refine lv_aload_n hx hb dX12_first_51 rfl (lv_at hl 1 rfl) ?_
              refine z_get (T := TX12) (N := 96) (ci := 12) (i := 0) (v := .ref (ad 24)) hx hb hts zj_X12_first_X12 hown hK hW rfl rfl 29 (by decide) (hts (.fieldLink RX12 79 "PetrolBoardModel" "result" "[J") (me_s (me_l (me_l (List.mem_of_getElem? (i := 3) rfl))))) (fun _ h => h) rfl dX12_first_52 ?_
              refine lv_aload_n hx hb dX12_first_55 rfl (lv_at hl 1 rfl) ?_
              refine z_get (T := TX12) (N := 96) (ci := 12) (i := 0) (v := .ref (ad 17)) hx hb hts zj_X12_first_X12 hown hK hW rfl rfl 22 (by decide) (hts (.fieldLink RX12 58 "PetrolBoardModel" "stEx" "[I") (me_s (me_l (me_l (List.mem_of_getElem? (i := 4) rfl))))) (fun _ h => h) rfl dX12_first_56 ?_
              refine lv_iload_n hx hb dX12_first_59 rfl (lv_at hl 0 rfl) ?_
              refine z_iald (i := 17) hx hb hK hW rfl (z_ix rfl (by omega) (by omega)) dX12_first_60 ?_
              refine lv_topi (fun x43 ex43 => ?_)
              have q44 := ex43
              rw [fI34 17 _ (z_wr_c (by decide))] at q44
              rw [← q44] at h26
              have hx45 : x43 = I9 17 y8.toNatClampNeg := by rw [ex43, fI34 17 _ (z_wr_c (by decide))]
              have hxx46 := zw_ex hrw9 (by rw [hJA9]; exact hbA) hr40 hx45 (by omega)
              refine z_lald (i := 24) hx hb hK hW rfl (z_ix rfl (by omega) (by omega)) dX12_first_61 ?_
              refine lv_topl (fun w47 ew47 => ?_)
              have tw47 := zw_R_y (j := x43.toInt) ew47 rfl (by omega)
              refine lv_lstore (lv' := [(4, .long w47), (3, .int y8), (0, .ref (ad 0)), (1, .int a1), (2, .int a2)]) hx hb dX12_first_62 hl (by decide) rfl (fun ls hl => ?_)
              refine lv_lload hx hb dX12_first_64 (lv_at hl 0 rfl) ?_
              refine lv_lconst (v := 0) hx hb dX12_first_66 (by decide) ?_
              refine W.lcmp hx hb dX12_first_67 ?_
              refine lv_topi (fun x48 ex48 => ?_)
              have tx48 := z_tcmp ex48
              have h49 := z_tlcmp ex48 tw47 (show (0 : Int64).toInt = 0 by decide)
              refine lv_if_ge (tgt := 75) hx hb dX12_first_68 (by decide) (fun c50 => ?_) (fun c50 => ?_)
              · have g51 := z_f_ge rfl z_l0 c50
                refine lv_lload hx hb dX12_first_75 (lv_at hl 0 rfl) ?_
                refine lv_ldc2 (v := 99) hx hb hown (hts (.constantLong RX12 437 (99)) (me_s (me_l (me_l (List.mem_of_getElem? (i := 5) rfl))))) dX12_first_77 ?_
                refine W.lcmp hx hb dX12_first_80 ?_
                refine lv_topi (fun x52 ex52 => ?_)
                have tx52 := z_tcmp ex52
                have h53 := z_tlcmp ex52 tw47 (show (99 : Int64).toInt = 99 by decide)
                refine lv_if_le (tgt := 89) hx hb dX12_first_81 (by decide) (fun c54 => ?_) (fun c54 => ?_)
                · have g55 := z_f_le rfl z_l0 c54
                  refine lv_lload hx hb dX12_first_89 (lv_at hl 0 rfl) ?_
                  refine lv_l2i (v := w47.toInt32) hx hb dX12_first_91 rfl ?_
                  refine lv_topi (fun x56 ex56 => ?_)
                  have tx56 : x56.toInt = (zw_R J36 x43.toInt) := z_tl2i ex56 tw47 (by omega)
                  exact z_iret hx hb hr hK hS (Nat.le_of_ble_eq_true rfl) (Nat.le_of_ble_eq_true rfl) hlocks dX12_first_92 (shM, ad, I34, J36, PM ad) hW ⟨I34, J36, rfl, ⟨(by show 0 ≤ (I34 0 13).toInt ∧ (I34 0 13).toInt ≤ 12; exact k37), (by show 0 ≤ (I34 0 14).toInt ∧ (I34 0 14).toInt ≤ 288; exact k38)⟩, (z_rg_fr lp7Atf fI34 (by decide)), (z_rg_fr lp7Atm fI34 (by decide)), hI34Nd, hI34Asf, hI34Ast, hI34Asc, (z_Ex_fr lp7Ex fI34 (by decide)), f35, ⟨fun q => absurd q (by omega), fun _ => by rw [← hB9, zv_fi_y hs9 (by omega) (zw_cJ hJA9 hd39), ← hJA9, hxx46.2]; exact zw_k (by omega), fun j => (ha41 j).trans (hc9 j)⟩⟩
                · have g57 := z_f_nle rfl z_l0 c54
                  refine lv_bipush (v := 99) hx hb dX12_first_84 (by decide) ?_
                  refine lv_goto (tgt := 92) hx hb dX12_first_86 (by decide) ?_
                  exact z_iret hx hb hr hK hS (Nat.le_of_ble_eq_true rfl) (Nat.le_of_ble_eq_true rfl) hlocks dX12_first_92 (shM, ad, I34, J36, PM ad) hW ⟨I34, J36, rfl, ⟨(by show 0 ≤ (I34 0 13).toInt ∧ (I34 0 13).toInt ≤ 12; exact k37), (by show 0 ≤ (I34 0 14).toInt ∧ (I34 0 14).toInt ≤ 288; exact k38)⟩, (z_rg_fr lp7Atf fI34 (by decide)), (z_rg_fr lp7Atm fI34 (by decide)), hI34Nd, hI34Asf, hI34Ast, hI34Asc, (z_Ex_fr lp7Ex fI34 (by decide)), f35, ⟨fun q => absurd q (by omega), fun _ => by rw [← hB9, zv_fi_y hs9 (by omega) (zw_cJ hJA9 hd39), ← hJA9, hxx46.2]; have q9 := z_l99; exact zw_k (by omega), fun j => (ha41 j).trans (hc9 j)⟩⟩
              · have g58 := z_f_nge rfl z_l0 c50
                refine lv_iconst (v := 0) hx hb dX12_first_71 (by decide) ?_
                refine lv_goto (tgt := 92) hx hb dX12_first_72 (by decide) ?_
                exact z_iret hx hb hr hK hS (Nat.le_of_ble_eq_true rfl) (Nat.le_of_ble_eq_true rfl) hlocks dX12_first_92 (shM, ad, I34, J36, PM ad) hW ⟨I34, J36, rfl, ⟨(by show 0 ≤ (I34 0 13).toInt ∧ (I34 0 13).toInt ≤ 12; exact k37), (by show 0 ≤ (I34 0 14).toInt ∧ (I34 0 14).toInt ≤ 288; exact k38)⟩, (z_rg_fr lp7Atf fI34 (by decide)), (z_rg_fr lp7Atm fI34 (by decide)), hI34Nd, hI34Asf, hI34Ast, hI34Asc, (z_Ex_fr lp7Ex fI34 (by decide)), f35, ⟨fun q => absurd q (by omega), fun _ => by rw [← hB9, zv_fi_y hs9 (by omega) (zw_cJ hJA9 hd39), ← hJA9, hxx46.2]; have q9 := z_l0; exact zw_k (by omega), fun j => (ha41 j).trans (hc9 j)⟩⟩
            · refine lv_if_ne (tgt := 51) hx hb dX12_first_45 (by decide) (fun c59 => absurd (by decide) c59) (fun c59 => ?_)
              refine lv_goto (tgt := 93) hx hb dX12_first_48 (by decide) ?_
              obtain ⟨x60, ex60⟩ : ∃ y : Int32, y = y8 + 1 := ⟨_, rfl⟩
              have tx60 : x60.toInt = y8.toInt + 1 := z_tadd ex60 rfl z_l1 (by omega) (by omega)
              refine lv_iinc (v := x60) (lv' := [(3, .int x60), (0, .ref (ad 0)), (1, .int a1), (2, .int a2)]) hx hb dX12_first_93 hl (k := 0) rfl (by rw [ex60]; rfl) (by decide) rfl (fun ls hl => ?_)
              refine lv_goto (tgt := 13) hx hb dX12_first_96 (by decide) ?_
              exact lp7ih x60 I34 J36 _ _ _ (by omega) (by omega) ⟨(by show 0 ≤ (I34 0 13).toInt ∧ (I34 0 13).toInt ≤ 12; exact k37), (by show 0 ≤ (I34 0 14).toInt ∧ (I34 0 14).toInt ≤ 288; exact k38)⟩ (z_rg_fr lp7Atf fI34 (by decide)) (z_rg_fr lp7Atm fI34 (by decide)) hI34Nd hI34Asf hI34Ast hI34Asc (z_Ex_fr lp7Ex fI34 (by decide)) (by omega) ⟨_, by omega, by omega, (zv_fi_n hs9 (fun q => absurd ((zw_cJ hJA9 hd39).symm.trans q.2) Bool.false_ne_true)).trans hB9, fun j => (ha41 j).trans (hc9 j)⟩ f35 hW hS (lv_sub hl [0, 1, 2, 3] rfl)
    exact lp7 4294967296 x3 I J _ _ _ (z_m0u _) (by omega) ⟨(by show 0 ≤ (I 0 13).toInt ∧ (I 0 13).toInt ≤ 12; exact hmb.1), (by show 0 ≤ (I 0 14).toInt ∧ (I 0 14).toInt ≤ 288; exact hmb.2)⟩ hAtf hAtm hNd hAsf hAst hAsc hEx (by omega) ⟨0, by omega, Nat.zero_le _, rfl, fun _ => rfl⟩ z_fr_0 hW hS (lv_sub hl [0, 1, 2, 3] rfl)
  · have g61 := z_f_nge rfl z_l0 c1
    refine lv_iconst (v := 0) hx hb dX12_first_4 (by decide) ?_
    exact z_iret hx hb hr hK hS (Nat.le_of_ble_eq_true rfl) (Nat.le_of_ble_eq_true rfl) hlocks dX12_first_5 (shM, ad, I, J, PM ad) hW ⟨I, J, rfl, ⟨(by show 0 ≤ (I 0 13).toInt ∧ (I 0 13).toInt ≤ 12; exact hmb.1), (by show 0 ≤ (I 0 14).toInt ∧ (I 0 14).toInt ≤ 288; exact hmb.2)⟩, hAtf, hAtm, hNd, hAsf, hAst, hAsc, hEx, z_fr_0, ⟨fun _ => by decide, fun q => absurd q (by omega), fun _ => rfl⟩⟩
set_option maxHeartbeats 8000000 in
set_option maxRecDepth 100000 in
theorem sx_X12_unitsOf_x_q (l : Launch) (G : z_G) (ad : Nat → Nat) (I : z_I) (J : z_J) (hma : z_ima I) (hmb : z_imb I) (hAtf : z_rg 11 0 288 I) (hAtm : z_rg 12 0 24 I) (hNd : z_Nd I) (hAsf : z_rg 19 0 6200 I) (hAst : z_rg 20 0 6200 I) (hAsc : z_rg 18 (-1) 6199 I) (hEx : z_Ex I) (FF : Nat → Nat) (RS : Nat → List zm_row) (a1 : Int32) (a2 : Int32) (a3 : Int32) (q1 : 0 ≤ a1.toInt ∧ a1.toInt < (I 0 1).toInt) (q2 : 0 ≤ a2.toInt ∧ a2.toInt ≤ 23) (hWm : zw_W I FF RS) : z_M l yX12_unitsOf wsX12_unitsOf { frames := 5, cells := 0, slots := 0, locals := 108 } [.ref (ad 0), .int a1, .int a2, .int a3] G (shM, ad, I, J, PM ad) (fun r u1 => ∃ (I1 : z_I) (J1 : z_J), u1 = (shM, ad, I1, J1, PM ad) ∧ z_ima I1 ∧ z_imb I1 ∧ z_rg 11 0 288 I1 ∧ z_rg 12 0 24 I1 ∧ z_Nd I1 ∧ z_rg 19 0 6200 I1 ∧ z_rg 20 0 6200 I1 ∧ z_rg 18 (-1) 6199 I1 ∧ z_Ex I1 ∧ z_fr L_X12_unitsOf_x I1 I ∧ zw_UX I RS a1 a2.toInt a3.toInt r.toInt) 0 0 := by
  intro sz
  refine z_headQ (cc := cX12_unitsOf) (maxL := 6) (ret := (some .int)) (by decide) rfl (Nat.le_of_ble_eq_true rfl) ?_
  intro p e s m below meth c0 ls hIn hK hsz hW hl
  obtain ⟨hx, hb, hr, hml, hown, hts, hlocks, hname⟩ := hIn
  subst hsz
  have hown : s.vm.findClass RX12 = some m.cls := hown
  have hA : ∀ q : Nat, s.heap.size ≤ q → z_A (shM, ad, I, J, PM ad) s.heap.size q := fun q h => Or.inr h
  generalize hAe : z_A (shM, ad, I, J, PM ad) s.heap.size = A at *
  have hS : va_S A s.heap s.heap [] := va_S.rf
  have hl : lv_has ls 6 [(0, .ref (ad 0)), (1, .int a1), (2, .int a2), (3, .int a3)] := hl
  obtain ⟨hTT9, hkd9, hsz9⟩ := id hWm
  refine lv_aload_n hx hb dX12_unitsOf_0 rfl (lv_at hl 0 rfl) ?_
  refine lv_iload_n hx hb dX12_unitsOf_1 rfl (lv_at hl 1 rfl) ?_
  refine lv_aload_n hx hb dX12_unitsOf_2 rfl (lv_at hl 0 rfl) ?_
  refine lv_iload_n hx hb dX12_unitsOf_3 rfl (lv_at hl 1 rfl) ?_
  refine lv_bipush (v := 30) hx hb dX12_unitsOf_4 (by decide) ?_
  refine lv_iload_n hx hb dX12_unitsOf_6 rfl (lv_at hl 2 rfl) ?_
  refine lv_imul hx hb dX12_unitsOf_7 ?_
  refine lv_topi (fun x1 ex1 => ?_)
  have tx1 : x1.toInt = 30 * a2.toInt := z_tmul ex1 z_l30 rfl (by omega) (by omega)
  refine lv_iload_n hx hb dX12_unitsOf_8 rfl (lv_at hl 3 rfl) ?_
  refine z_ci hW hS hA (va_runV (As := [.int a1, .int x1, .int a3]) (rest := [.int a1, .ref (ad 0)]) ⟨hx, hb, hml, hown, hts⟩ (sx_X12_kindOn_r l G ad I J ⟨(by show 0 ≤ (I 0 0).toInt ∧ (I 0 0).toInt ≤ 719; exact hma.1), (by show 0 ≤ (I 0 1).toInt ∧ (I 0 1).toInt ≤ 30; exact hma.2.1), (by show 0 ≤ (I 0 2).toInt ∧ (I 0 2).toInt ≤ 200; exact hma.2.2)⟩ a1 x1 a3 _) (cwV 3 hts gX12_unitsOf_X12_kindOn rfl rfl rfl (by decide +kernel) ⟨Nat.le_of_ble_eq_true rfl, Nat.le_of_ble_eq_true rfl⟩) (z_preV (i := 0) hK hW rfl rfl) rfl rfl hl.1 rfl (lv_room (Nat.le_of_ble_eq_true rfl)) dX12_unitsOf_9 ⟨Nat.le_of_ble_eq_true rfl, Nat.le_of_ble_eq_true rfl⟩) (fun r u1 H locs hp hW hS => ?_)
  obtain ⟨e9, hp⟩ := hp
  rw [e9] at hW
  refine lv_topi (fun x2 ex2 => ?_)
  have h3 := hp
  rw [← ex2] at h3
  refine lv_iload_n hx hb dX12_unitsOf_12 rfl (lv_at hl 2 rfl) ?_
  refine lv_iconst (v := 0) hx hb dX12_unitsOf_13 (by decide) ?_
  refine lv_iconst (v := 0) hx hb dX12_unitsOf_14 (by decide) ?_
  refine lv_iconst (v := 0) hx hb dX12_unitsOf_15 (by decide) ?_
  refine z_cv hW hS hA (va_runV (As := [.int a1, .int x2, .int a2, .int 0, .int 0, .int 0]) (rest := []) ⟨hx, hb, hml, hown, hts⟩ (sx_X12_asked_x l G ad I J a1 x2 a2 0 0 0 (by have nH9 := hma.2.1; omega) _) (cwV 6 hts gX12_unitsOf_X12_asked rfl rfl rfl (by decide +kernel) ⟨Nat.le_of_ble_eq_true rfl, Nat.le_of_ble_eq_true rfl⟩) (z_preV (i := 0) hK hW rfl rfl) rfl rfl hl.1 rfl (lv_room (Nat.le_of_ble_eq_true rfl)) dX12_unitsOf_16 ⟨Nat.le_of_ble_eq_true rfl, Nat.le_of_ble_eq_true rfl⟩) (fun u1 H locs hp hW hS => ?_)
  obtain ⟨I4, J6, e9, fI4, hp⟩ := hp
  rw [e9] at hW
  have f5 := z_fr_sub (L := L_X12_unitsOf_x) z_fr_0 fI4 (by decide)
  have k7 : 0 ≤ (I4 0 0).toInt ∧ (I4 0 0).toInt ≤ 719 := by rw [fI4 0 0 (by decide)]; exact (by show 0 ≤ (I 0 0).toInt ∧ (I 0 0).toInt ≤ 719; exact hma.1)
  have k8 : 0 ≤ (I4 0 1).toInt ∧ (I4 0 1).toInt ≤ 30 := by rw [fI4 0 1 (by decide)]; exact (by show 0 ≤ (I 0 1).toInt ∧ (I 0 1).toInt ≤ 30; exact hma.2.1)
  have k9 : 0 ≤ (I4 0 2).toInt ∧ (I4 0 2).toInt ≤ 200 := by rw [fI4 0 2 (by decide)]; exact (by show 0 ≤ (I 0 2).toInt ∧ (I 0 2).toInt ≤ 200; exact hma.2.2)
  have k10 : 0 ≤ (I4 0 13).toInt ∧ (I4 0 13).toInt ≤ 12 := by rw [fI4 0 13 (by decide)]; exact (by show 0 ≤ (I 0 13).toInt ∧ (I 0 13).toInt ≤ 12; exact hmb.1)
  have k11 : 0 ≤ (I4 0 14).toInt ∧ (I4 0 14).toInt ≤ 288 := by rw [fI4 0 14 (by decide)]; exact (by show 0 ≤ (I 0 14).toInt ∧ (I 0 14).toInt ≤ 288; exact hmb.2)
  have hk12 := hp
  have hA9 : zw_A J6 = zw_AU I a1 a2.toInt a3.toInt := by rw [hk12]; show zv_A _ _ _ _ _ _ _ = zv_A _ _ _ _ _ _ _; rw [h3, show x1.toInt = 30 * a2.toInt by omega]; rfl
  have hsz := hsz9 a1.toNatClampNeg (by have := z_clt (x := a1) rfl (by omega); omega)
  have hkd := hkd9 a1.toInt (30 * a2.toInt) a3.toInt
  have hbA : zv_bA (zw_A J6) := by rw [hA9]; exact zv_A_b (by omega) (by omega) (by omega) (by omega) (by omega) (by omega) (by omega)
  refine lv_aload_n hx hb dX12_unitsOf_19 rfl (lv_at hl 0 rfl) ?_
  refine lv_iload_n hx hb dX12_unitsOf_20 rfl (lv_at hl 2 rfl) ?_
  refine lv_iload_n hx hb dX12_unitsOf_21 rfl (lv_at hl 3 rfl) ?_
  refine z_ci hW hS hA (va_runV (As := [.int a2, .int a3]) (rest := []) ⟨hx, hb, hml, hown, hts⟩ (sx_X12_inForce_x l G ad I4 J6 ⟨(by show 0 ≤ (I4 0 13).toInt ∧ (I4 0 13).toInt ≤ 12; exact k10), (by show 0 ≤ (I4 0 14).toInt ∧ (I4 0 14).toInt ≤ 288; exact k11)⟩ a2 a3 _) (cwV 2 hts gX12_unitsOf_X12_inForce rfl rfl rfl (by decide +kernel) ⟨Nat.le_of_ble_eq_true rfl, Nat.le_of_ble_eq_true rfl⟩) (z_preV (i := 0) hK hW rfl rfl) rfl rfl hl.1 rfl (lv_room (Nat.le_of_ble_eq_true rfl)) dX12_unitsOf_22 ⟨Nat.le_of_ble_eq_true rfl, Nat.le_of_ble_eq_true rfl⟩) (fun r u1 H locs hp hW hS => ?_)
  obtain ⟨e9, hp⟩ := hp
  rw [e9] at hW
  refine lv_topi (fun x13 ex13 => ?_)
  rw [← ex13] at hp
  obtain ⟨hB15, h14⟩ := hp
  have hB16 : zi_B (zi_km I) (zi_kt I) a2.toInt a3.toInt (I 0 13).toNatClampNeg x13.toInt := by rw [show (I 0 13) = (I4 0 13) from (f5 0 13 (by decide)).symm]; exact zi_B_c (fun j _ => ⟨by unfold zi_km; rw [f5 13 j (z_wr_c (by decide))], by unfold zi_kt; rw [f5 14 j (z_wr_c (by decide))]⟩) hB15
  refine lv_istore (lv' := [(4, .int x13), (0, .ref (ad 0)), (1, .int a1), (2, .int a2), (3, .int a3)]) hx hb dX12_unitsOf_25 hl (by decide) rfl (fun ls hl => ?_)
  refine lv_iload hx hb dX12_unitsOf_27 (lv_at hl 0 rfl) ?_
  refine lv_if_ge (tgt := 34) hx hb dX12_unitsOf_29 (by decide) (fun c17 => ?_) (fun c17 => ?_)
  · have g18 := z_f_ge rfl z_l0 c17
    have cz9 := z_clt (x := x13) rfl (by omega)
    have htx9 : (x13.toNatClampNeg : Int) < (I 0 13).toInt := by have cx9 := z_clt (x := I 0 13) rfl hmb.1.1; rcases hB16 with ⟨z1, _⟩ | ⟨q9, z1, z2, _⟩ <;> omega
    have hT9 := hTT9 x13.toNatClampNeg htx9
    have htf9 := hT9.1
    have htm9 := hT9.2.1
    refine lv_aload_n hx hb dX12_unitsOf_34 rfl (lv_at hl 1 rfl) ?_
    refine z_get (T := TX12) (N := 96) (ci := 12) (i := 0) (v := .ref (ad 11)) hx hb hts zj_X12_unitsOf_X12 hown hK hW rfl rfl 16 (by decide) (hts (.fieldLink RX12 40 "PetrolBoardModel" "textFirst" "[I") (me_s (me_l (me_l (List.mem_of_getElem? (i := 0) rfl))))) (fun _ h => h) rfl dX12_unitsOf_35 ?_
    refine lv_iload hx hb dX12_unitsOf_38 (lv_at hl 0 rfl) ?_
    refine z_iald (i := 11) hx hb hK hW rfl (z_ix rfl (by omega) (by omega)) dX12_unitsOf_40 ?_
    refine lv_topi (fun x19 ex19 => ?_)
    have h20 : 0 ≤ x19.toInt ∧ x19.toInt ≤ 288 := by rw [ex19]; exact (z_rg_fr hAtf fI4 (by decide)) _
    have h21 : x19 = I 11 x13.toNatClampNeg := by rw [ex19, f5 11 _ (z_wr_c (by decide))]
    have h22 := congrArg Int32.toInt h21
    refine lv_istore (lv' := [(5, .int x19), (4, .int x13), (0, .ref (ad 0)), (1, .int a1), (2, .int a2), (3, .int a3)]) hx hb dX12_unitsOf_41 hl (by decide) rfl (fun ls hl => ?_)
    have lp23 : ∀ (f : Nat) (y24 : Int32) (I25 : z_I) (J26 : z_J) (H : Heap) (locs : List Loc) (ls : Array Slot), (2147483647 < y24.toInt + (f : Int)) → (0 ≤ y24.toInt) → (z_ima I25) → (z_imb I25) → (z_rg 11 0 288 I25) → (z_rg 12 0 24 I25) → (z_Nd I25) → (z_rg 19 0 6200 I25) → (z_rg 20 0 6200 I25) → (z_rg 18 (-1) 6199 I25) → (z_Ex I25) → (x19.toInt ≤ y24.toInt) → (∃ i : Nat, y24.toInt = (I 11 x13.toNatClampNeg).toInt + (i : Int) ∧ i ≤ (RS x13.toNatClampNeg).length ∧ zv_st (zw_A J6) (((RS x13.toNatClampNeg).map Prod.fst).drop i) = zv_st (zw_A J6) ((RS x13.toNatClampNeg).map Prod.fst) ∧ ∀ j, J26 30 j = J6 30 j) → (z_fr L_X12_unitsOf_x I25 I) → z_W G A (shM, ad, I25, J26, PM ad) H → va_S A s.heap H locs → lv_has ls 6 [(5, .int y24), (4, .int x13), (0, .ref (ad 0)), (1, .int a1), (2, .int a2), (3, .int a3)] → W p l e (headSpec wsX12_unitsOf { frames := 5, cells := 0, slots := 0, locals := 108 }).room s m ([.ref (ad 0), .int a1, .int a2, .int a3] : List Value).toArray below meth c0 H locs 0 0 (MQ below (va_Qi (fun (r : Int32) (u1 : z_U) => ∃ (I1 : z_I) (J1 : z_J), u1 = (shM, ad, I1, J1, PM ad) ∧ z_ima I1 ∧ z_imb I1 ∧ z_rg 11 0 288 I1 ∧ z_rg 12 0 24 I1 ∧ z_Nd I1 ∧ z_rg 19 0 6200 I1 ∧ z_rg 20 0 6200 I1 ∧ z_rg 18 (-1) 6199 I1 ∧ z_Ex I1 ∧ z_fr L_X12_unitsOf_x I1 I ∧ zw_UX I RS a1 a2.toInt a3.toInt r.toInt) (z_B G A) A) ([.ref (ad 0), .int a1, .int a2, .int a3] : List Value).toArray s 0 0 A) (F0 m 43 ls []) := by
      intro f
      induction f with
      | zero => intro y24 I25 J26 H locs ls lp23m lp23l5 lp23ma lp23mb lp23Atf lp23Atm lp23Nd lp23Asf lp23Ast lp23Asc lp23Ex lp23z lp23B lp23fr hW hS hl; exact absurd lp23m (by have := Int32.toInt_lt y24; have := Int32.le_toInt y24; omega)
      | succ f lp23ih =>
        intro y24 I25 J26 H locs ls lp23m lp23l5 lp23ma lp23mb lp23Atf lp23Atm lp23Nd lp23Asf lp23Ast lp23Asc lp23Ex lp23z lp23B lp23fr hW hS hl
        obtain ⟨i9, hi9, hn9, hB9, hc9⟩ := lp23B
        have cq9 := z_clt (x := y24) rfl (by omega)
        obtain ⟨t1, t2, t3, t4, t5⟩ := zw_T_c hT9 (fun j => ⟨lp23fr 11 j (z_wr_c (by decide)), lp23fr 12 j (z_wr_c (by decide))⟩) (fun j => ⟨lp23fr 15 j (z_wr_c (by decide)), lp23fr 16 j (z_wr_c (by decide)), lp23fr 17 j (z_wr_c (by decide)), lp23fr 18 j (z_wr_c (by decide)), lp23fr 19 j (z_wr_c (by decide)), lp23fr 20 j (z_wr_c (by decide))⟩) (fun j => ⟨lp23fr 21 j (z_wr_c (by decide)), lp23fr 22 j (z_wr_c (by decide)), lp23fr 23 j (z_wr_c (by decide))⟩)
        have hJA9 := zw_A_c hc9
        refine lv_iload hx hb dX12_unitsOf_43 (lv_at hl 0 rfl) ?_
        refine lv_aload_n hx hb dX12_unitsOf_45 rfl (lv_at hl 2 rfl) ?_
        refine z_get (T := TX12) (N := 96) (ci := 12) (i := 0) (v := .ref (ad 11)) hx hb hts zj_X12_unitsOf_X12 hown hK hW rfl rfl 16 (by decide) (hts (.fieldLink RX12 40 "PetrolBoardModel" "textFirst" "[I") (me_s (me_l (me_l (List.mem_of_getElem? (i := 0) rfl))))) (fun _ h => h) rfl dX12_unitsOf_46 ?_
        refine lv_iload hx hb dX12_unitsOf_49 (lv_at hl 1 rfl) ?_
        refine z_iald (i := 11) hx hb hK hW rfl (z_ix rfl (by omega) (by omega)) dX12_unitsOf_51 ?_
        refine lv_topi (fun x27 ex27 => ?_)
        have h28 : 0 ≤ x27.toInt ∧ x27.toInt ≤ 288 := by rw [ex27]; exact lp23Atf _
        have h29 : x27 = I 11 x13.toNatClampNeg := by rw [ex27, lp23fr 11 _ (z_wr_c (by decide))]
        have h30 := congrArg Int32.toInt h29
        refine lv_aload_n hx hb dX12_unitsOf_52 rfl (lv_at hl 2 rfl) ?_
        refine z_get (T := TX12) (N := 96) (ci := 12) (i := 0) (v := .ref (ad 12)) hx hb hts zj_X12_unitsOf_X12 hown hK hW rfl rfl 17 (by decide) (hts (.fieldLink RX12 43 "PetrolBoardModel" "textMany" "[I") (me_s (me_l (me_l (List.mem_of_getElem? (i := 1) rfl))))) (fun _ h => h) rfl dX12_unitsOf_53 ?_
        refine lv_iload hx hb dX12_unitsOf_56 (lv_at hl 1 rfl) ?_
        refine z_iald (i := 12) hx hb hK hW rfl (z_ix rfl (by omega) (by omega)) dX12_unitsOf_58 ?_
        refine lv_topi (fun x31 ex31 => ?_)
        have h32 : 0 ≤ x31.toInt ∧ x31.toInt ≤ 24 := by rw [ex31]; exact lp23Atm _
        have h33 : x31 = I 12 x13.toNatClampNeg := by rw [ex31, lp23fr 12 _ (z_wr_c (by decide))]
        have h34 := congrArg Int32.toInt h33
        refine lv_iadd hx hb dX12_unitsOf_59 ?_
        refine lv_topi (fun x35 ex35 => ?_)
        have tx35 : x35.toInt = x27.toInt + x31.toInt := z_tadd ex35 rfl rfl (by omega) (by omega)
        refine lv_icmp_ge (tgt := 91) hx hb dX12_unitsOf_60 (by decide) (fun c36 => ?_) (fun c36 => ?_)
        · have g37 := z_f_ge rfl rfl c36
          have b38 := Int32.toInt_lt y24
          refine lv_aload_n hx hb dX12_unitsOf_91 rfl (lv_at hl 2 rfl) ?_
          refine lv_iload hx hb dX12_unitsOf_92 (lv_at hl 1 rfl) ?_
          refine lv_iconst (v := 0) hx hb dX12_unitsOf_94 (by decide) ?_
          refine z_ci hW hS hA (va_runV (As := [.int x13, .int 0]) (rest := []) ⟨hx, hb, hml, hown, hts⟩ (sx_X12_first_x l G ad I25 J26 ⟨(by show 0 ≤ (I25 0 13).toInt ∧ (I25 0 13).toInt ≤ 12; exact lp23mb.1), (by show 0 ≤ (I25 0 14).toInt ∧ (I25 0 14).toInt ≤ 288; exact lp23mb.2)⟩ lp23Atf lp23Atm lp23Nd lp23Asf lp23Ast lp23Asc lp23Ex (RS x13.toNatClampNeg) (FF x13.toNatClampNeg) x13 0 (by omega) (by decide) (fun _ => ⟨t1, t2, t3, t4, t5⟩) (by rw [hJA9]; exact hbA) _) (cwV 2 hts gX12_unitsOf_X12_first rfl rfl rfl (by decide +kernel) ⟨Nat.le_of_ble_eq_true rfl, Nat.le_of_ble_eq_true rfl⟩) (z_preV (i := 0) hK hW rfl rfl) rfl rfl hl.1 rfl (lv_room (Nat.le_of_ble_eq_true rfl)) dX12_unitsOf_95 ⟨Nat.le_of_ble_eq_true rfl, Nat.le_of_ble_eq_true rfl⟩) (fun r u1 H locs hp hW hS => ?_)
          obtain ⟨I39, J41, e9, hI39mb, hI39Atf, hI39Atm, hI39Nd, hI39Asf, hI39Ast, hI39Asc, hI39Ex, fI39, hp⟩ := hp
          rw [e9] at hW
          have f40 := z_fr_sub (L := L_X12_unitsOf_x) lp23fr fI39 (by decide)
          have k42 : 0 ≤ (I39 0 0).toInt ∧ (I39 0 0).toInt ≤ 719 := by rw [fI39 0 0 (by decide)]; exact (by show 0 ≤ (I25 0 0).toInt ∧ (I25 0 0).toInt ≤ 719; exact lp23ma.1)
          have k43 : 0 ≤ (I39 0 1).toInt ∧ (I39 0 1).toInt ≤ 30 := by rw [fI39 0 1 (by decide)]; exact (by show 0 ≤ (I25 0 1).toInt ∧ (I25 0 1).toInt ≤ 30; exact lp23ma.2.1)
          have k44 : 0 ≤ (I39 0 2).toInt ∧ (I39 0 2).toInt ≤ 200 := by rw [fI39 0 2 (by decide)]; exact (by show 0 ≤ (I25 0 2).toInt ∧ (I25 0 2).toInt ≤ 200; exact lp23ma.2.2)
          refine lv_topi (fun x45 ex45 => ?_)
          rw [← ex45] at hp
          obtain ⟨hf46, hg47, ha48⟩ := hp
          exact z_iret hx hb hr hK hS (Nat.le_of_ble_eq_true rfl) (Nat.le_of_ble_eq_true rfl) hlocks dX12_unitsOf_98 (shM, ad, I39, J41, PM ad) hW ⟨I39, J41, rfl, ⟨(by show 0 ≤ (I39 0 0).toInt ∧ (I39 0 0).toInt ≤ 719; exact k42), (by show 0 ≤ (I39 0 1).toInt ∧ (I39 0 1).toInt ≤ 30; exact k43), (by show 0 ≤ (I39 0 2).toInt ∧ (I39 0 2).toInt ≤ 200; exact k44)⟩, ⟨(by show 0 ≤ (I39 0 13).toInt ∧ (I39 0 13).toInt ≤ 12; exact hI39mb.1), (by show 0 ≤ (I39 0 14).toInt ∧ (I39 0 14).toInt ≤ 288; exact hI39mb.2)⟩, hI39Atf, hI39Atm, hI39Nd, hI39Asf, hI39Ast, hI39Asc, hI39Ex, f40, ⟨x13.toInt, hB16, Or.inr ⟨x13.toNatClampNeg, by omega, by rcases hB16 with ⟨z1, _⟩ | ⟨q9, z1, z2, _⟩ <;> omega, by show _ = zv_un _ _; rw [hg47 (by omega), hJA9, ← hA9, zv_st_ff (hB9.symm.trans (zv_st_0 (by rw [List.length_map]; omega)))]; rfl⟩⟩⟩
        · have g49 := z_f_nge rfl rfl c36
          have b50 := Int32.toInt_lt y24
          have cf9 := z_clt (x := (I25 11 x13.toNatClampNeg)) rfl t1
          have ec9 : (I25 11 x13.toNatClampNeg).toInt = (I 11 x13.toNatClampNeg).toInt := congrArg Int32.toInt (lp23fr 11 _ (z_wr_c (by decide)))
          obtain ⟨s9, hs9⟩ := zv_at ((RS x13.toNatClampNeg).map Prod.fst) i9 (by rw [List.length_map]; omega)
          obtain ⟨F1, g1, g2, hrw9, hQ9⟩ := zw_row (RS x13.toNatClampNeg) _ _ i9 s9 t3 t4 hs9
          rw [show (I25 11 x13.toNatClampNeg).toNatClampNeg + i9 = y24.toNatClampNeg by omega] at hrw9
          refine lv_aload_n hx hb dX12_unitsOf_63 rfl (lv_at hl 2 rfl) ?_
          refine z_get (T := TX12) (N := 96) (ci := 12) (i := 0) (v := .ref (ad 15)) hx hb hts zj_X12_unitsOf_X12 hown hK hW rfl rfl 20 (by decide) (hts (.fieldLink RX12 52 "PetrolBoardModel" "stRule" "[I") (me_s (me_l (me_l (List.mem_of_getElem? (i := 2) rfl))))) (fun _ h => h) rfl dX12_unitsOf_64 ?_
          refine lv_iload hx hb dX12_unitsOf_67 (lv_at hl 0 rfl) ?_
          refine z_iald (i := 15) hx hb hK hW rfl (z_ix rfl (by omega) (by omega)) dX12_unitsOf_69 ?_
          refine lv_topi (fun x51 ex51 => ?_)
          have h52 := lp23Ex (y24 : Int32).toNatClampNeg
          rw [← ex51] at h52
          have h53 : x51.toInt = s9.1 - 300 := by rw [ex51]; exact hrw9.1
          refine lv_iconst (v := 2) hx hb dX12_unitsOf_70 (by decide) ?_
          refine lv_icmp_ne (tgt := 85) hx hb dX12_unitsOf_71 (by decide) (fun c54 => ?_) (fun c54 => ?_)
          · have g55 := z_f_ne rfl z_l2 c54
            have b56 := Int32.toInt_lt x51
            obtain ⟨x57, ex57⟩ : ∃ y : Int32, y = y24 + 1 := ⟨_, rfl⟩
            have tx57 : x57.toInt = y24.toInt + 1 := z_tadd ex57 rfl z_l1 (by omega) (by omega)
            refine lv_iinc (v := x57) (lv' := [(5, .int x57), (4, .int x13), (0, .ref (ad 0)), (1, .int a1), (2, .int a2), (3, .int a3)]) hx hb dX12_unitsOf_85 hl (k := 0) rfl (by rw [ex57]; rfl) (by decide) rfl (fun ls hl => ?_)
            refine lv_goto (tgt := 43) hx hb dX12_unitsOf_88 (by decide) ?_
            exact lp23ih x57 I25 J26 _ _ _ (by omega) (by omega) ⟨(by show 0 ≤ (I25 0 0).toInt ∧ (I25 0 0).toInt ≤ 719; exact lp23ma.1), (by show 0 ≤ (I25 0 1).toInt ∧ (I25 0 1).toInt ≤ 30; exact lp23ma.2.1), (by show 0 ≤ (I25 0 2).toInt ∧ (I25 0 2).toInt ≤ 200; exact lp23ma.2.2)⟩ ⟨(by show 0 ≤ (I25 0 13).toInt ∧ (I25 0 13).toInt ≤ 12; exact lp23mb.1), (by show 0 ≤ (I25 0 14).toInt ∧ (I25 0 14).toInt ≤ 288; exact lp23mb.2)⟩ lp23Atf lp23Atm lp23Nd lp23Asf lp23Ast lp23Asc lp23Ex (by omega) ⟨_, by omega, by omega, (zv_st_n hs9 (fun q => absurd q.1 (by omega))).trans hB9, hc9⟩ lp23fr hW hS (lv_sub hl [0, 1, 2, 3, 4, 5] rfl)
          · have g58 := z_f_eq rfl z_l2 c54
            have b59 := Int32.toInt_lt x51
            refine lv_aload_n hx hb dX12_unitsOf_74 rfl (lv_at hl 2 rfl) ?_
            refine lv_iload hx hb dX12_unitsOf_75 (lv_at hl 0 rfl) ?_
            refine z_ci hW hS hA (va_runV (As := [.int y24]) (rest := []) ⟨hx, hb, hml, hown, hts⟩ (sx_X12_holds_x l G ad I25 J26 lp23Nd lp23Asf lp23Ast lp23Asc s9 F1 g1 g2 y24 (by omega) hrw9 hQ9 (t5 i9 s9 hs9) (by rw [hJA9]; exact hbA) _) (cwV 1 hts gX12_unitsOf_X12_holds rfl rfl rfl (by decide +kernel) ⟨Nat.le_of_ble_eq_true rfl, Nat.le_of_ble_eq_true rfl⟩) (z_preV (i := 0) hK hW rfl rfl) rfl rfl hl.1 rfl (lv_room (Nat.le_of_ble_eq_true rfl)) dX12_unitsOf_77 ⟨Nat.le_of_ble_eq_true rfl, Nat.le_of_ble_eq_true rfl⟩) (fun r u1 H locs hp hW hS => ?_)
            obtain ⟨I60, J62, e9, hI60Nd, hI60Asf, hI60Ast, hI60Asc, fI60, hp⟩ := hp
            rw [e9] at hW
            have f61 := z_fr_sub (L := L_X12_unitsOf_x) lp23fr fI60 (by decide)
            have k63 : 0 ≤ (I60 0 0).toInt ∧ (I60 0 0).toInt ≤ 719 := by rw [fI60 0 0 (by decide)]; exact (by show 0 ≤ (I25 0 0).toInt ∧ (I25 0 0).toInt ≤ 719; exact lp23ma.1)
            have k64 : 0 ≤ (I60 0 1).toInt ∧ (I60 0 1).toInt ≤ 30 := by rw [fI60 0 1 (by decide)]; exact (by show 0 ≤ (I25 0 1).toInt ∧ (I25 0 1).toInt ≤ 30; exact lp23ma.2.1)
            have k65 : 0 ≤ (I60 0 2).toInt ∧ (I60 0 2).toInt ≤ 200 := by rw [fI60 0 2 (by decide)]; exact (by show 0 ≤ (I25 0 2).toInt ∧ (I25 0 2).toInt ≤ 200; exact lp23ma.2.2)
            have k66 : 0 ≤ (I60 0 13).toInt ∧ (I60 0 13).toInt ≤ 12 := by rw [fI60 0 13 (by decide)]; exact (by show 0 ≤ (I25 0 13).toInt ∧ (I25 0 13).toInt ≤ 12; exact lp23mb.1)
            have k67 : 0 ≤ (I60 0 14).toInt ∧ (I60 0 14).toInt ≤ 288 := by rw [fI60 0 14 (by decide)]; exact (by show 0 ≤ (I25 0 14).toInt ∧ (I25 0 14).toInt ≤ 288; exact lp23mb.2)
            obtain ⟨hp, hr69, ha70⟩ := hp
            rcases hp with ⟨rfl, hd68⟩ | ⟨rfl, hd68⟩
            · refine lv_if_eq (tgt := 85) hx hb dX12_unitsOf_80 (by decide) (fun c71 => absurd c71 (by decide)) (fun c71 => ?_)
              refine lv_iconst (v := 0) hx hb dX12_unitsOf_83 (by decide) ?_
              exact z_iret hx hb hr hK hS (Nat.le_of_ble_eq_true rfl) (Nat.le_of_ble_eq_true rfl) hlocks dX12_unitsOf_84 (shM, ad, I60, J62, PM ad) hW ⟨I60, J62, rfl, ⟨(by show 0 ≤ (I60 0 0).toInt ∧ (I60 0 0).toInt ≤ 719; exact k63), (by show 0 ≤ (I60 0 1).toInt ∧ (I60 0 1).toInt ≤ 30; exact k64), (by show 0 ≤ (I60 0 2).toInt ∧ (I60 0 2).toInt ≤ 200; exact k65)⟩, ⟨(by show 0 ≤ (I60 0 13).toInt ∧ (I60 0 13).toInt ≤ 12; exact k66), (by show 0 ≤ (I60 0 14).toInt ∧ (I60 0 14).toInt ≤ 288; exact k67)⟩, (z_rg_fr lp23Atf fI60 (by decide)), (z_rg_fr lp23Atm fI60 (by decide)), hI60Nd, hI60Asf, hI60Ast, hI60Asc, (z_Ex_fr lp23Ex fI60 (by decide)), f61, ⟨x13.toInt, hB16, Or.inr ⟨x13.toNatClampNeg, by omega, by rcases hB16 with ⟨z1, _⟩ | ⟨q9, z1, z2, _⟩ <;> omega, by show _ = zv_un _ _; rw [← hA9, zv_st_tt (hB9.symm.trans (zv_st_y hs9 (by omega) (zw_cJ hJA9 hd68)))]; decide⟩⟩⟩
            · refine lv_if_eq (tgt := 85) hx hb dX12_unitsOf_80 (by decide) (fun c72 => ?_) (fun c72 => absurd (by decide) c72)
              obtain ⟨x73, ex73⟩ : ∃ y : Int32, y = y24 + 1 := ⟨_, rfl⟩
              have tx73 : x73.toInt = y24.toInt + 1 := z_tadd ex73 rfl z_l1 (by omega) (by omega)
              refine lv_iinc (v := x73) (lv' := [(5, .int x73), (4, .int x13), (0, .ref (ad 0)), (1, .int a1), (2, .int a2), (3, .int a3)]) hx hb dX12_unitsOf_85 hl (k := 0) rfl (by rw [ex73]; rfl) (by decide) rfl (fun ls hl => ?_)
              refine lv_goto (tgt := 43) hx hb dX12_unitsOf_88 (by decide) ?_
              exact lp23ih x73 I60 J62 _ _ _ (by omega) (by omega) ⟨(by show 0 ≤ (I60 0 0).toInt ∧ (I60 0 0).toInt ≤ 719; exact k63), (by show 0 ≤ (I60 0 1).toInt ∧ (I60 0 1).toInt ≤ 30; exact k64), (by show 0 ≤ (I60 0 2).toInt ∧ (I60 0 2).toInt ≤ 200; exact k65)⟩ ⟨(by show 0 ≤ (I60 0 13).toInt ∧ (I60 0 13).toInt ≤ 12; exact k66), (by show 0 ≤ (I60 0 14).toInt ∧ (I60 0 14).toInt ≤ 288; exact k67)⟩ (z_rg_fr lp23Atf fI60 (by decide)) (z_rg_fr lp23Atm fI60 (by decide)) hI60Nd hI60Asf hI60Ast hI60Asc (z_Ex_fr lp23Ex fI60 (by decide)) (by omega) ⟨_, by omega, by omega, (zv_st_n hs9 (fun q => absurd ((zw_cJ hJA9 hd68).symm.trans q.2) Bool.false_ne_true)).trans hB9, fun j => (ha70 j).trans (hc9 j)⟩ f61 hW hS (lv_sub hl [0, 1, 2, 3, 4, 5] rfl)
    exact lp23 4294967296 x19 I4 J6 _ _ _ (z_m0u _) (by omega) ⟨(by show 0 ≤ (I4 0 0).toInt ∧ (I4 0 0).toInt ≤ 719; exact k7), (by show 0 ≤ (I4 0 1).toInt ∧ (I4 0 1).toInt ≤ 30; exact k8), (by show 0 ≤ (I4 0 2).toInt ∧ (I4 0 2).toInt ≤ 200; exact k9)⟩ ⟨(by show 0 ≤ (I4 0 13).toInt ∧ (I4 0 13).toInt ≤ 12; exact k10), (by show 0 ≤ (I4 0 14).toInt ∧ (I4 0 14).toInt ≤ 288; exact k11)⟩ (z_rg_fr hAtf fI4 (by decide)) (z_rg_fr hAtm fI4 (by decide)) (z_Nd_fr hNd fI4 (by decide)) (z_rg_fr hAsf fI4 (by decide)) (z_rg_fr hAst fI4 (by decide)) (z_rg_fr hAsc fI4 (by decide)) (z_Ex_fr hEx fI4 (by decide)) (by omega) ⟨0, by omega, Nat.zero_le _, rfl, fun _ => rfl⟩ f5 hW hS (lv_sub hl [0, 1, 2, 3, 4, 5] rfl)
  · have g74 := z_f_nge rfl z_l0 c17
    refine lv_iconst (v := 0) hx hb dX12_unitsOf_32 (by decide) ?_
    exact z_iret hx hb hr hK hS (Nat.le_of_ble_eq_true rfl) (Nat.le_of_ble_eq_true rfl) hlocks dX12_unitsOf_33 (shM, ad, I4, J6, PM ad) hW ⟨I4, J6, rfl, ⟨(by show 0 ≤ (I4 0 0).toInt ∧ (I4 0 0).toInt ≤ 719; exact k7), (by show 0 ≤ (I4 0 1).toInt ∧ (I4 0 1).toInt ≤ 30; exact k8), (by show 0 ≤ (I4 0 2).toInt ∧ (I4 0 2).toInt ≤ 200; exact k9)⟩, ⟨(by show 0 ≤ (I4 0 13).toInt ∧ (I4 0 13).toInt ≤ 12; exact k10), (by show 0 ≤ (I4 0 14).toInt ∧ (I4 0 14).toInt ≤ 288; exact k11)⟩, (z_rg_fr hAtf fI4 (by decide)), (z_rg_fr hAtm fI4 (by decide)), (z_Nd_fr hNd fI4 (by decide)), (z_rg_fr hAsf fI4 (by decide)), (z_rg_fr hAst fI4 (by decide)), (z_rg_fr hAsc fI4 (by decide)), (z_Ex_fr hEx fI4 (by decide)), f5, ⟨x13.toInt, hB16, Or.inl ⟨by omega, by decide⟩⟩⟩
set_option maxHeartbeats 8000000 in
set_option maxRecDepth 100000 in
theorem sx_X11_issue_i_q (l : Launch) (G : z_G) (ad : Nat → Nat) (c : z_C) (I : z_I) (hO : z_iO I) (hH : z_iH I) (hB : z_iB I) (SS : Nat → List zp_T) (a1 : Int32) (a2 : Int32) (hc : z_okc c) (h10 : c.1 ≤ 10) (hWu : zv_W c I SS) : z_M l yX11_issue wsX11_issue { frames := 6, cells := 0, slots := 0, locals := 160 } [.ref (ad 0), .int a1, .int a2] G (shC c, ad, I, JX, PC c ad) (fun r u1 => ∃ I1 : z_I, u1 = (shC c, ad, I1, JX, PC c ad) ∧ z_iO I1 ∧ z_iH I1 ∧ z_iB I1 ∧ z_fr L_X11_issue_i I1 I ∧ (((0 ≤ a1.toInt ∧ a1.toInt < (I 1 5).toInt ∧ 0 ≤ a2.toInt ∧ a2.toInt ≤ 23 ∧ (I 0 0).toInt / 30 ≤ a2.toInt ∧ a2.toInt ≤ (I 0 0).toInt / 30 + 1 ∧ (I 27 (24 * a1.toInt + a2.toInt).toNat).toInt = -1) ∧ zv_UX c I SS a1 a2.toInt (I 0 0).toInt r.toInt ∧ (∀ j, I1 27 j = if j = (24 * a1.toInt + a2.toInt).toNat then r else I 27 j) ∧ I1 26 3 = I 26 3 + 1) ∨ (¬ (0 ≤ a1.toInt ∧ a1.toInt < (I 1 5).toInt ∧ 0 ≤ a2.toInt ∧ a2.toInt ≤ 23 ∧ (I 0 0).toInt / 30 ≤ a2.toInt ∧ a2.toInt ≤ (I 0 0).toInt / 30 + 1 ∧ (I 27 (24 * a1.toInt + a2.toInt).toNat).toInt = -1) ∧ r.toInt = -1 ∧ (∀ j, I1 27 j = I 27 j) ∧ I1 26 3 = I 26 3))) 0 0 := by
  intro sz
  refine z_headQ (cc := cX11_issue) (maxL := 4) (ret := (some .int)) (by decide) rfl (Nat.le_of_ble_eq_true rfl) ?_
  intro p e s m below meth c0 ls hIn hK hsz hW hl
  obtain ⟨hx, hb, hr, hml, hown, hts, hlocks, hname⟩ := hIn
  subst hsz
  have hown : s.vm.findClass RX11 = some m.cls := hown
  have hA : ∀ q : Nat, s.heap.size ≤ q → z_A (shC c, ad, I, JX, PC c ad) s.heap.size q := fun q h => Or.inr h
  generalize hAe : z_A (shC c, ad, I, JX, PC c ad) s.heap.size = A at *
  have hS : va_S A s.heap s.heap [] := va_S.rf
  have hl : lv_has ls 4 [(0, .ref (ad 0)), (1, .int a1), (2, .int a2)] := hl
  have nH9 := hH.1
  refine lv_aload_n hx hb dX11_issue_0 rfl (lv_at hl 0 rfl) ?_
  have r1 : 0 ≤ (I 0 0).toInt ∧ (I 0 0).toInt ≤ 719 := hB.1
  refine z_get (T := TX11) (N := 13) (ci := 11) (i := 0) (v := .int (I 0 0)) hx hb hts zj_X11_issue_X11 hown hK hW rfl rfl 0 (by decide) (hts (.fieldLink RX11 85 "PetrolBoard" "today" "I") (me_s (me_l (me_l (me_l (me_l (me_l (me_l (me_l (List.mem_of_getElem? (i := 0) rfl)))))))))) (fun _ h => h) rfl dX11_issue_1 ?_
  refine lv_bipush (v := 30) hx hb dX11_issue_4 (by decide) ?_
  refine lv_idiv hx hb dX11_issue_6 (by decide) ?_
  refine lv_topi (fun x2 ex2 => ?_)
  have tx2 := z_tdiv ex2 rfl z_l30 (by decide)
  refine lv_istore_n (lv' := [(3, .int x2), (0, .ref (ad 0)), (1, .int a1), (2, .int a2)]) hx hb dX11_issue_7 rfl hl (by decide) rfl (fun ls hl => ?_)
  refine lv_aload_n hx hb dX11_issue_8 rfl (lv_at hl 1 rfl) ?_
  refine z_get (T := TX11) (N := 13) (ci := 11) (i := 0) (v := .ref (ad 1)) hx hb hts zj_X11_issue_X11 hown hK hW rfl rfl 2 (by decide) (hts (.fieldLink RX11 16 "PetrolBoard" "holders" "LPetrolBoard$Holders;") (me_s (me_l (me_l (me_l (me_l (me_l (me_l (me_l (List.mem_of_getElem? (i := 1) rfl)))))))))) (fun _ h => h) rfl dX11_issue_9 ?_
  refine lv_iload_n hx hb dX11_issue_12 rfl (lv_at hl 2 rfl) ?_
  refine z_ci hW hS hA (va_runV (As := [.int a1]) (rest := []) ⟨hx, hb, hml, hown, hts⟩ (sx_X2_has_e l G ad c I ⟨(by show 0 ≤ (I 1 5).toInt ∧ (I 1 5).toInt ≤ 30; exact hH.1), (by show 0 ≤ (I 1 11).toInt ∧ (I 1 11).toInt ≤ 200; exact hH.2)⟩ a1 _) (cwV 1 hts gX11_issue_X2_has rfl rfl rfl (by decide +kernel) ⟨Nat.le_of_ble_eq_true rfl, Nat.le_of_ble_eq_true rfl⟩) (z_preV (i := 1) hK hW rfl rfl) rfl rfl hl.1 rfl (lv_room (Nat.le_of_ble_eq_true rfl)) dX11_issue_13 ⟨Nat.le_of_ble_eq_true rfl, Nat.le_of_ble_eq_true rfl⟩) (fun r u1 H locs hp hW hS => ?_)
  obtain ⟨e9, hp⟩ := hp
  rw [e9] at hW
  rcases hp with ⟨rfl, h3⟩ | ⟨rfl, h3⟩
  · have h4 := h3
    have r5 : 0 ≤ (I 1 5).toInt ∧ (I 1 5).toInt ≤ 30 := hH.1
    refine lv_if_eq (tgt := 38) hx hb dX11_issue_16 (by decide) (fun c6 => absurd c6 (by decide)) (fun c6 => ?_)
    refine lv_iload_n hx hb dX11_issue_19 rfl (lv_at hl 3 rfl) ?_
    refine z_ci hW hS hA (va_runS (As := [.int a2]) (rest := []) ⟨hx, hb, hml, hown, hts⟩ (sx_X11_isMonth_e l G ad c I  a2 _) (va_cwS 1 hts gX11_issue_X11_isMonth rfl rfl rfl (by decide +kernel) ⟨Nat.le_of_ble_eq_true rfl, Nat.le_of_ble_eq_true rfl⟩) (z_preS hK hW) rfl rfl hl.1 rfl (lv_room (Nat.le_of_ble_eq_true rfl)) dX11_issue_20 ⟨Nat.le_of_ble_eq_true rfl, Nat.le_of_ble_eq_true rfl⟩) (fun r u1 H locs hp hW hS => ?_)
    obtain ⟨e9, hp⟩ := hp
    rw [e9] at hW
    rcases hp with ⟨rfl, h7⟩ | ⟨rfl, h7⟩
    · have h8 := h7
      refine lv_if_eq (tgt := 38) hx hb dX11_issue_23 (by decide) (fun c9 => absurd c9 (by decide)) (fun c9 => ?_)
      refine lv_iload_n hx hb dX11_issue_26 rfl (lv_at hl 3 rfl) ?_
      refine lv_iload_n hx hb dX11_issue_27 rfl (lv_at hl 0 rfl) ?_
      refine lv_icmp_lt (tgt := 38) hx hb dX11_issue_28 (by decide) (fun c10 => ?_) (fun c10 => ?_)
      · have g11 := z_f_lt rfl rfl c10
        refine lv_iconst (v := (-1)) hx hb dX11_issue_38 (by decide) ?_
        exact z_iret hx hb hr hK hS (Nat.le_of_ble_eq_true rfl) (Nat.le_of_ble_eq_true rfl) hlocks dX11_issue_39 (shC c, ad, I, JX, PC c ad) hW ⟨I, rfl, (by show 0 ≤ (I 21 2).toInt ∧ (I 21 2).toInt ≤ 12; exact hO), ⟨(by show 0 ≤ (I 1 5).toInt ∧ (I 1 5).toInt ≤ 30; exact hH.1), (by show 0 ≤ (I 1 11).toInt ∧ (I 1 11).toInt ≤ 200; exact hH.2)⟩, ⟨(by show 0 ≤ (I 0 0).toInt ∧ (I 0 0).toInt ≤ 719; exact hB.1), (by show 0 ≤ (I 0 8).toInt ∧ (I 0 8).toInt ≤ 10; exact hB.2)⟩, z_fr_0, (Or.inr ⟨by omega, by decide, (fun j => rfl), rfl⟩)⟩
      · have g12 := z_f_nlt rfl rfl c10
        refine lv_iload_n hx hb dX11_issue_31 rfl (lv_at hl 3 rfl) ?_
        refine lv_iload_n hx hb dX11_issue_32 rfl (lv_at hl 0 rfl) ?_
        refine lv_iconst (v := 1) hx hb dX11_issue_33 (by decide) ?_
        refine lv_iadd hx hb dX11_issue_34 ?_
        refine lv_topi (fun x13 ex13 => ?_)
        have tx13 : x13.toInt = x2.toInt + 1 := z_tadd ex13 rfl z_l1 (by omega) (by omega)
        refine lv_icmp_le (tgt := 40) hx hb dX11_issue_35 (by decide) (fun c14 => ?_) (fun c14 => ?_)
        · have g15 := z_f_le rfl rfl c14
          refine lv_aload_n hx hb dX11_issue_40 rfl (lv_at hl 1 rfl) ?_
          refine z_get (T := TX11) (N := 13) (ci := 11) (i := 0) (v := .ref (ad 26)) hx hb hts zj_X11_issue_X11 hown hK hW rfl rfl 5 (by decide) (hts (.fieldLink RX11 37 "PetrolBoard" "coupons" "LPetrolBoard$Coupons;") (me_s (me_l (me_l (me_l (me_l (me_l (me_l (me_l (List.mem_of_getElem? (i := 2) rfl)))))))))) (fun _ h => h) rfl dX11_issue_41 ?_
          refine lv_iload_n hx hb dX11_issue_44 rfl (lv_at hl 2 rfl) ?_
          refine lv_iload_n hx hb dX11_issue_45 rfl (lv_at hl 3 rfl) ?_
          refine z_ci hW hS hA (va_runV (As := [.int a1, .int a2]) (rest := []) ⟨hx, hb, hml, hown, hts⟩ (sx_X0_isIssued_i l G ad c I a1 a2 (by omega) (by omega) _) (cwV 2 hts gX11_issue_X0_isIssued rfl rfl rfl (by decide +kernel) ⟨Nat.le_of_ble_eq_true rfl, Nat.le_of_ble_eq_true rfl⟩) (z_preV (i := 26) hK hW rfl rfl) rfl rfl hl.1 rfl (lv_room (Nat.le_of_ble_eq_true rfl)) dX11_issue_46 ⟨Nat.le_of_ble_eq_true rfl, Nat.le_of_ble_eq_true rfl⟩) (fun r u1 H locs hp hW hS => ?_)
          obtain ⟨e9, hp⟩ := hp
          rw [e9] at hW
          rcases hp with ⟨rfl, hb16⟩ | ⟨rfl, hb16⟩
          · refine lv_if_eq (tgt := 54) hx hb dX11_issue_49 (by decide) (fun c17 => absurd c17 (by decide)) (fun c17 => ?_)
            refine lv_iconst (v := (-1)) hx hb dX11_issue_52 (by decide) ?_
            exact z_iret hx hb hr hK hS (Nat.le_of_ble_eq_true rfl) (Nat.le_of_ble_eq_true rfl) hlocks dX11_issue_53 (shC c, ad, I, JX, PC c ad) hW ⟨I, rfl, (by show 0 ≤ (I 21 2).toInt ∧ (I 21 2).toInt ≤ 12; exact hO), ⟨(by show 0 ≤ (I 1 5).toInt ∧ (I 1 5).toInt ≤ 30; exact hH.1), (by show 0 ≤ (I 1 11).toInt ∧ (I 1 11).toInt ≤ 200; exact hH.2)⟩, ⟨(by show 0 ≤ (I 0 0).toInt ∧ (I 0 0).toInt ≤ 719; exact hB.1), (by show 0 ≤ (I 0 8).toInt ∧ (I 0 8).toInt ≤ 10; exact hB.2)⟩, z_fr_0, (Or.inr ⟨by omega, by decide, (fun j => rfl), rfl⟩)⟩
          · refine lv_if_eq (tgt := 54) hx hb dX11_issue_49 (by decide) (fun c18 => ?_) (fun c18 => absurd (by decide) c18)
            refine lv_aload_n hx hb dX11_issue_54 rfl (lv_at hl 1 rfl) ?_
            refine z_get (T := TX11) (N := 13) (ci := 11) (i := 0) (v := .ref (ad 26)) hx hb hts zj_X11_issue_X11 hown hK hW rfl rfl 5 (by decide) (hts (.fieldLink RX11 37 "PetrolBoard" "coupons" "LPetrolBoard$Coupons;") (me_s (me_l (me_l (me_l (me_l (me_l (me_l (me_l (List.mem_of_getElem? (i := 2) rfl)))))))))) (fun _ h => h) rfl dX11_issue_55 ?_
            refine lv_iload_n hx hb dX11_issue_58 rfl (lv_at hl 2 rfl) ?_
            refine lv_iload_n hx hb dX11_issue_59 rfl (lv_at hl 3 rfl) ?_
            refine lv_aload_n hx hb dX11_issue_60 rfl (lv_at hl 1 rfl) ?_
            refine z_get (T := TX11) (N := 13) (ci := 11) (i := 0) (v := .ref (ad 21)) hx hb hts zj_X11_issue_X11 hown hK hW rfl rfl 4 (by decide) (hts (.fieldLink RX11 30 "PetrolBoard" "orderBook" "LPetrolBoard$OrderBook;") (me_s (me_l (me_l (me_l (me_l (me_l (me_l (me_l (List.mem_of_getElem? (i := 3) rfl)))))))))) (fun _ h => h) rfl dX11_issue_61 ?_
            refine lv_aload_n hx hb dX11_issue_64 rfl (lv_at hl 1 rfl) ?_
            refine z_get (T := TX11) (N := 13) (ci := 11) (i := 0) (v := .ref (ad 1)) hx hb hts zj_X11_issue_X11 hown hK hW rfl rfl 2 (by decide) (hts (.fieldLink RX11 16 "PetrolBoard" "holders" "LPetrolBoard$Holders;") (me_s (me_l (me_l (me_l (me_l (me_l (me_l (me_l (List.mem_of_getElem? (i := 1) rfl)))))))))) (fun _ h => h) rfl dX11_issue_65 ?_
            refine lv_iload_n hx hb dX11_issue_68 rfl (lv_at hl 2 rfl) ?_
            refine lv_iload_n hx hb dX11_issue_69 rfl (lv_at hl 3 rfl) ?_
            refine lv_aload_n hx hb dX11_issue_70 rfl (lv_at hl 1 rfl) ?_
            refine z_get (T := TX11) (N := 13) (ci := 11) (i := 0) (v := .int (I 0 0)) hx hb hts zj_X11_issue_X11 hown hK hW rfl rfl 0 (by decide) (hts (.fieldLink RX11 85 "PetrolBoard" "today" "I") (me_s (me_l (me_l (me_l (me_l (me_l (me_l (me_l (List.mem_of_getElem? (i := 0) rfl)))))))))) (fun _ h => h) rfl dX11_issue_71 ?_
            refine z_ci hW hS hA (va_runV (As := [.ref (ad 1), .int a1, .int a2, .int (I 0 0)]) (rest := [.int a2, .int a1, .ref (ad 26)]) ⟨hx, hb, hml, hown, hts⟩ (sx_X6_unitsOf_x l G ad c I (by show 0 ≤ (I 21 2).toInt ∧ (I 21 2).toInt ≤ 12; exact hO) ⟨(by show 0 ≤ (I 1 5).toInt ∧ (I 1 5).toInt ≤ 30; exact hH.1), (by show 0 ≤ (I 1 11).toInt ∧ (I 1 11).toInt ≤ 200; exact hH.2)⟩ SS a1 a2 (I 0 0) hc hWu (by omega) (by omega) _) (cwV 4 hts gX11_issue_X6_unitsOf rfl rfl rfl (by decide +kernel) ⟨Nat.le_of_ble_eq_true rfl, Nat.le_of_ble_eq_true rfl⟩) (z_preV (i := 21) hK hW rfl rfl) rfl rfl hl.1 rfl (lv_room (Nat.le_of_ble_eq_true rfl)) dX11_issue_74 ⟨Nat.le_of_ble_eq_true rfl, Nat.le_of_ble_eq_true rfl⟩) (fun r u1 H locs hp hW hS => ?_)
            obtain ⟨I19, e9, hI19O, hI19H, fI19, hp⟩ := hp
            rw [e9] at hW
            have f20 := z_fr_sub (L := L_X11_issue_i) z_fr_0 fI19 (by decide)
            have k21 : 0 ≤ (I19 0 0).toInt ∧ (I19 0 0).toInt ≤ 719 := by rw [fI19 0 0 (by decide)]; exact (by show 0 ≤ (I 0 0).toInt ∧ (I 0 0).toInt ≤ 719; exact hB.1)
            have k22 : 0 ≤ (I19 0 8).toInt ∧ (I19 0 8).toInt ≤ 10 := by rw [fI19 0 8 (by decide)]; exact (by show 0 ≤ (I 0 8).toInt ∧ (I 0 8).toInt ≤ 10; exact hB.2)
            refine lv_topi (fun x23 ex23 => ?_)
            rw [← ex23] at hp
            have hU24 := hp
            refine z_ci hW hS hA (va_runV (As := [.int a1, .int a2, .int x23]) (rest := []) ⟨hx, hb, hml, hown, hts⟩ (sx_X0_add_i l G ad c I19 a1 a2 x23 (by omega) (by omega) _) (cwV 3 hts gX11_issue_X0_add rfl rfl rfl (by decide +kernel) ⟨Nat.le_of_ble_eq_true rfl, Nat.le_of_ble_eq_true rfl⟩) (z_preV (i := 26) hK hW rfl rfl) rfl rfl hl.1 rfl (lv_room (Nat.le_of_ble_eq_true rfl)) dX11_issue_77 ⟨Nat.le_of_ble_eq_true rfl, Nat.le_of_ble_eq_true rfl⟩) (fun r u1 H locs hp hW hS => ?_)
            obtain ⟨I25, e9, fI25, hp⟩ := hp
            rw [e9] at hW
            have f26 := z_fr_sub (L := L_X11_issue_i) f20 fI25 (by decide)
            have k27 : 0 ≤ (I25 21 2).toInt ∧ (I25 21 2).toInt ≤ 12 := by rw [fI25 21 2 (by decide)]; exact (by show 0 ≤ (I19 21 2).toInt ∧ (I19 21 2).toInt ≤ 12; exact hI19O)
            have k28 : 0 ≤ (I25 1 5).toInt ∧ (I25 1 5).toInt ≤ 30 := by rw [fI25 1 5 (by decide)]; exact (by show 0 ≤ (I19 1 5).toInt ∧ (I19 1 5).toInt ≤ 30; exact hI19H.1)
            have k29 : 0 ≤ (I25 1 11).toInt ∧ (I25 1 11).toInt ≤ 200 := by rw [fI25 1 11 (by decide)]; exact (by show 0 ≤ (I19 1 11).toInt ∧ (I19 1 11).toInt ≤ 200; exact hI19H.2)
            have k30 : 0 ≤ (I25 0 0).toInt ∧ (I25 0 0).toInt ≤ 719 := by rw [fI25 0 0 (by decide)]; exact (by show 0 ≤ (I19 0 0).toInt ∧ (I19 0 0).toInt ≤ 719; exact k21)
            have k31 : 0 ≤ (I25 0 8).toInt ∧ (I25 0 8).toInt ≤ 10 := by rw [fI25 0 8 (by decide)]; exact (by show 0 ≤ (I19 0 8).toInt ∧ (I19 0 8).toInt ≤ 10; exact k22)
            refine lv_topi (fun x32 ex32 => ?_)
            rw [← ex32] at hp
            have hA33 := hp
            exact z_iret hx hb hr hK hS (Nat.le_of_ble_eq_true rfl) (Nat.le_of_ble_eq_true rfl) hlocks dX11_issue_80 (shC c, ad, I25, JX, PC c ad) hW ⟨I25, rfl, (by show 0 ≤ (I25 21 2).toInt ∧ (I25 21 2).toInt ≤ 12; exact k27), ⟨(by show 0 ≤ (I25 1 5).toInt ∧ (I25 1 5).toInt ≤ 30; exact k28), (by show 0 ≤ (I25 1 11).toInt ∧ (I25 1 11).toInt ≤ 200; exact k29)⟩, ⟨(by show 0 ≤ (I25 0 0).toInt ∧ (I25 0 0).toInt ≤ 719; exact k30), (by show 0 ≤ (I25 0 8).toInt ∧ (I25 0 8).toInt ≤ 10; exact k31)⟩, f26, (Or.inl ⟨by omega, (by rw [hA33.1]; exact hU24), (fun j => by rw [hA33.2.1 j, fI19 27 j (z_wr_c (by decide)), hA33.1]), (by rw [hA33.2.2, fI19 26 3 (by decide)])⟩)⟩
        · have g34 := z_f_nle rfl rfl c14
          refine lv_iconst (v := (-1)) hx hb dX11_issue_38 (by decide) ?_
          exact z_iret hx hb hr hK hS (Nat.le_of_ble_eq_true rfl) (Nat.le_of_ble_eq_true rfl) hlocks dX11_issue_39 (shC c, ad, I, JX, PC c ad) hW ⟨I, rfl, (by show 0 ≤ (I 21 2).toInt ∧ (I 21 2).toInt ≤ 12; exact hO), ⟨(by show 0 ≤ (I 1 5).toInt ∧ (I 1 5).toInt ≤ 30; exact hH.1), (by show 0 ≤ (I 1 11).toInt ∧ (I 1 11).toInt ≤ 200; exact hH.2)⟩, ⟨(by show 0 ≤ (I 0 0).toInt ∧ (I 0 0).toInt ≤ 719; exact hB.1), (by show 0 ≤ (I 0 8).toInt ∧ (I 0 8).toInt ≤ 10; exact hB.2)⟩, z_fr_0, (Or.inr ⟨by omega, by decide, (fun j => rfl), rfl⟩)⟩
    · have h35 := h7
      refine lv_if_eq (tgt := 38) hx hb dX11_issue_23 (by decide) (fun c36 => ?_) (fun c36 => absurd (by decide) c36)
      refine lv_iconst (v := (-1)) hx hb dX11_issue_38 (by decide) ?_
      exact z_iret hx hb hr hK hS (Nat.le_of_ble_eq_true rfl) (Nat.le_of_ble_eq_true rfl) hlocks dX11_issue_39 (shC c, ad, I, JX, PC c ad) hW ⟨I, rfl, (by show 0 ≤ (I 21 2).toInt ∧ (I 21 2).toInt ≤ 12; exact hO), ⟨(by show 0 ≤ (I 1 5).toInt ∧ (I 1 5).toInt ≤ 30; exact hH.1), (by show 0 ≤ (I 1 11).toInt ∧ (I 1 11).toInt ≤ 200; exact hH.2)⟩, ⟨(by show 0 ≤ (I 0 0).toInt ∧ (I 0 0).toInt ≤ 719; exact hB.1), (by show 0 ≤ (I 0 8).toInt ∧ (I 0 8).toInt ≤ 10; exact hB.2)⟩, z_fr_0, (Or.inr ⟨by omega, by decide, (fun j => rfl), rfl⟩)⟩
  · have h37 := h3
    have r38 : 0 ≤ (I 1 5).toInt ∧ (I 1 5).toInt ≤ 30 := hH.1
    refine lv_if_eq (tgt := 38) hx hb dX11_issue_16 (by decide) (fun c39 => ?_) (fun c39 => absurd (by decide) c39)
    refine lv_iconst (v := (-1)) hx hb dX11_issue_38 (by decide) ?_
    exact z_iret hx hb hr hK hS (Nat.le_of_ble_eq_true rfl) (Nat.le_of_ble_eq_true rfl) hlocks dX11_issue_39 (shC c, ad, I, JX, PC c ad) hW ⟨I, rfl, (by show 0 ≤ (I 21 2).toInt ∧ (I 21 2).toInt ≤ 12; exact hO), ⟨(by show 0 ≤ (I 1 5).toInt ∧ (I 1 5).toInt ≤ 30; exact hH.1), (by show 0 ≤ (I 1 11).toInt ∧ (I 1 11).toInt ≤ 200; exact hH.2)⟩, ⟨(by show 0 ≤ (I 0 0).toInt ∧ (I 0 0).toInt ≤ 719; exact hB.1), (by show 0 ≤ (I 0 8).toInt ∧ (I 0 8).toInt ≤ 10; exact hB.2)⟩, z_fr_0, (Or.inr ⟨by omega, by decide, (fun j => rfl), rfl⟩)⟩
