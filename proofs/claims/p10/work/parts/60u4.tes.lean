

noncomputable def L_X12_test_x : z_L := [(0, 35), (0, 36), (0, 37), (0, 38), (0, 34), (0, 42), (0, 32), (0, 39), (21, 999), (22, 999), (23, 999), (0, 15), (26, 999), (27, 999), (28, 999), (29, 999), (0, 47), (0, 40)]
set_option maxHeartbeats 8000000 in
set_option maxRecDepth 100000 in
theorem sx_X12_test_x (l : Launch) (G : z_G) (ad : Nat → Nat) (I : z_I) (J : z_J) (hmp : z_imp I) (hmt : z_imt I) (hmd : z_imd I) (hmg : z_img I) (hmn : z_imn I) (hNd : z_Nd I) (hrp : z_irp I) (B : Int) (gt gv : Nat → Int) (gp ge : Nat → Nat) (gh : Nat → Int) (gm n0 : Nat) (gI : z_I) (tq : Nat) (FS : List zp_F) (fa fx fs fo fg : Int) (NN : List zp_N) (a1 : Int32) (q1 : 0 ≤ a1.toInt ∧ a1.toInt ≤ 33) (hwd : (I 26 a1.toNatClampNeg).toInt = 5) (hPS : z_PS I (a1.toNatClampNeg + 1) B) (hE : zm_E gt gv gp ge gh gm n0 gI I J (.inr (tq, (5, fa, fx, fs) :: FS, fo, fg, NN))) (hdk : a1.toNatClampNeg = FS.length) (hSM : zp_SM gh gt gv gp ge gm) : z_Mv l yX12_test wsX12_test { frames := 4, cells := 0, slots := 0, locals := 76 } [.ref (ad 0), .int a1] G (shM, ad, I, J, PM ad) (fun u1 => ∃ (I1 : z_I) (J1 : z_J), u1 = (shM, ad, I1, J1, PM ad) ∧ z_imp I1 ∧ z_imt I1 ∧ z_imd I1 ∧ z_img I1 ∧ z_imn I1 ∧ z_Nd I1 ∧ z_irp I1 ∧ z_fr L_X12_test_x I1 I ∧ ((¬ (I1 0 42).toInt = 0 ∨ ∃ n, z_PS I1 n (B - 1)) ∧ zm_E gt gv gp ge gh gm n0 gI I1 J1 (zp_st gt gv (n0 : Int) (.inr (tq, (5, fa, fx, fs) :: FS, fo, fg, NN))))) 0 0 := by
  intro sz
  refine z_headQ (cc := cX12_test) (maxL := 2) (ret := none) (by decide) rfl (Nat.le_of_ble_eq_true rfl) ?_
  intro p e s m below meth c0 ls hIn hK hsz hW hl
  obtain ⟨hx, hb, hr, hml, hown, hts, hlocks, hname⟩ := hIn
  subst hsz
  have hown : s.vm.findClass RX12 = some m.cls := hown
  have hA : ∀ q : Nat, s.heap.size ≤ q → z_A (shM, ad, I, J, PM ad) s.heap.size q := fun q h => Or.inr h
  generalize hAe : z_A (shM, ad, I, J, PM ad) s.heap.size = A at *
  have hS : va_S A s.heap s.heap [] := va_S.rf
  have hl : lv_has ls 2 [(0, .ref (ad 0)), (1, .int a1)] := hl
  obtain ⟨va, eva⟩ : ∃ y, y = I 27 a1.toNatClampNeg := ⟨_, rfl⟩
  obtain ⟨vo, evo⟩ : ∃ y, y = I 28 a1.toNatClampNeg := ⟨_, rfl⟩
  obtain ⟨vs, evs⟩ : ∃ y, y = I 29 a1.toNatClampNeg := ⟨_, rfl⟩
  have hT := z_top hPS
  unfold z_fv at hT
  rw [hwd, ← eva, ← evo, ← evs] at hT
  obtain ⟨t1, t2, t3, t4, t5, t6, t7, t8, t9, t10, t11, t12, t13, t14, t15, t16, t17, t18, t19, t20, t21⟩ := hT
  have hk9 := z_clt (x := a1) rfl q1.1
  have hcw := z_fwc_5 va.toInt vo.toInt
  have hcf := z_foc_5 va.toInt
  obtain ⟨vw, evw⟩ : ∃ y, y = I 26 a1.toNatClampNeg := ⟨_, rfl⟩
  have hvw : vw.toInt = 5 := by rw [evw]; exact hwd
  have hE1 := zm_E_W hE
  have hE2 := zm_E_D hE
  have hE4 := zm_E_nu hE
  have hE5 := zm_E_w1 hE
  have hE3 := zm_E_F hE
  rw [← hdk, ← eva, ← evo, ← evs] at hE3
  have krp : 0 ≤ (I 0 35).toInt ∧ (I 0 35).toInt ≤ (I 0 34).toInt ∧ (I 0 34).toInt ≤ (I 0 33).toInt ∧ (I 0 33).toInt ≤ 500 ∧ ((I 0 36).toInt = 0 ∨ (I 0 35).toInt + 1 ≤ (I 0 34).toInt) := hrp
  refine lv_aload_n hx hb dX12_test_0 rfl (lv_at hl 0 rfl) ?_
  refine z_get (T := TX12) (N := 96) (ci := 12) (i := 0) (v := .ref (ad 27)) hx hb hts zj_X12_test_X12 hown hK hW rfl rfl 44 (by decide) (hts (.fieldLink RX12 94 "PetrolBoardModel" "at" "[I") (me_s (me_l (me_l (List.mem_of_getElem? (i := 0) rfl))))) (fun _ h => h) rfl dX12_test_1 ?_
  refine lv_iload_n hx hb dX12_test_4 rfl (lv_at hl 1 rfl) ?_
  refine z_iald (i := 27) hx hb hK hW rfl (z_ix rfl (by omega) (by omega)) dX12_test_5 ?_
  refine z_topi (v := va) eva.symm ?_
  refine lv_if_ne (tgt := 81) hx hb dX12_test_6 (by decide) (fun c1 => ?_) (fun c1 => ?_)
  · have g2 := z_f_ne rfl z_l0 c1
    refine lv_aload_n hx hb dX12_test_81 rfl (lv_at hl 0 rfl) ?_
    refine z_get (T := TX12) (N := 96) (ci := 12) (i := 0) (v := .ref (ad 27)) hx hb hts zj_X12_test_X12 hown hK hW rfl rfl 44 (by decide) (hts (.fieldLink RX12 94 "PetrolBoardModel" "at" "[I") (me_s (me_l (me_l (List.mem_of_getElem? (i := 0) rfl))))) (fun _ h => h) rfl dX12_test_82 ?_
    refine lv_iload_n hx hb dX12_test_85 rfl (lv_at hl 1 rfl) ?_
    refine z_iald (i := 27) hx hb hK hW rfl (z_ix rfl (by omega) (by omega)) dX12_test_86 ?_
    refine z_topi (v := va) eva.symm ?_
    refine lv_iconst (v := 1) hx hb dX12_test_87 (by decide) ?_
    refine lv_icmp_ne (tgt := 119) hx hb dX12_test_88 (by decide) (fun c3 => ?_) (fun c3 => ?_)
    · have g4 := z_f_ne rfl z_l1 c3
      refine lv_aload_n hx hb dX12_test_119 rfl (lv_at hl 0 rfl) ?_
      refine z_get (T := TX12) (N := 96) (ci := 12) (i := 0) (v := .ref (ad 27)) hx hb hts zj_X12_test_X12 hown hK hW rfl rfl 44 (by decide) (hts (.fieldLink RX12 94 "PetrolBoardModel" "at" "[I") (me_s (me_l (me_l (List.mem_of_getElem? (i := 0) rfl))))) (fun _ h => h) rfl dX12_test_120 ?_
      refine lv_iload_n hx hb dX12_test_123 rfl (lv_at hl 1 rfl) ?_
      refine z_iald (i := 27) hx hb hK hW rfl (z_ix rfl (by omega) (by omega)) dX12_test_124 ?_
      refine z_topi (v := va) eva.symm ?_
      refine lv_iconst (v := 2) hx hb dX12_test_125 (by decide) ?_
      refine lv_icmp_ne (tgt := 163) hx hb dX12_test_126 (by decide) (fun c5 => ?_) (fun c5 => ?_)
      · have g6 := z_f_ne rfl z_l2 c5
        refine lv_aload_n hx hb dX12_test_163 rfl (lv_at hl 0 rfl) ?_
        refine z_get (T := TX12) (N := 96) (ci := 12) (i := 0) (v := .ref (ad 27)) hx hb hts zj_X12_test_X12 hown hK hW rfl rfl 44 (by decide) (hts (.fieldLink RX12 94 "PetrolBoardModel" "at" "[I") (me_s (me_l (me_l (List.mem_of_getElem? (i := 0) rfl))))) (fun _ h => h) rfl dX12_test_164 ?_
        refine lv_iload_n hx hb dX12_test_167 rfl (lv_at hl 1 rfl) ?_
        refine z_iald (i := 27) hx hb hK hW rfl (z_ix rfl (by omega) (by omega)) dX12_test_168 ?_
        refine z_topi (v := va) eva.symm ?_
        refine lv_iconst (v := 3) hx hb dX12_test_169 (by decide) ?_
        refine lv_icmp_ne (tgt := 265) hx hb dX12_test_170 (by decide) (fun c7 => ?_) (fun c7 => ?_)
        · have g8 := z_f_ne rfl z_l3 c7
          refine lv_aload_n hx hb dX12_test_265 rfl (lv_at hl 0 rfl) ?_
          refine lv_aload_n hx hb dX12_test_266 rfl (lv_at hl 0 rfl) ?_
          refine lv_aload_n hx hb dX12_test_267 rfl (lv_at hl 0 rfl) ?_
          refine z_get (T := TX12) (N := 96) (ci := 12) (i := 0) (v := .ref (ad 29)) hx hb hts zj_X12_test_X12 hown hK hW rfl rfl 46 (by decide) (hts (.fieldLink RX12 100 "PetrolBoardModel" "sort" "[I") (me_s (me_l (me_l (List.mem_of_getElem? (i := 6) rfl))))) (fun _ h => h) rfl dX12_test_268 ?_
          refine lv_iload_n hx hb dX12_test_271 rfl (lv_at hl 1 rfl) ?_
          refine z_iald (i := 29) hx hb hK hW rfl (z_ix rfl (by omega) (by omega)) dX12_test_272 ?_
          refine z_topi (v := vs) evs.symm ?_
          refine lv_aload_n hx hb dX12_test_273 rfl (lv_at hl 0 rfl) ?_
          refine z_get (T := TX12) (N := 96) (ci := 12) (i := 0) (v := .ref (ad 28)) hx hb hts zj_X12_test_X12 hown hK hW rfl rfl 45 (by decide) (hts (.fieldLink RX12 97 "PetrolBoardModel" "one" "[I") (me_s (me_l (me_l (List.mem_of_getElem? (i := 5) rfl))))) (fun _ h => h) rfl dX12_test_274 ?_
          refine lv_iload_n hx hb dX12_test_277 rfl (lv_at hl 1 rfl) ?_
          refine z_iald (i := 28) hx hb hK hW rfl (z_ix rfl (by omega) (by omega)) dX12_test_278 ?_
          refine z_topi (v := vo) evo.symm ?_
          refine lv_aload_n hx hb dX12_test_279 rfl (lv_at hl 0 rfl) ?_
          have r9 : 0 ≤ (I 0 40).toInt ∧ (I 0 40).toInt ≤ 6199 := hmg
          refine z_get (T := TX12) (N := 96) (ci := 12) (i := 0) (v := .int (I 0 40)) hx hb hts zj_X12_test_X12 hown hK hW rfl rfl 40 (by decide) (hts (.fieldLink RX12 343 "PetrolBoardModel" "got" "I") (me_s (me_l (me_l (List.mem_of_getElem? (i := 3) rfl))))) (fun _ h => h) rfl dX12_test_280 ?_
          refine z_ci hW hS hA (va_runV (As := [.int vs, .int vo, .int (I 0 40)]) (rest := [.ref (ad 0)]) ⟨hx, hb, hml, hown, hts⟩ (sx_X12_node_x l G ad I J (by show 0 ≤ (I 0 15).toInt ∧ (I 0 15).toInt ≤ 6100; exact hmn) hNd vs vo (I 0 40) (by show (I 0 15).toInt ≤ 6099; omega) (by first | omega | decide) (by first | omega | decide) (by first | omega | decide) _) (cwV 3 hts gX12_test_X12_node rfl rfl rfl (by decide +kernel) ⟨Nat.le_of_ble_eq_true rfl, Nat.le_of_ble_eq_true rfl⟩) (z_preV (i := 0) hK hW rfl rfl) rfl rfl hl.1 rfl (lv_room (Nat.le_of_ble_eq_true rfl)) dX12_test_283 ⟨Nat.le_of_ble_eq_true rfl, Nat.le_of_ble_eq_true rfl⟩) (fun r u1 H locs hp hW hS => ?_)
          obtain ⟨I10, J12, e9, hI10mn, hI10Nd, fI10, hp⟩ := hp
          rw [e9] at hW
          have f11 := z_fr_sub (L := L_X12_test_x) z_fr_0 fI10 (by decide)
          have k13 : 0 ≤ (I10 0 31).toInt ∧ (I10 0 31).toInt ≤ 500 := by rw [fI10 0 31 (by decide)]; exact (by show 0 ≤ (I 0 31).toInt ∧ (I 0 31).toInt ≤ 500; exact hmp.1)
          have k14 : 0 ≤ (I10 0 33).toInt ∧ (I10 0 33).toInt ≤ 500 := by rw [fI10 0 33 (by decide)]; exact (by show 0 ≤ (I 0 33).toInt ∧ (I 0 33).toInt ≤ 500; exact hmp.2.1)
          have k15 : 0 ≤ (I10 0 34).toInt ∧ (I10 0 34).toInt ≤ 500 := by rw [fI10 0 34 (by decide)]; exact (by show 0 ≤ (I 0 34).toInt ∧ (I 0 34).toInt ≤ 500; exact hmp.2.2.1)
          have k16 : 0 ≤ (I10 0 35).toInt ∧ (I10 0 35).toInt ≤ 500 := by rw [fI10 0 35 (by decide)]; exact (by show 0 ≤ (I 0 35).toInt ∧ (I 0 35).toInt ≤ 500; exact hmp.2.2.2)
          have k17 : 0 ≤ (I10 0 36).toInt ∧ (I10 0 36).toInt ≤ 4 := by rw [fI10 0 36 (by decide)]; exact (by show 0 ≤ (I 0 36).toInt ∧ (I 0 36).toInt ≤ 4; exact hmt.1)
          have k18 : 0 ≤ (I10 0 42).toInt ∧ (I10 0 42).toInt ≤ 1 := by rw [fI10 0 42 (by decide)]; exact (by show 0 ≤ (I 0 42).toInt ∧ (I 0 42).toInt ≤ 1; exact hmt.2)
          have k19 : 0 ≤ (I10 0 47).toInt ∧ (I10 0 47).toInt ≤ 119 := by rw [fI10 0 47 (by decide)]; exact (by show 0 ≤ (I 0 47).toInt ∧ (I 0 47).toInt ≤ 119; exact hmd.1)
          have k20 : 0 ≤ (I10 0 39).toInt ∧ (I10 0 39).toInt ≤ 100 := by rw [fI10 0 39 (by decide)]; exact (by show 0 ≤ (I 0 39).toInt ∧ (I 0 39).toInt ≤ 100; exact hmd.2)
          have k21 : 0 ≤ (I10 0 40).toInt ∧ (I10 0 40).toInt ≤ 6199 := by rw [fI10 0 40 (by decide)]; exact (by show 0 ≤ (I 0 40).toInt ∧ (I 0 40).toInt ≤ 6199; exact hmg)
          have k22 : 0 ≤ (I10 0 35).toInt ∧ (I10 0 35).toInt ≤ (I10 0 34).toInt ∧ (I10 0 34).toInt ≤ (I10 0 33).toInt ∧ (I10 0 33).toInt ≤ 500 ∧ ((I10 0 36).toInt = 0 ∨ (I10 0 35).toInt + 1 ≤ (I10 0 34).toInt) := (by have q0 : (I10 0 35) = (I 0 35) := (by rw [fI10 0 35 (by decide)]); have q1 : (I10 0 34) = (I 0 34) := (by rw [fI10 0 34 (by decide)]); have q2 : (I10 0 33) = (I 0 33) := (by rw [fI10 0 33 (by decide)]); have q3 : (I10 0 36) = (I 0 36) := (by rw [fI10 0 36 (by decide)]); show 0 ≤ (I10 0 35).toInt ∧ (I10 0 35).toInt ≤ (I10 0 34).toInt ∧ (I10 0 34).toInt ≤ (I10 0 33).toInt ∧ (I10 0 33).toInt ≤ 500 ∧ ((I10 0 36).toInt = 0 ∨ (I10 0 35).toInt + 1 ≤ (I10 0 34).toInt); rw [q0, q1, q2, q3]; first | omega | decide)
          have k23 : (I10 0 35).toInt = (I 0 35).toInt := by rw [fI10 0 35 (by decide)]
          have k24 : (I10 0 34).toInt = (I 0 34).toInt := by rw [fI10 0 34 (by decide)]
          have k25 : (I10 0 36).toInt = (I 0 36).toInt := by rw [fI10 0 36 (by decide)]
          have k26 : (I10 0 42).toInt = (I 0 42).toInt := by rw [fI10 0 42 (by decide)]
          have k27 : (I10 0 47).toInt = (I 0 47).toInt := by rw [fI10 0 47 (by decide)]
          have k28 : (I10 0 39).toInt = (I 0 39).toInt := by rw [fI10 0 39 (by decide)]
          have k29 : (I10 0 40).toInt = (I 0 40).toInt := by rw [fI10 0 40 (by decide)]
          refine lv_topi (fun x34 ex34 => ?_)
          rw [← ex34] at hp
          obtain ⟨h30, h31, h32, hJ33⟩ := hp
          have h35 : 0 ≤ x34.toInt ∧ x34.toInt ≤ 6100 := (by have q9 : 0 ≤ (I 0 15).toInt ∧ (I 0 15).toInt ≤ 6100 := (by show 0 ≤ (I 0 15).toInt ∧ (I 0 15).toInt ≤ 6100; exact hmn); omega)
          have h36 := h30
          have h37 := h31
          have hE38 : zm_E gt gv gp ge gh gm n0 gI I10 J12 (.inr (tq, (5, fa, fx, fs) :: FS, fo, fg, NN ++ [(fs, fx, fg)])) := zm_E_node hE h32 (by omega) (by omega) (by omega) fI10 (by decide) hJ33
          have h39 := zm_E_W hE38
          have h40 := zm_E_D hE38
          refine z_cv hW hS hA (va_runV (As := [.int x34]) (rest := []) ⟨hx, hb, hml, hown, hts⟩ (sx_X12_ends_x l G ad I10 J12 ⟨(by show 0 ≤ (I10 0 47).toInt ∧ (I10 0 47).toInt ≤ 119; exact k19), (by show 0 ≤ (I10 0 39).toInt ∧ (I10 0 39).toInt ≤ 100; exact k20)⟩ (by show 0 ≤ (I10 0 40).toInt ∧ (I10 0 40).toInt ≤ 6199; exact k21) x34 (by first | omega | decide) (by show 1 ≤ (I10 0 47).toInt; omega) _) (cwV 1 hts gX12_test_X12_ends rfl rfl rfl (by decide +kernel) ⟨Nat.le_of_ble_eq_true rfl, Nat.le_of_ble_eq_true rfl⟩) (z_preV (i := 0) hK hW rfl rfl) rfl rfl hl.1 rfl (lv_room (Nat.le_of_ble_eq_true rfl)) dX12_test_286 ⟨Nat.le_of_ble_eq_true rfl, Nat.le_of_ble_eq_true rfl⟩) (fun u1 H locs hp hW hS => ?_)
          obtain ⟨I41, J43, e9, hI41md, hI41mg, fI41, hp⟩ := hp
          rw [e9] at hW
          have f42 := z_fr_sub (L := L_X12_test_x) f11 fI41 (by decide)
          have k44 : 0 ≤ (I41 0 31).toInt ∧ (I41 0 31).toInt ≤ 500 := by rw [fI41 0 31 (by decide)]; exact (by show 0 ≤ (I10 0 31).toInt ∧ (I10 0 31).toInt ≤ 500; exact k13)
          have k45 : 0 ≤ (I41 0 33).toInt ∧ (I41 0 33).toInt ≤ 500 := by rw [fI41 0 33 (by decide)]; exact (by show 0 ≤ (I10 0 33).toInt ∧ (I10 0 33).toInt ≤ 500; exact k14)
          have k46 : 0 ≤ (I41 0 34).toInt ∧ (I41 0 34).toInt ≤ 500 := by rw [fI41 0 34 (by decide)]; exact (by show 0 ≤ (I10 0 34).toInt ∧ (I10 0 34).toInt ≤ 500; exact k15)
          have k47 : 0 ≤ (I41 0 35).toInt ∧ (I41 0 35).toInt ≤ 500 := by rw [fI41 0 35 (by decide)]; exact (by show 0 ≤ (I10 0 35).toInt ∧ (I10 0 35).toInt ≤ 500; exact k16)
          have k48 : 0 ≤ (I41 0 36).toInt ∧ (I41 0 36).toInt ≤ 4 := by rw [fI41 0 36 (by decide)]; exact (by show 0 ≤ (I10 0 36).toInt ∧ (I10 0 36).toInt ≤ 4; exact k17)
          have k49 : 0 ≤ (I41 0 42).toInt ∧ (I41 0 42).toInt ≤ 1 := by rw [fI41 0 42 (by decide)]; exact (by show 0 ≤ (I10 0 42).toInt ∧ (I10 0 42).toInt ≤ 1; exact k18)
          have k50 : 0 ≤ (I41 0 15).toInt ∧ (I41 0 15).toInt ≤ 6100 := by rw [fI41 0 15 (by decide)]; exact (by show 0 ≤ (I10 0 15).toInt ∧ (I10 0 15).toInt ≤ 6100; exact hI10mn)
          have k51 : 0 ≤ (I41 0 35).toInt ∧ (I41 0 35).toInt ≤ (I41 0 34).toInt ∧ (I41 0 34).toInt ≤ (I41 0 33).toInt ∧ (I41 0 33).toInt ≤ 500 ∧ ((I41 0 36).toInt = 0 ∨ (I41 0 35).toInt + 1 ≤ (I41 0 34).toInt) := (by have q0 : (I41 0 35) = (I10 0 35) := (by rw [fI41 0 35 (by decide)]); have q1 : (I41 0 34) = (I10 0 34) := (by rw [fI41 0 34 (by decide)]); have q2 : (I41 0 33) = (I10 0 33) := (by rw [fI41 0 33 (by decide)]); have q3 : (I41 0 36) = (I10 0 36) := (by rw [fI41 0 36 (by decide)]); show 0 ≤ (I41 0 35).toInt ∧ (I41 0 35).toInt ≤ (I41 0 34).toInt ∧ (I41 0 34).toInt ≤ (I41 0 33).toInt ∧ (I41 0 33).toInt ≤ 500 ∧ ((I41 0 36).toInt = 0 ∨ (I41 0 35).toInt + 1 ≤ (I41 0 34).toInt); rw [q0, q1, q2, q3]; first | omega | decide)
          have k52 : (I41 0 35).toInt = (I10 0 35).toInt := by rw [fI41 0 35 (by decide)]
          have k53 : (I41 0 34).toInt = (I10 0 34).toInt := by rw [fI41 0 34 (by decide)]
          have k54 : (I41 0 36).toInt = (I10 0 36).toInt := by rw [fI41 0 36 (by decide)]
          have k55 : (I41 0 42).toInt = (I10 0 42).toInt := by rw [fI41 0 42 (by decide)]
          have k56 : (I41 0 39).toInt = (I10 0 39).toInt := by rw [fI41 0 39 (by decide)]
          have k57 : (I41 0 15).toInt = (I10 0 15).toInt := by rw [fI41 0 15 (by decide)]
          obtain ⟨hp, h58, hJ59⟩ := hp
          have h60 := hp
          have h61 := hp
          have hE62 : zm_E gt gv gp ge gh gm n0 gI I41 J43 (.inr (tq, FS, fo, ((n0 : Int) + ((NN).length : Int)), NN ++ [(fs, fx, fg)])) := zm_E_ends hE38 h60 h58 (by omega) fI41 (by decide) hJ59
          have h63 := zm_E_W hE62
          have h64 := zm_E_D hE62
          exact z_vret hx hb hr hK hS (Nat.le_of_ble_eq_true rfl) (Nat.le_of_ble_eq_true rfl) hlocks dX12_test_289 (shM, ad, I41, J43, PM ad) hW ⟨I41, J43, rfl, ⟨(by show 0 ≤ (I41 0 31).toInt ∧ (I41 0 31).toInt ≤ 500; exact k44), (by show 0 ≤ (I41 0 33).toInt ∧ (I41 0 33).toInt ≤ 500; exact k45), (by show 0 ≤ (I41 0 34).toInt ∧ (I41 0 34).toInt ≤ 500; exact k46), (by show 0 ≤ (I41 0 35).toInt ∧ (I41 0 35).toInt ≤ 500; exact k47)⟩, ⟨(by show 0 ≤ (I41 0 36).toInt ∧ (I41 0 36).toInt ≤ 4; exact k48), (by show 0 ≤ (I41 0 42).toInt ∧ (I41 0 42).toInt ≤ 1; exact k49)⟩, ⟨(by show 0 ≤ (I41 0 47).toInt ∧ (I41 0 47).toInt ≤ 119; exact hI41md.1), (by show 0 ≤ (I41 0 39).toInt ∧ (I41 0 39).toInt ≤ 100; exact hI41md.2)⟩, (by show 0 ≤ (I41 0 40).toInt ∧ (I41 0 40).toInt ≤ 6199; exact hI41mg), (by show 0 ≤ (I41 0 15).toInt ∧ (I41 0 15).toInt ≤ 6100; exact k50), (z_Nd_fr hI10Nd fI41 (by decide)), (by show 0 ≤ (I41 0 35).toInt ∧ (I41 0 35).toInt ≤ (I41 0 34).toInt ∧ (I41 0 34).toInt ≤ (I41 0 33).toInt ∧ (I41 0 33).toInt ≤ 500 ∧ ((I41 0 36).toInt = 0 ∨ (I41 0 35).toInt + 1 ≤ (I41 0 34).toInt); first | omega | decide), f42, ⟨((Classical.em ((I41 0 42).toInt = 0)).elim (fun hw9 => Or.inr ⟨a1.toNatClampNeg, by have w1 := z_fw_514 (a := va.toInt) (o := vo.toInt) (by omega); have w2 := z_fo_5n (a := va.toInt) (by omega); exact z_POP (d := a1.toNatClampNeg) hPS (fun i hi => ⟨by rw [fI41 26 i (z_wr_c (by decide)), fI10 26 i (z_wr_c (by decide))], by rw [fI41 27 i (z_wr_c (by decide)), fI10 27 i (z_wr_c (by decide))], by rw [fI41 28 i (z_wr_c (by decide)), fI10 28 i (z_wr_c (by decide))], by rw [fI41 29 i (z_wr_c (by decide)), fI10 29 i (z_wr_c (by decide))]⟩) (by omega) (by omega) (by omega) (by omega) (by omega) (by omega)⟩) Or.inl), (by have hz9 : zp_st gt gv (n0 : Int) (.inr (tq, (5, fa, fx, fs) :: FS, fo, fg, NN)) = .inr (tq, FS, fo, ((n0 : Int) + ((NN).length : Int)), NN ++ [(fs, fx, fg)]) := (by first | (simp [zp_st, zp_op, zp_cm, zp_cb, (show fa = 4 by omega)]; done) | (exfalso; omega)); rw [hz9]; exact hE62)⟩⟩
        · have g65 := z_f_eq rfl z_l3 c7
          refine lv_aload_n hx hb dX12_test_173 rfl (lv_at hl 0 rfl) ?_
          refine z_get (T := TX12) (N := 96) (ci := 12) (i := 0) (v := .ref (ad 28)) hx hb hts zj_X12_test_X12 hown hK hW rfl rfl 45 (by decide) (hts (.fieldLink RX12 97 "PetrolBoardModel" "one" "[I") (me_s (me_l (me_l (List.mem_of_getElem? (i := 5) rfl))))) (fun _ h => h) rfl dX12_test_174 ?_
          refine lv_iload_n hx hb dX12_test_177 rfl (lv_at hl 1 rfl) ?_
          refine lv_aload_n hx hb dX12_test_178 rfl (lv_at hl 0 rfl) ?_
          have r66 : 0 ≤ (I 0 40).toInt ∧ (I 0 40).toInt ≤ 6199 := hmg
          refine z_get (T := TX12) (N := 96) (ci := 12) (i := 0) (v := .int (I 0 40)) hx hb hts zj_X12_test_X12 hown hK hW rfl rfl 40 (by decide) (hts (.fieldLink RX12 343 "PetrolBoardModel" "got" "I") (me_s (me_l (me_l (List.mem_of_getElem? (i := 3) rfl))))) (fun _ h => h) rfl dX12_test_179 ?_
          refine z_iast (i := 28) hx hb hK hW hS rfl (z_ix rfl (by omega) (by omega)) dX12_test_182 (fun H locs hz1 hW hS => ?_)
          obtain ⟨I67, eI67⟩ : ∃ K : z_I, K = z_up I 28 a1.toNatClampNeg (I 0 40) := ⟨_, rfl⟩
          rw [← eI67] at hW
          have f68 := z_fr_a z_fr_0 (show z_wa L_X12_test_x 28 = true by decide) eI67
          have a69 := z_Nd_n hNd (by decide) eI67
          have hE70 : zm_E gt gv gp ge gh gm n0 gI I67 J (.inr (tq, (5, fa, fg, fs) :: FS, fo, fg, NN)) := zm_E_top hE eI67 hdk (Or.inr (Or.inl ⟨rfl, by omega, rfl, rfl, rfl⟩))
          have h71 := zm_E_W hE70
          have h72 := zm_E_D hE70
          refine lv_aload_n hx hb dX12_test_183 rfl (lv_at hl 0 rfl) ?_
          refine z_get (T := TX12) (N := 96) (ci := 12) (i := 0) (v := .ref (ad 29)) hx hb hts zj_X12_test_X12 hown hK hW rfl rfl 46 (by decide) (hts (.fieldLink RX12 100 "PetrolBoardModel" "sort" "[I") (me_s (me_l (me_l (List.mem_of_getElem? (i := 6) rfl))))) (fun _ h => h) rfl dX12_test_184 ?_
          refine lv_iload_n hx hb dX12_test_187 rfl (lv_at hl 1 rfl) ?_
          refine lv_aload_n hx hb dX12_test_188 rfl (lv_at hl 0 rfl) ?_
          refine lv_bipush (v := 60) hx hb dX12_test_189 (by decide) ?_
          refine z_ci hW hS hA (va_runV (As := [.int 60]) (rest := [.int a1, .ref (ad 29)]) ⟨hx, hb, hml, hown, hts⟩ (sx_X12_isSign_x l G ad I67 J ⟨(by show 0 ≤ (I67 0 36).toInt ∧ (I67 0 36).toInt ≤ 4; rw [eI67, z_up_n (by decide)]; exact hmt.1), (by show 0 ≤ (I67 0 42).toInt ∧ (I67 0 42).toInt ≤ 1; rw [eI67, z_up_n (by decide)]; exact hmt.2)⟩ 60 _) (cwV 1 hts gX12_test_X12_isSign rfl rfl rfl (by decide +kernel) ⟨Nat.le_of_ble_eq_true rfl, Nat.le_of_ble_eq_true rfl⟩) (z_preV (i := 0) hK hW rfl rfl) rfl rfl hl.1 rfl (lv_room (Nat.le_of_ble_eq_true rfl)) dX12_test_191 ⟨Nat.le_of_ble_eq_true rfl, Nat.le_of_ble_eq_true rfl⟩) (fun r u1 H locs hp hW hS => ?_)
          obtain ⟨e9, hp⟩ := hp
          rw [e9] at hW
          rcases hp with ⟨rfl, h73, h74⟩ | ⟨rfl, h73⟩
          · have z75 := z_l60
            have ht76 : gt (tq) = 60 := (zm_E_sg (show zp_sg 60 by unfold zp_sg; omega) hE70).mp ⟨h73, by omega⟩
            have h77 := h73
            rw [show (I67 0 36) = (I 0 36) from by rw [eI67, z_up_n (by decide)]] at h77
            have h78 : (I 0 35).toInt + 1 ≤ (I 0 34).toInt := by omega
            refine lv_if_eq (tgt := 202) hx hb dX12_test_194 (by decide) (fun c79 => absurd c79 (by decide)) (fun c79 => ?_)
            refine lv_bipush (v := 8) hx hb dX12_test_197 (by decide) ?_
            refine lv_goto (tgt := 231) hx hb dX12_test_199 (by decide) ?_
            refine z_iast (i := 29) hx hb hK hW hS rfl (z_ix rfl (by omega) (by omega)) dX12_test_231 (fun H locs hz1 hW hS => ?_)
            obtain ⟨I80, eI80⟩ : ∃ K : z_I, K = z_up I67 29 a1.toNatClampNeg 8 := ⟨_, rfl⟩
            rw [← eI80] at hW
            have f81 := z_fr_a f68 (show z_wa L_X12_test_x 29 = true by decide) eI80
            have a82 := z_Nd_n a69 (by decide) eI80
            have z83 := z_l8
            have hE84 : zm_E gt gv gp ge gh gm n0 gI I80 J (.inr (tq, (5, fa, fg, 8) :: FS, fo, fg, NN)) := zm_E_top hE70 eI80 hdk (Or.inr (Or.inr ⟨rfl, by omega, rfl, rfl, rfl⟩))
            have h85 := zm_E_W hE84
            have h86 := zm_E_D hE84
            refine lv_aload_n hx hb dX12_test_232 rfl (lv_at hl 0 rfl) ?_
            refine z_get (T := TX12) (N := 96) (ci := 12) (i := 0) (v := .ref (ad 29)) hx hb hts zj_X12_test_X12 hown hK hW rfl rfl 46 (by decide) (hts (.fieldLink RX12 100 "PetrolBoardModel" "sort" "[I") (me_s (me_l (me_l (List.mem_of_getElem? (i := 6) rfl))))) (fun _ h => h) rfl dX12_test_233 ?_
            refine lv_iload_n hx hb dX12_test_236 rfl (lv_at hl 1 rfl) ?_
            refine z_iald (i := 29) hx hb hK hW rfl (z_ix rfl (by omega) (by omega)) dX12_test_237 ?_
            refine z_topi (v := 8) (by rw [eI80, z_up_s]) ?_
            refine lv_if_ne (tgt := 246) hx hb dX12_test_238 (by decide) (fun c87 => ?_) (fun c87 => absurd c87 (by decide))
            refine lv_aload_n hx hb dX12_test_246 rfl (lv_at hl 0 rfl) ?_
            refine z_cv hW hS hA (va_runV (As := []) (rest := []) ⟨hx, hb, hml, hown, hts⟩ (sx_X12_next_x l G ad I80 J ⟨(by show 0 ≤ (I80 0 31).toInt ∧ (I80 0 31).toInt ≤ 500; rw [eI80, z_up_n (by decide), eI67, z_up_n (by decide)]; exact hmp.1), (by show 0 ≤ (I80 0 33).toInt ∧ (I80 0 33).toInt ≤ 500; rw [eI80, z_up_n (by decide), eI67, z_up_n (by decide)]; exact hmp.2.1), (by show 0 ≤ (I80 0 34).toInt ∧ (I80 0 34).toInt ≤ 500; rw [eI80, z_up_n (by decide), eI67, z_up_n (by decide)]; exact hmp.2.2.1), (by show 0 ≤ (I80 0 35).toInt ∧ (I80 0 35).toInt ≤ 500; rw [eI80, z_up_n (by decide), eI67, z_up_n (by decide)]; exact hmp.2.2.2)⟩ ⟨(by show 0 ≤ (I80 0 36).toInt ∧ (I80 0 36).toInt ≤ 4; rw [eI80, z_up_n (by decide), eI67, z_up_n (by decide)]; exact hmt.1), (by show 0 ≤ (I80 0 42).toInt ∧ (I80 0 42).toInt ≤ 1; rw [eI80, z_up_n (by decide), eI67, z_up_n (by decide)]; exact hmt.2)⟩ (by have q0 : (I80 0 34) = (I 0 34) := (by rw [eI80, z_up_n (by decide), eI67, z_up_n (by decide)]); have q1 : (I80 0 33) = (I 0 33) := (by rw [eI80, z_up_n (by decide), eI67, z_up_n (by decide)]); show 0 ≤ (I80 0 34).toInt ∧ (I80 0 34).toInt ≤ (I80 0 33).toInt ∧ (I80 0 33).toInt ≤ 500; rw [q0, q1]; first | omega | decide)  _) (cwV 0 hts gX12_test_X12_next rfl rfl rfl (by decide +kernel) ⟨Nat.le_of_ble_eq_true rfl, Nat.le_of_ble_eq_true rfl⟩) (z_preV (i := 0) hK hW rfl rfl) rfl rfl hl.1 rfl (lv_room (Nat.le_of_ble_eq_true rfl)) dX12_test_247 ⟨Nat.le_of_ble_eq_true rfl, Nat.le_of_ble_eq_true rfl⟩) (fun u1 H locs hp hW hS => ?_)
            obtain ⟨I88, J90, e9, hI88mp, hI88mt, hI88rp, fI88, hp⟩ := hp
            rw [e9] at hW
            have f89 := z_fr_sub (L := L_X12_test_x) f81 fI88 (by decide)
            have k91 : 0 ≤ (I88 0 47).toInt ∧ (I88 0 47).toInt ≤ 119 := by rw [fI88 0 47 (by decide)]; exact (by show 0 ≤ (I80 0 47).toInt ∧ (I80 0 47).toInt ≤ 119; rw [eI80, z_up_n (by decide), eI67, z_up_n (by decide)]; exact hmd.1)
            have k92 : 0 ≤ (I88 0 39).toInt ∧ (I88 0 39).toInt ≤ 100 := by rw [fI88 0 39 (by decide)]; exact (by show 0 ≤ (I80 0 39).toInt ∧ (I80 0 39).toInt ≤ 100; rw [eI80, z_up_n (by decide), eI67, z_up_n (by decide)]; exact hmd.2)
            have k93 : 0 ≤ (I88 0 40).toInt ∧ (I88 0 40).toInt ≤ 6199 := by rw [fI88 0 40 (by decide)]; exact (by show 0 ≤ (I80 0 40).toInt ∧ (I80 0 40).toInt ≤ 6199; rw [eI80, z_up_n (by decide), eI67, z_up_n (by decide)]; exact hmg)
            have k94 : 0 ≤ (I88 0 15).toInt ∧ (I88 0 15).toInt ≤ 6100 := by rw [fI88 0 15 (by decide)]; exact (by show 0 ≤ (I80 0 15).toInt ∧ (I80 0 15).toInt ≤ 6100; rw [eI80, z_up_n (by decide), eI67, z_up_n (by decide)]; exact hmn)
            have k95 : 0 ≤ (I88 0 35).toInt ∧ (I88 0 35).toInt ≤ (I88 0 34).toInt ∧ (I88 0 34).toInt ≤ (I88 0 33).toInt ∧ (I88 0 33).toInt ≤ 500 ∧ ((I88 0 36).toInt = 0 ∨ (I88 0 35).toInt + 1 ≤ (I88 0 34).toInt) := hI88rp
            have k96 : (I88 0 42).toInt = (I 0 42).toInt := by rw [fI88 0 42 (by decide), eI80, z_up_n (by decide), eI67, z_up_n (by decide)]
            have k97 : (I88 0 47).toInt = (I 0 47).toInt := by rw [fI88 0 47 (by decide), eI80, z_up_n (by decide), eI67, z_up_n (by decide)]
            have k98 : (I88 0 39).toInt = (I 0 39).toInt := by rw [fI88 0 39 (by decide), eI80, z_up_n (by decide), eI67, z_up_n (by decide)]
            have k99 : (I88 0 15).toInt = (I 0 15).toInt := by rw [fI88 0 15 (by decide), eI80, z_up_n (by decide), eI67, z_up_n (by decide)]
            have k100 : (I88 0 40).toInt = (I 0 40).toInt := by rw [fI88 0 40 (by decide), eI80, z_up_n (by decide), eI67, z_up_n (by decide)]
            obtain ⟨hp, hp101⟩ := hp
            have h102 := hp
            rw [show (I80 0 34) = (I 0 34) from by rw [eI80, z_up_n (by decide), eI67, z_up_n (by decide)]] at h102
            have hE103 : zm_E gt gv gp ge gh gm n0 gI I88 J90 (.inr (tq + 1, (5, fa, fg, 8) :: FS, fo, fg, NN)) := zm_E_next hSM hE84 (by omega) hp101 fI88 (by decide)
            have h104 := zm_E_W hE103
            have h105 := zm_E_D hE103
            refine lv_aload_n hx hb dX12_test_250 rfl (lv_at hl 0 rfl) ?_
            refine z_get (T := TX12) (N := 96) (ci := 12) (i := 0) (v := .ref (ad 27)) hx hb hts zj_X12_test_X12 hown hK hW rfl rfl 44 (by decide) (hts (.fieldLink RX12 94 "PetrolBoardModel" "at" "[I") (me_s (me_l (me_l (List.mem_of_getElem? (i := 0) rfl))))) (fun _ h => h) rfl dX12_test_251 ?_
            refine lv_iload_n hx hb dX12_test_254 rfl (lv_at hl 1 rfl) ?_
            refine lv_iconst (v := 4) hx hb dX12_test_255 (by decide) ?_
            refine z_iast (i := 27) hx hb hK hW hS rfl (z_ix rfl (by omega) (by omega)) dX12_test_256 (fun H locs hz1 hW hS => ?_)
            obtain ⟨I106, eI106⟩ : ∃ K : z_I, K = z_up I88 27 a1.toNatClampNeg 4 := ⟨_, rfl⟩
            rw [← eI106] at hW
            have f107 := z_fr_a f89 (show z_wa L_X12_test_x 27 = true by decide) eI106
            have a108 := z_Nd_n (z_Nd_fr a82 fI88 (by decide)) (by decide) eI106
            have z109 := z_l4
            have hE110 : zm_E gt gv gp ge gh gm n0 gI I106 J90 (.inr (tq + 1, (5, 4, fg, 8) :: FS, fo, fg, NN)) := zm_E_top hE103 eI106 hdk (Or.inl ⟨rfl, by omega, rfl, rfl, rfl⟩)
            have h111 := zm_E_W hE110
            have h112 := zm_E_D hE110
            refine lv_aload_n hx hb dX12_test_257 rfl (lv_at hl 0 rfl) ?_
            refine lv_iconst (v := 0) hx hb dX12_test_258 (by decide) ?_
            refine z_cv hW hS hA (va_runV (As := [.int 0]) (rest := []) ⟨hx, hb, hml, hown, hts⟩ (sx_X12_begin_x l G ad I106 J90 ⟨(by show 0 ≤ (I106 0 47).toInt ∧ (I106 0 47).toInt ≤ 119; rw [eI106, z_up_n (by decide)]; exact k91), (by show 0 ≤ (I106 0 39).toInt ∧ (I106 0 39).toInt ≤ 100; rw [eI106, z_up_n (by decide)]; exact k92)⟩ 0 (by have q0 : (I106 0 47) = (I88 0 47) := (by rw [eI106, z_up_n (by decide)]); show (I106 0 47).toInt ≤ 118; rw [q0]; omega) _) (cwV 1 hts gX12_test_X12_begin rfl rfl rfl (by decide +kernel) ⟨Nat.le_of_ble_eq_true rfl, Nat.le_of_ble_eq_true rfl⟩) (z_preV (i := 0) hK hW rfl rfl) rfl rfl hl.1 rfl (lv_room (Nat.le_of_ble_eq_true rfl)) dX12_test_259 ⟨Nat.le_of_ble_eq_true rfl, Nat.le_of_ble_eq_true rfl⟩) (fun u1 H locs hp hW hS => ?_)
            obtain ⟨I113, J115, e9, hI113md, fI113, hp⟩ := hp
            rw [e9] at hW
            have f114 := z_fr_sub (L := L_X12_test_x) f107 fI113 (by decide)
            have k116 : 0 ≤ (I113 0 31).toInt ∧ (I113 0 31).toInt ≤ 500 := by rw [fI113 0 31 (by decide)]; exact (by show 0 ≤ (I106 0 31).toInt ∧ (I106 0 31).toInt ≤ 500; rw [eI106, z_up_n (by decide)]; exact hI88mp.1)
            have k117 : 0 ≤ (I113 0 33).toInt ∧ (I113 0 33).toInt ≤ 500 := by rw [fI113 0 33 (by decide)]; exact (by show 0 ≤ (I106 0 33).toInt ∧ (I106 0 33).toInt ≤ 500; rw [eI106, z_up_n (by decide)]; exact hI88mp.2.1)
            have k118 : 0 ≤ (I113 0 34).toInt ∧ (I113 0 34).toInt ≤ 500 := by rw [fI113 0 34 (by decide)]; exact (by show 0 ≤ (I106 0 34).toInt ∧ (I106 0 34).toInt ≤ 500; rw [eI106, z_up_n (by decide)]; exact hI88mp.2.2.1)
            have k119 : 0 ≤ (I113 0 35).toInt ∧ (I113 0 35).toInt ≤ 500 := by rw [fI113 0 35 (by decide)]; exact (by show 0 ≤ (I106 0 35).toInt ∧ (I106 0 35).toInt ≤ 500; rw [eI106, z_up_n (by decide)]; exact hI88mp.2.2.2)
            have k120 : 0 ≤ (I113 0 36).toInt ∧ (I113 0 36).toInt ≤ 4 := by rw [fI113 0 36 (by decide)]; exact (by show 0 ≤ (I106 0 36).toInt ∧ (I106 0 36).toInt ≤ 4; rw [eI106, z_up_n (by decide)]; exact hI88mt.1)
            have k121 : 0 ≤ (I113 0 42).toInt ∧ (I113 0 42).toInt ≤ 1 := by rw [fI113 0 42 (by decide)]; exact (by show 0 ≤ (I106 0 42).toInt ∧ (I106 0 42).toInt ≤ 1; rw [eI106, z_up_n (by decide)]; exact hI88mt.2)
            have k122 : 0 ≤ (I113 0 40).toInt ∧ (I113 0 40).toInt ≤ 6199 := by rw [fI113 0 40 (by decide)]; exact (by show 0 ≤ (I106 0 40).toInt ∧ (I106 0 40).toInt ≤ 6199; rw [eI106, z_up_n (by decide)]; exact k93)
            have k123 : 0 ≤ (I113 0 15).toInt ∧ (I113 0 15).toInt ≤ 6100 := by rw [fI113 0 15 (by decide)]; exact (by show 0 ≤ (I106 0 15).toInt ∧ (I106 0 15).toInt ≤ 6100; rw [eI106, z_up_n (by decide)]; exact k94)
            have k124 : 0 ≤ (I113 0 35).toInt ∧ (I113 0 35).toInt ≤ (I113 0 34).toInt ∧ (I113 0 34).toInt ≤ (I113 0 33).toInt ∧ (I113 0 33).toInt ≤ 500 ∧ ((I113 0 36).toInt = 0 ∨ (I113 0 35).toInt + 1 ≤ (I113 0 34).toInt) := (by have q0 : (I113 0 35) = (I88 0 35) := (by rw [fI113 0 35 (by decide), eI106, z_up_n (by decide)]); have q1 : (I113 0 34) = (I88 0 34) := (by rw [fI113 0 34 (by decide), eI106, z_up_n (by decide)]); have q2 : (I113 0 33) = (I88 0 33) := (by rw [fI113 0 33 (by decide), eI106, z_up_n (by decide)]); have q3 : (I113 0 36) = (I88 0 36) := (by rw [fI113 0 36 (by decide), eI106, z_up_n (by decide)]); show 0 ≤ (I113 0 35).toInt ∧ (I113 0 35).toInt ≤ (I113 0 34).toInt ∧ (I113 0 34).toInt ≤ (I113 0 33).toInt ∧ (I113 0 33).toInt ≤ 500 ∧ ((I113 0 36).toInt = 0 ∨ (I113 0 35).toInt + 1 ≤ (I113 0 34).toInt); rw [q0, q1, q2, q3]; first | omega | decide)
            have k125 : (I113 0 35).toInt = (I88 0 35).toInt := by rw [fI113 0 35 (by decide), eI106, z_up_n (by decide)]
            have k126 : (I113 0 34).toInt = (I88 0 34).toInt := by rw [fI113 0 34 (by decide), eI106, z_up_n (by decide)]
            have k127 : (I113 0 36).toInt = (I88 0 36).toInt := by rw [fI113 0 36 (by decide), eI106, z_up_n (by decide)]
            have k128 : (I113 0 42).toInt = (I88 0 42).toInt := by rw [fI113 0 42 (by decide), eI106, z_up_n (by decide)]
            have k129 : (I113 0 39).toInt = (I88 0 39).toInt := by rw [fI113 0 39 (by decide), eI106, z_up_n (by decide)]
            have k130 : (I113 0 15).toInt = (I88 0 15).toInt := by rw [fI113 0 15 (by decide), eI106, z_up_n (by decide)]
            have k131 : (I113 0 40).toInt = (I88 0 40).toInt := by rw [fI113 0 40 (by decide), eI106, z_up_n (by decide)]
            obtain ⟨hp, hJ132⟩ := hp
            have h133 := hp
            have hE134 : zm_E gt gv gp ge gh gm n0 gI I113 J115 (.inr (tq + 1, (0, 0, -1, 0) :: (5, 4, fg, 8) :: FS, fo, fg, NN)) := zm_E_begin hE110 h133 z_l0 fI113 (by decide) hJ132
            have h135 := zm_E_W hE134
            have h136 := zm_E_D hE134
            refine lv_goto (tgt := 289) hx hb dX12_test_262 (by decide) ?_
            exact z_vret hx hb hr hK hS (Nat.le_of_ble_eq_true rfl) (Nat.le_of_ble_eq_true rfl) hlocks dX12_test_289 (shM, ad, I113, J115, PM ad) hW ⟨I113, J115, rfl, ⟨(by show 0 ≤ (I113 0 31).toInt ∧ (I113 0 31).toInt ≤ 500; exact k116), (by show 0 ≤ (I113 0 33).toInt ∧ (I113 0 33).toInt ≤ 500; exact k117), (by show 0 ≤ (I113 0 34).toInt ∧ (I113 0 34).toInt ≤ 500; exact k118), (by show 0 ≤ (I113 0 35).toInt ∧ (I113 0 35).toInt ≤ 500; exact k119)⟩, ⟨(by show 0 ≤ (I113 0 36).toInt ∧ (I113 0 36).toInt ≤ 4; exact k120), (by show 0 ≤ (I113 0 42).toInt ∧ (I113 0 42).toInt ≤ 1; exact k121)⟩, ⟨(by show 0 ≤ (I113 0 47).toInt ∧ (I113 0 47).toInt ≤ 119; exact hI113md.1), (by show 0 ≤ (I113 0 39).toInt ∧ (I113 0 39).toInt ≤ 100; exact hI113md.2)⟩, (by show 0 ≤ (I113 0 40).toInt ∧ (I113 0 40).toInt ≤ 6199; exact k122), (by show 0 ≤ (I113 0 15).toInt ∧ (I113 0 15).toInt ≤ 6100; exact k123), (z_Nd_fr a108 fI113 (by decide)), (by show 0 ≤ (I113 0 35).toInt ∧ (I113 0 35).toInt ≤ (I113 0 34).toInt ∧ (I113 0 34).toInt ≤ (I113 0 33).toInt ∧ (I113 0 33).toInt ≤ 500 ∧ ((I113 0 36).toInt = 0 ∨ (I113 0 35).toInt + 1 ≤ (I113 0 34).toInt); first | omega | decide), f114, ⟨((Classical.em ((I113 0 42).toInt = 0)).elim (fun hw9 => Or.inr ⟨a1.toNatClampNeg + 2, by have w1 := z_fw_523 (a := va.toInt) (o := vo.toInt) (by omega); have w2 := z_fo_5n (a := va.toInt) (by omega); have w3 := z_fw_514 (a := 4) (o := (I 0 40).toInt) (by omega); have w4 := z_fo_5n (a := 4) (by omega); have w5 := z_fw_00 (a := 0) (o := -1) (by omega); have w6 := z_rk_5; have w7 := z_rk_0; exact z_PUSH (d := a1.toNatClampNeg) (w := 5) (a := 4) (o := (I 0 40).toInt) (s := 8) (wi := 0) hPS (fun i hi => ⟨by rw [eI106, z_up_n (by decide), fI88 26 i (z_wr_c (by decide)), eI80, z_up_n (by decide), eI67, z_up_n (by decide)], by rw [eI106, z_up_k (by omega), fI88 27 i (z_wr_c (by decide)), eI80, z_up_n (by decide), eI67, z_up_n (by decide)], by rw [eI106, z_up_n (by decide), fI88 28 i (z_wr_c (by decide)), eI80, z_up_n (by decide), eI67, z_up_k (by omega)], by rw [eI106, z_up_n (by decide), fI88 29 i (z_wr_c (by decide)), eI80, z_up_k (by omega), eI67, z_up_n (by decide)]⟩) (by rw [show I106 26 a1.toNatClampNeg = vw from (by rw [eI106, z_up_n (by decide), fI88 26 a1.toNatClampNeg (z_wr_c (by decide)), eI80, z_up_n (by decide), eI67, z_up_n (by decide)]; exact evw.symm)]; exact hvw) (by rw [show I106 27 a1.toNatClampNeg = 4 from (by rw [eI106, z_up_s])]; exact z_l4) (by rw [show I106 28 a1.toNatClampNeg = (I 0 40) from (by rw [eI106, z_up_n (by decide), fI88 28 a1.toNatClampNeg (z_wr_c (by decide)), eI80, z_up_n (by decide), eI67, z_up_s])]) (by rw [show I106 29 a1.toNatClampNeg = 8 from (by rw [eI106, z_up_n (by decide), fI88 29 a1.toNatClampNeg (z_wr_c (by decide)), eI80, z_up_s])]; exact z_l8) (by unfold z_fv; omega) hwd (by rw [eI106, z_up_n (by decide)]; omega) h133 z_l0 (by omega) (by omega) (by omega) (by omega) (by omega) (by omega) (by omega) (by omega)⟩) Or.inl), (by have hz9 : zp_st gt gv (n0 : Int) (.inr (tq, (5, fa, fx, fs) :: FS, fo, fg, NN)) = .inr (tq + 1, (0, 0, -1, 0) :: (5, 4, fg, 8) :: FS, fo, fg, NN) := (by first | (simp [zp_st, zp_op, zp_cm, zp_cb, (show fa = 3 by omega), ht76]; done) | (exfalso; omega)); rw [hz9]; exact hE134)⟩⟩
          · have z137 := z_l60
            have ht138 : ¬ gt (tq) = 60 := fun q => h73 (by have q9 := (zm_E_sg (show zp_sg 60 by unfold zp_sg; omega) hE70).mpr q; exact ⟨q9.1, by omega⟩)
            refine lv_if_eq (tgt := 202) hx hb dX12_test_194 (by decide) (fun c139 => ?_) (fun c139 => absurd (by decide) c139)
            refine lv_aload_n hx hb dX12_test_202 rfl (lv_at hl 0 rfl) ?_
            refine lv_bipush (v := 62) hx hb dX12_test_203 (by decide) ?_
            refine z_ci hW hS hA (va_runV (As := [.int 62]) (rest := [.int a1, .ref (ad 29)]) ⟨hx, hb, hml, hown, hts⟩ (sx_X12_isSign_x l G ad I67 J ⟨(by show 0 ≤ (I67 0 36).toInt ∧ (I67 0 36).toInt ≤ 4; rw [eI67, z_up_n (by decide)]; exact hmt.1), (by show 0 ≤ (I67 0 42).toInt ∧ (I67 0 42).toInt ≤ 1; rw [eI67, z_up_n (by decide)]; exact hmt.2)⟩ 62 _) (cwV 1 hts gX12_test_X12_isSign rfl rfl rfl (by decide +kernel) ⟨Nat.le_of_ble_eq_true rfl, Nat.le_of_ble_eq_true rfl⟩) (z_preV (i := 0) hK hW rfl rfl) rfl rfl hl.1 rfl (lv_room (Nat.le_of_ble_eq_true rfl)) dX12_test_205 ⟨Nat.le_of_ble_eq_true rfl, Nat.le_of_ble_eq_true rfl⟩) (fun r u1 H locs hp hW hS => ?_)
            obtain ⟨e9, hp⟩ := hp
            rw [e9] at hW
            rcases hp with ⟨rfl, h140, h141⟩ | ⟨rfl, h140⟩
            · have z142 := z_l62
              have ht143 : gt (tq) = 62 := (zm_E_sg (show zp_sg 62 by unfold zp_sg; omega) hE70).mp ⟨h140, by omega⟩
              have h144 := h140
              rw [show (I67 0 36) = (I 0 36) from by rw [eI67, z_up_n (by decide)]] at h144
              have h145 : (I 0 35).toInt + 1 ≤ (I 0 34).toInt := by omega
              refine lv_if_eq (tgt := 216) hx hb dX12_test_208 (by decide) (fun c146 => absurd c146 (by decide)) (fun c146 => ?_)
              refine lv_bipush (v := 9) hx hb dX12_test_211 (by decide) ?_
              refine lv_goto (tgt := 231) hx hb dX12_test_213 (by decide) ?_
              refine z_iast (i := 29) hx hb hK hW hS rfl (z_ix rfl (by omega) (by omega)) dX12_test_231 (fun H locs hz1 hW hS => ?_)
              obtain ⟨I147, eI147⟩ : ∃ K : z_I, K = z_up I67 29 a1.toNatClampNeg 9 := ⟨_, rfl⟩
              rw [← eI147] at hW
              have f148 := z_fr_a f68 (show z_wa L_X12_test_x 29 = true by decide) eI147
              have a149 := z_Nd_n a69 (by decide) eI147
              have z150 := z_l9
              have hE151 : zm_E gt gv gp ge gh gm n0 gI I147 J (.inr (tq, (5, fa, fg, 9) :: FS, fo, fg, NN)) := zm_E_top hE70 eI147 hdk (Or.inr (Or.inr ⟨rfl, by omega, rfl, rfl, rfl⟩))
              have h152 := zm_E_W hE151
              have h153 := zm_E_D hE151
              refine lv_aload_n hx hb dX12_test_232 rfl (lv_at hl 0 rfl) ?_
              refine z_get (T := TX12) (N := 96) (ci := 12) (i := 0) (v := .ref (ad 29)) hx hb hts zj_X12_test_X12 hown hK hW rfl rfl 46 (by decide) (hts (.fieldLink RX12 100 "PetrolBoardModel" "sort" "[I") (me_s (me_l (me_l (List.mem_of_getElem? (i := 6) rfl))))) (fun _ h => h) rfl dX12_test_233 ?_
              refine lv_iload_n hx hb dX12_test_236 rfl (lv_at hl 1 rfl) ?_
              refine z_iald (i := 29) hx hb hK hW rfl (z_ix rfl (by omega) (by omega)) dX12_test_237 ?_
              refine z_topi (v := 9) (by rw [eI147, z_up_s]) ?_
              refine lv_if_ne (tgt := 246) hx hb dX12_test_238 (by decide) (fun c154 => ?_) (fun c154 => absurd c154 (by decide))
              refine lv_aload_n hx hb dX12_test_246 rfl (lv_at hl 0 rfl) ?_
              refine z_cv hW hS hA (va_runV (As := []) (rest := []) ⟨hx, hb, hml, hown, hts⟩ (sx_X12_next_x l G ad I147 J ⟨(by show 0 ≤ (I147 0 31).toInt ∧ (I147 0 31).toInt ≤ 500; rw [eI147, z_up_n (by decide), eI67, z_up_n (by decide)]; exact hmp.1), (by show 0 ≤ (I147 0 33).toInt ∧ (I147 0 33).toInt ≤ 500; rw [eI147, z_up_n (by decide), eI67, z_up_n (by decide)]; exact hmp.2.1), (by show 0 ≤ (I147 0 34).toInt ∧ (I147 0 34).toInt ≤ 500; rw [eI147, z_up_n (by decide), eI67, z_up_n (by decide)]; exact hmp.2.2.1), (by show 0 ≤ (I147 0 35).toInt ∧ (I147 0 35).toInt ≤ 500; rw [eI147, z_up_n (by decide), eI67, z_up_n (by decide)]; exact hmp.2.2.2)⟩ ⟨(by show 0 ≤ (I147 0 36).toInt ∧ (I147 0 36).toInt ≤ 4; rw [eI147, z_up_n (by decide), eI67, z_up_n (by decide)]; exact hmt.1), (by show 0 ≤ (I147 0 42).toInt ∧ (I147 0 42).toInt ≤ 1; rw [eI147, z_up_n (by decide), eI67, z_up_n (by decide)]; exact hmt.2)⟩ (by have q0 : (I147 0 34) = (I 0 34) := (by rw [eI147, z_up_n (by decide), eI67, z_up_n (by decide)]); have q1 : (I147 0 33) = (I 0 33) := (by rw [eI147, z_up_n (by decide), eI67, z_up_n (by decide)]); show 0 ≤ (I147 0 34).toInt ∧ (I147 0 34).toInt ≤ (I147 0 33).toInt ∧ (I147 0 33).toInt ≤ 500; rw [q0, q1]; first | omega | decide)  _) (cwV 0 hts gX12_test_X12_next rfl rfl rfl (by decide +kernel) ⟨Nat.le_of_ble_eq_true rfl, Nat.le_of_ble_eq_true rfl⟩) (z_preV (i := 0) hK hW rfl rfl) rfl rfl hl.1 rfl (lv_room (Nat.le_of_ble_eq_true rfl)) dX12_test_247 ⟨Nat.le_of_ble_eq_true rfl, Nat.le_of_ble_eq_true rfl⟩) (fun u1 H locs hp hW hS => ?_)
              obtain ⟨I155, J157, e9, hI155mp, hI155mt, hI155rp, fI155, hp⟩ := hp
              rw [e9] at hW
              have f156 := z_fr_sub (L := L_X12_test_x) f148 fI155 (by decide)
              have k158 : 0 ≤ (I155 0 47).toInt ∧ (I155 0 47).toInt ≤ 119 := by rw [fI155 0 47 (by decide)]; exact (by show 0 ≤ (I147 0 47).toInt ∧ (I147 0 47).toInt ≤ 119; rw [eI147, z_up_n (by decide), eI67, z_up_n (by decide)]; exact hmd.1)
              have k159 : 0 ≤ (I155 0 39).toInt ∧ (I155 0 39).toInt ≤ 100 := by rw [fI155 0 39 (by decide)]; exact (by show 0 ≤ (I147 0 39).toInt ∧ (I147 0 39).toInt ≤ 100; rw [eI147, z_up_n (by decide), eI67, z_up_n (by decide)]; exact hmd.2)
              have k160 : 0 ≤ (I155 0 40).toInt ∧ (I155 0 40).toInt ≤ 6199 := by rw [fI155 0 40 (by decide)]; exact (by show 0 ≤ (I147 0 40).toInt ∧ (I147 0 40).toInt ≤ 6199; rw [eI147, z_up_n (by decide), eI67, z_up_n (by decide)]; exact hmg)
              have k161 : 0 ≤ (I155 0 15).toInt ∧ (I155 0 15).toInt ≤ 6100 := by rw [fI155 0 15 (by decide)]; exact (by show 0 ≤ (I147 0 15).toInt ∧ (I147 0 15).toInt ≤ 6100; rw [eI147, z_up_n (by decide), eI67, z_up_n (by decide)]; exact hmn)
              have k162 : 0 ≤ (I155 0 35).toInt ∧ (I155 0 35).toInt ≤ (I155 0 34).toInt ∧ (I155 0 34).toInt ≤ (I155 0 33).toInt ∧ (I155 0 33).toInt ≤ 500 ∧ ((I155 0 36).toInt = 0 ∨ (I155 0 35).toInt + 1 ≤ (I155 0 34).toInt) := hI155rp
              have k163 : (I155 0 42).toInt = (I 0 42).toInt := by rw [fI155 0 42 (by decide), eI147, z_up_n (by decide), eI67, z_up_n (by decide)]
              have k164 : (I155 0 47).toInt = (I 0 47).toInt := by rw [fI155 0 47 (by decide), eI147, z_up_n (by decide), eI67, z_up_n (by decide)]
              have k165 : (I155 0 39).toInt = (I 0 39).toInt := by rw [fI155 0 39 (by decide), eI147, z_up_n (by decide), eI67, z_up_n (by decide)]
              have k166 : (I155 0 15).toInt = (I 0 15).toInt := by rw [fI155 0 15 (by decide), eI147, z_up_n (by decide), eI67, z_up_n (by decide)]
              have k167 : (I155 0 40).toInt = (I 0 40).toInt := by rw [fI155 0 40 (by decide), eI147, z_up_n (by decide), eI67, z_up_n (by decide)]
              obtain ⟨hp, hp168⟩ := hp
              have h169 := hp
              rw [show (I147 0 34) = (I 0 34) from by rw [eI147, z_up_n (by decide), eI67, z_up_n (by decide)]] at h169
              have hE170 : zm_E gt gv gp ge gh gm n0 gI I155 J157 (.inr (tq + 1, (5, fa, fg, 9) :: FS, fo, fg, NN)) := zm_E_next hSM hE151 (by omega) hp168 fI155 (by decide)
              have h171 := zm_E_W hE170
              have h172 := zm_E_D hE170
              refine lv_aload_n hx hb dX12_test_250 rfl (lv_at hl 0 rfl) ?_
              refine z_get (T := TX12) (N := 96) (ci := 12) (i := 0) (v := .ref (ad 27)) hx hb hts zj_X12_test_X12 hown hK hW rfl rfl 44 (by decide) (hts (.fieldLink RX12 94 "PetrolBoardModel" "at" "[I") (me_s (me_l (me_l (List.mem_of_getElem? (i := 0) rfl))))) (fun _ h => h) rfl dX12_test_251 ?_
              refine lv_iload_n hx hb dX12_test_254 rfl (lv_at hl 1 rfl) ?_
              refine lv_iconst (v := 4) hx hb dX12_test_255 (by decide) ?_
              refine z_iast (i := 27) hx hb hK hW hS rfl (z_ix rfl (by omega) (by omega)) dX12_test_256 (fun H locs hz1 hW hS => ?_)
              obtain ⟨I173, eI173⟩ : ∃ K : z_I, K = z_up I155 27 a1.toNatClampNeg 4 := ⟨_, rfl⟩
              rw [← eI173] at hW
              have f174 := z_fr_a f156 (show z_wa L_X12_test_x 27 = true by decide) eI173
              have a175 := z_Nd_n (z_Nd_fr a149 fI155 (by decide)) (by decide) eI173
              have z176 := z_l4
              have hE177 : zm_E gt gv gp ge gh gm n0 gI I173 J157 (.inr (tq + 1, (5, 4, fg, 9) :: FS, fo, fg, NN)) := zm_E_top hE170 eI173 hdk (Or.inl ⟨rfl, by omega, rfl, rfl, rfl⟩)
              have h178 := zm_E_W hE177
              have h179 := zm_E_D hE177
              refine lv_aload_n hx hb dX12_test_257 rfl (lv_at hl 0 rfl) ?_
              refine lv_iconst (v := 0) hx hb dX12_test_258 (by decide) ?_
              refine z_cv hW hS hA (va_runV (As := [.int 0]) (rest := []) ⟨hx, hb, hml, hown, hts⟩ (sx_X12_begin_x l G ad I173 J157 ⟨(by show 0 ≤ (I173 0 47).toInt ∧ (I173 0 47).toInt ≤ 119; rw [eI173, z_up_n (by decide)]; exact k158), (by show 0 ≤ (I173 0 39).toInt ∧ (I173 0 39).toInt ≤ 100; rw [eI173, z_up_n (by decide)]; exact k159)⟩ 0 (by have q0 : (I173 0 47) = (I155 0 47) := (by rw [eI173, z_up_n (by decide)]); show (I173 0 47).toInt ≤ 118; rw [q0]; omega) _) (cwV 1 hts gX12_test_X12_begin rfl rfl rfl (by decide +kernel) ⟨Nat.le_of_ble_eq_true rfl, Nat.le_of_ble_eq_true rfl⟩) (z_preV (i := 0) hK hW rfl rfl) rfl rfl hl.1 rfl (lv_room (Nat.le_of_ble_eq_true rfl)) dX12_test_259 ⟨Nat.le_of_ble_eq_true rfl, Nat.le_of_ble_eq_true rfl⟩) (fun u1 H locs hp hW hS => ?_)
              obtain ⟨I180, J182, e9, hI180md, fI180, hp⟩ := hp
              rw [e9] at hW
              have f181 := z_fr_sub (L := L_X12_test_x) f174 fI180 (by decide)
              have k183 : 0 ≤ (I180 0 31).toInt ∧ (I180 0 31).toInt ≤ 500 := by rw [fI180 0 31 (by decide)]; exact (by show 0 ≤ (I173 0 31).toInt ∧ (I173 0 31).toInt ≤ 500; rw [eI173, z_up_n (by decide)]; exact hI155mp.1)
              have k184 : 0 ≤ (I180 0 33).toInt ∧ (I180 0 33).toInt ≤ 500 := by rw [fI180 0 33 (by decide)]; exact (by show 0 ≤ (I173 0 33).toInt ∧ (I173 0 33).toInt ≤ 500; rw [eI173, z_up_n (by decide)]; exact hI155mp.2.1)
              have k185 : 0 ≤ (I180 0 34).toInt ∧ (I180 0 34).toInt ≤ 500 := by rw [fI180 0 34 (by decide)]; exact (by show 0 ≤ (I173 0 34).toInt ∧ (I173 0 34).toInt ≤ 500; rw [eI173, z_up_n (by decide)]; exact hI155mp.2.2.1)
              have k186 : 0 ≤ (I180 0 35).toInt ∧ (I180 0 35).toInt ≤ 500 := by rw [fI180 0 35 (by decide)]; exact (by show 0 ≤ (I173 0 35).toInt ∧ (I173 0 35).toInt ≤ 500; rw [eI173, z_up_n (by decide)]; exact hI155mp.2.2.2)
              have k187 : 0 ≤ (I180 0 36).toInt ∧ (I180 0 36).toInt ≤ 4 := by rw [fI180 0 36 (by decide)]; exact (by show 0 ≤ (I173 0 36).toInt ∧ (I173 0 36).toInt ≤ 4; rw [eI173, z_up_n (by decide)]; exact hI155mt.1)
              have k188 : 0 ≤ (I180 0 42).toInt ∧ (I180 0 42).toInt ≤ 1 := by rw [fI180 0 42 (by decide)]; exact (by show 0 ≤ (I173 0 42).toInt ∧ (I173 0 42).toInt ≤ 1; rw [eI173, z_up_n (by decide)]; exact hI155mt.2)
              have k189 : 0 ≤ (I180 0 40).toInt ∧ (I180 0 40).toInt ≤ 6199 := by rw [fI180 0 40 (by decide)]; exact (by show 0 ≤ (I173 0 40).toInt ∧ (I173 0 40).toInt ≤ 6199; rw [eI173, z_up_n (by decide)]; exact k160)
              have k190 : 0 ≤ (I180 0 15).toInt ∧ (I180 0 15).toInt ≤ 6100 := by rw [fI180 0 15 (by decide)]; exact (by show 0 ≤ (I173 0 15).toInt ∧ (I173 0 15).toInt ≤ 6100; rw [eI173, z_up_n (by decide)]; exact k161)
              have k191 : 0 ≤ (I180 0 35).toInt ∧ (I180 0 35).toInt ≤ (I180 0 34).toInt ∧ (I180 0 34).toInt ≤ (I180 0 33).toInt ∧ (I180 0 33).toInt ≤ 500 ∧ ((I180 0 36).toInt = 0 ∨ (I180 0 35).toInt + 1 ≤ (I180 0 34).toInt) := (by have q0 : (I180 0 35) = (I155 0 35) := (by rw [fI180 0 35 (by decide), eI173, z_up_n (by decide)]); have q1 : (I180 0 34) = (I155 0 34) := (by rw [fI180 0 34 (by decide), eI173, z_up_n (by decide)]); have q2 : (I180 0 33) = (I155 0 33) := (by rw [fI180 0 33 (by decide), eI173, z_up_n (by decide)]); have q3 : (I180 0 36) = (I155 0 36) := (by rw [fI180 0 36 (by decide), eI173, z_up_n (by decide)]); show 0 ≤ (I180 0 35).toInt ∧ (I180 0 35).toInt ≤ (I180 0 34).toInt ∧ (I180 0 34).toInt ≤ (I180 0 33).toInt ∧ (I180 0 33).toInt ≤ 500 ∧ ((I180 0 36).toInt = 0 ∨ (I180 0 35).toInt + 1 ≤ (I180 0 34).toInt); rw [q0, q1, q2, q3]; first | omega | decide)
              have k192 : (I180 0 35).toInt = (I155 0 35).toInt := by rw [fI180 0 35 (by decide), eI173, z_up_n (by decide)]
              have k193 : (I180 0 34).toInt = (I155 0 34).toInt := by rw [fI180 0 34 (by decide), eI173, z_up_n (by decide)]
              have k194 : (I180 0 36).toInt = (I155 0 36).toInt := by rw [fI180 0 36 (by decide), eI173, z_up_n (by decide)]
              have k195 : (I180 0 42).toInt = (I155 0 42).toInt := by rw [fI180 0 42 (by decide), eI173, z_up_n (by decide)]
              have k196 : (I180 0 39).toInt = (I155 0 39).toInt := by rw [fI180 0 39 (by decide), eI173, z_up_n (by decide)]
              have k197 : (I180 0 15).toInt = (I155 0 15).toInt := by rw [fI180 0 15 (by decide), eI173, z_up_n (by decide)]
              have k198 : (I180 0 40).toInt = (I155 0 40).toInt := by rw [fI180 0 40 (by decide), eI173, z_up_n (by decide)]
              obtain ⟨hp, hJ199⟩ := hp
              have h200 := hp
              have hE201 : zm_E gt gv gp ge gh gm n0 gI I180 J182 (.inr (tq + 1, (0, 0, -1, 0) :: (5, 4, fg, 9) :: FS, fo, fg, NN)) := zm_E_begin hE177 h200 z_l0 fI180 (by decide) hJ199
              have h202 := zm_E_W hE201
              have h203 := zm_E_D hE201
              refine lv_goto (tgt := 289) hx hb dX12_test_262 (by decide) ?_
              exact z_vret hx hb hr hK hS (Nat.le_of_ble_eq_true rfl) (Nat.le_of_ble_eq_true rfl) hlocks dX12_test_289 (shM, ad, I180, J182, PM ad) hW ⟨I180, J182, rfl, ⟨(by show 0 ≤ (I180 0 31).toInt ∧ (I180 0 31).toInt ≤ 500; exact k183), (by show 0 ≤ (I180 0 33).toInt ∧ (I180 0 33).toInt ≤ 500; exact k184), (by show 0 ≤ (I180 0 34).toInt ∧ (I180 0 34).toInt ≤ 500; exact k185), (by show 0 ≤ (I180 0 35).toInt ∧ (I180 0 35).toInt ≤ 500; exact k186)⟩, ⟨(by show 0 ≤ (I180 0 36).toInt ∧ (I180 0 36).toInt ≤ 4; exact k187), (by show 0 ≤ (I180 0 42).toInt ∧ (I180 0 42).toInt ≤ 1; exact k188)⟩, ⟨(by show 0 ≤ (I180 0 47).toInt ∧ (I180 0 47).toInt ≤ 119; exact hI180md.1), (by show 0 ≤ (I180 0 39).toInt ∧ (I180 0 39).toInt ≤ 100; exact hI180md.2)⟩, (by show 0 ≤ (I180 0 40).toInt ∧ (I180 0 40).toInt ≤ 6199; exact k189), (by show 0 ≤ (I180 0 15).toInt ∧ (I180 0 15).toInt ≤ 6100; exact k190), (z_Nd_fr a175 fI180 (by decide)), (by show 0 ≤ (I180 0 35).toInt ∧ (I180 0 35).toInt ≤ (I180 0 34).toInt ∧ (I180 0 34).toInt ≤ (I180 0 33).toInt ∧ (I180 0 33).toInt ≤ 500 ∧ ((I180 0 36).toInt = 0 ∨ (I180 0 35).toInt + 1 ≤ (I180 0 34).toInt); first | omega | decide), f181, ⟨((Classical.em ((I180 0 42).toInt = 0)).elim (fun hw9 => Or.inr ⟨a1.toNatClampNeg + 2, by have w1 := z_fw_523 (a := va.toInt) (o := vo.toInt) (by omega); have w2 := z_fo_5n (a := va.toInt) (by omega); have w3 := z_fw_514 (a := 4) (o := (I 0 40).toInt) (by omega); have w4 := z_fo_5n (a := 4) (by omega); have w5 := z_fw_00 (a := 0) (o := -1) (by omega); have w6 := z_rk_5; have w7 := z_rk_0; exact z_PUSH (d := a1.toNatClampNeg) (w := 5) (a := 4) (o := (I 0 40).toInt) (s := 9) (wi := 0) hPS (fun i hi => ⟨by rw [eI173, z_up_n (by decide), fI155 26 i (z_wr_c (by decide)), eI147, z_up_n (by decide), eI67, z_up_n (by decide)], by rw [eI173, z_up_k (by omega), fI155 27 i (z_wr_c (by decide)), eI147, z_up_n (by decide), eI67, z_up_n (by decide)], by rw [eI173, z_up_n (by decide), fI155 28 i (z_wr_c (by decide)), eI147, z_up_n (by decide), eI67, z_up_k (by omega)], by rw [eI173, z_up_n (by decide), fI155 29 i (z_wr_c (by decide)), eI147, z_up_k (by omega), eI67, z_up_n (by decide)]⟩) (by rw [show I173 26 a1.toNatClampNeg = vw from (by rw [eI173, z_up_n (by decide), fI155 26 a1.toNatClampNeg (z_wr_c (by decide)), eI147, z_up_n (by decide), eI67, z_up_n (by decide)]; exact evw.symm)]; exact hvw) (by rw [show I173 27 a1.toNatClampNeg = 4 from (by rw [eI173, z_up_s])]; exact z_l4) (by rw [show I173 28 a1.toNatClampNeg = (I 0 40) from (by rw [eI173, z_up_n (by decide), fI155 28 a1.toNatClampNeg (z_wr_c (by decide)), eI147, z_up_n (by decide), eI67, z_up_s])]) (by rw [show I173 29 a1.toNatClampNeg = 9 from (by rw [eI173, z_up_n (by decide), fI155 29 a1.toNatClampNeg (z_wr_c (by decide)), eI147, z_up_s])]; exact z_l9) (by unfold z_fv; omega) hwd (by rw [eI173, z_up_n (by decide)]; omega) h200 z_l0 (by omega) (by omega) (by omega) (by omega) (by omega) (by omega) (by omega) (by omega)⟩) Or.inl), (by have hz9 : zp_st gt gv (n0 : Int) (.inr (tq, (5, fa, fx, fs) :: FS, fo, fg, NN)) = .inr (tq + 1, (0, 0, -1, 0) :: (5, 4, fg, 9) :: FS, fo, fg, NN) := (by first | (simp [zp_st, zp_op, zp_cm, zp_cb, (show fa = 3 by omega), ht138, ht143]; done) | (exfalso; omega)); rw [hz9]; exact hE201)⟩⟩
            · have z204 := z_l62
              have ht205 : ¬ gt (tq) = 62 := fun q => h140 (by have q9 := (zm_E_sg (show zp_sg 62 by unfold zp_sg; omega) hE70).mpr q; exact ⟨q9.1, by omega⟩)
              refine lv_if_eq (tgt := 216) hx hb dX12_test_208 (by decide) (fun c206 => ?_) (fun c206 => absurd (by decide) c206)
              refine lv_aload_n hx hb dX12_test_216 rfl (lv_at hl 0 rfl) ?_
              refine lv_bipush (v := 61) hx hb dX12_test_217 (by decide) ?_
              refine z_ci hW hS hA (va_runV (As := [.int 61]) (rest := [.int a1, .ref (ad 29)]) ⟨hx, hb, hml, hown, hts⟩ (sx_X12_isSign_x l G ad I67 J ⟨(by show 0 ≤ (I67 0 36).toInt ∧ (I67 0 36).toInt ≤ 4; rw [eI67, z_up_n (by decide)]; exact hmt.1), (by show 0 ≤ (I67 0 42).toInt ∧ (I67 0 42).toInt ≤ 1; rw [eI67, z_up_n (by decide)]; exact hmt.2)⟩ 61 _) (cwV 1 hts gX12_test_X12_isSign rfl rfl rfl (by decide +kernel) ⟨Nat.le_of_ble_eq_true rfl, Nat.le_of_ble_eq_true rfl⟩) (z_preV (i := 0) hK hW rfl rfl) rfl rfl hl.1 rfl (lv_room (Nat.le_of_ble_eq_true rfl)) dX12_test_219 ⟨Nat.le_of_ble_eq_true rfl, Nat.le_of_ble_eq_true rfl⟩) (fun r u1 H locs hp hW hS => ?_)
              obtain ⟨e9, hp⟩ := hp
              rw [e9] at hW
              rcases hp with ⟨rfl, h207, h208⟩ | ⟨rfl, h207⟩
              · have z209 := z_l61
                have ht210 : gt (tq) = 61 := (zm_E_sg (show zp_sg 61 by unfold zp_sg; omega) hE70).mp ⟨h207, by omega⟩
                have h211 := h207
                rw [show (I67 0 36) = (I 0 36) from by rw [eI67, z_up_n (by decide)]] at h211
                have h212 : (I 0 35).toInt + 1 ≤ (I 0 34).toInt := by omega
                refine lv_if_eq (tgt := 230) hx hb dX12_test_222 (by decide) (fun c213 => absurd c213 (by decide)) (fun c213 => ?_)
                refine lv_bipush (v := 10) hx hb dX12_test_225 (by decide) ?_
                refine lv_goto (tgt := 231) hx hb dX12_test_227 (by decide) ?_
                refine z_iast (i := 29) hx hb hK hW hS rfl (z_ix rfl (by omega) (by omega)) dX12_test_231 (fun H locs hz1 hW hS => ?_)
                obtain ⟨I214, eI214⟩ : ∃ K : z_I, K = z_up I67 29 a1.toNatClampNeg 10 := ⟨_, rfl⟩
                rw [← eI214] at hW
                have f215 := z_fr_a f68 (show z_wa L_X12_test_x 29 = true by decide) eI214
                have a216 := z_Nd_n a69 (by decide) eI214
                have z217 := z_l10
                have hE218 : zm_E gt gv gp ge gh gm n0 gI I214 J (.inr (tq, (5, fa, fg, 10) :: FS, fo, fg, NN)) := zm_E_top hE70 eI214 hdk (Or.inr (Or.inr ⟨rfl, by omega, rfl, rfl, rfl⟩))
                have h219 := zm_E_W hE218
                have h220 := zm_E_D hE218
                refine lv_aload_n hx hb dX12_test_232 rfl (lv_at hl 0 rfl) ?_
                refine z_get (T := TX12) (N := 96) (ci := 12) (i := 0) (v := .ref (ad 29)) hx hb hts zj_X12_test_X12 hown hK hW rfl rfl 46 (by decide) (hts (.fieldLink RX12 100 "PetrolBoardModel" "sort" "[I") (me_s (me_l (me_l (List.mem_of_getElem? (i := 6) rfl))))) (fun _ h => h) rfl dX12_test_233 ?_
                refine lv_iload_n hx hb dX12_test_236 rfl (lv_at hl 1 rfl) ?_
                refine z_iald (i := 29) hx hb hK hW rfl (z_ix rfl (by omega) (by omega)) dX12_test_237 ?_
                refine z_topi (v := 10) (by rw [eI214, z_up_s]) ?_
                refine lv_if_ne (tgt := 246) hx hb dX12_test_238 (by decide) (fun c221 => ?_) (fun c221 => absurd c221 (by decide))
                refine lv_aload_n hx hb dX12_test_246 rfl (lv_at hl 0 rfl) ?_
                refine z_cv hW hS hA (va_runV (As := []) (rest := []) ⟨hx, hb, hml, hown, hts⟩ (sx_X12_next_x l G ad I214 J ⟨(by show 0 ≤ (I214 0 31).toInt ∧ (I214 0 31).toInt ≤ 500; rw [eI214, z_up_n (by decide), eI67, z_up_n (by decide)]; exact hmp.1), (by show 0 ≤ (I214 0 33).toInt ∧ (I214 0 33).toInt ≤ 500; rw [eI214, z_up_n (by decide), eI67, z_up_n (by decide)]; exact hmp.2.1), (by show 0 ≤ (I214 0 34).toInt ∧ (I214 0 34).toInt ≤ 500; rw [eI214, z_up_n (by decide), eI67, z_up_n (by decide)]; exact hmp.2.2.1), (by show 0 ≤ (I214 0 35).toInt ∧ (I214 0 35).toInt ≤ 500; rw [eI214, z_up_n (by decide), eI67, z_up_n (by decide)]; exact hmp.2.2.2)⟩ ⟨(by show 0 ≤ (I214 0 36).toInt ∧ (I214 0 36).toInt ≤ 4; rw [eI214, z_up_n (by decide), eI67, z_up_n (by decide)]; exact hmt.1), (by show 0 ≤ (I214 0 42).toInt ∧ (I214 0 42).toInt ≤ 1; rw [eI214, z_up_n (by decide), eI67, z_up_n (by decide)]; exact hmt.2)⟩ (by have q0 : (I214 0 34) = (I 0 34) := (by rw [eI214, z_up_n (by decide), eI67, z_up_n (by decide)]); have q1 : (I214 0 33) = (I 0 33) := (by rw [eI214, z_up_n (by decide), eI67, z_up_n (by decide)]); show 0 ≤ (I214 0 34).toInt ∧ (I214 0 34).toInt ≤ (I214 0 33).toInt ∧ (I214 0 33).toInt ≤ 500; rw [q0, q1]; first | omega | decide)  _) (cwV 0 hts gX12_test_X12_next rfl rfl rfl (by decide +kernel) ⟨Nat.le_of_ble_eq_true rfl, Nat.le_of_ble_eq_true rfl⟩) (z_preV (i := 0) hK hW rfl rfl) rfl rfl hl.1 rfl (lv_room (Nat.le_of_ble_eq_true rfl)) dX12_test_247 ⟨Nat.le_of_ble_eq_true rfl, Nat.le_of_ble_eq_true rfl⟩) (fun u1 H locs hp hW hS => ?_)
                obtain ⟨I222, J224, e9, hI222mp, hI222mt, hI222rp, fI222, hp⟩ := hp
                rw [e9] at hW
                have f223 := z_fr_sub (L := L_X12_test_x) f215 fI222 (by decide)
                have k225 : 0 ≤ (I222 0 47).toInt ∧ (I222 0 47).toInt ≤ 119 := by rw [fI222 0 47 (by decide)]; exact (by show 0 ≤ (I214 0 47).toInt ∧ (I214 0 47).toInt ≤ 119; rw [eI214, z_up_n (by decide), eI67, z_up_n (by decide)]; exact hmd.1)
                have k226 : 0 ≤ (I222 0 39).toInt ∧ (I222 0 39).toInt ≤ 100 := by rw [fI222 0 39 (by decide)]; exact (by show 0 ≤ (I214 0 39).toInt ∧ (I214 0 39).toInt ≤ 100; rw [eI214, z_up_n (by decide), eI67, z_up_n (by decide)]; exact hmd.2)
                have k227 : 0 ≤ (I222 0 40).toInt ∧ (I222 0 40).toInt ≤ 6199 := by rw [fI222 0 40 (by decide)]; exact (by show 0 ≤ (I214 0 40).toInt ∧ (I214 0 40).toInt ≤ 6199; rw [eI214, z_up_n (by decide), eI67, z_up_n (by decide)]; exact hmg)
                have k228 : 0 ≤ (I222 0 15).toInt ∧ (I222 0 15).toInt ≤ 6100 := by rw [fI222 0 15 (by decide)]; exact (by show 0 ≤ (I214 0 15).toInt ∧ (I214 0 15).toInt ≤ 6100; rw [eI214, z_up_n (by decide), eI67, z_up_n (by decide)]; exact hmn)
                have k229 : 0 ≤ (I222 0 35).toInt ∧ (I222 0 35).toInt ≤ (I222 0 34).toInt ∧ (I222 0 34).toInt ≤ (I222 0 33).toInt ∧ (I222 0 33).toInt ≤ 500 ∧ ((I222 0 36).toInt = 0 ∨ (I222 0 35).toInt + 1 ≤ (I222 0 34).toInt) := hI222rp
                have k230 : (I222 0 42).toInt = (I 0 42).toInt := by rw [fI222 0 42 (by decide), eI214, z_up_n (by decide), eI67, z_up_n (by decide)]
                have k231 : (I222 0 47).toInt = (I 0 47).toInt := by rw [fI222 0 47 (by decide), eI214, z_up_n (by decide), eI67, z_up_n (by decide)]
                have k232 : (I222 0 39).toInt = (I 0 39).toInt := by rw [fI222 0 39 (by decide), eI214, z_up_n (by decide), eI67, z_up_n (by decide)]
                have k233 : (I222 0 15).toInt = (I 0 15).toInt := by rw [fI222 0 15 (by decide), eI214, z_up_n (by decide), eI67, z_up_n (by decide)]
                have k234 : (I222 0 40).toInt = (I 0 40).toInt := by rw [fI222 0 40 (by decide), eI214, z_up_n (by decide), eI67, z_up_n (by decide)]
                obtain ⟨hp, hp235⟩ := hp
                have h236 := hp
                rw [show (I214 0 34) = (I 0 34) from by rw [eI214, z_up_n (by decide), eI67, z_up_n (by decide)]] at h236
                have hE237 : zm_E gt gv gp ge gh gm n0 gI I222 J224 (.inr (tq + 1, (5, fa, fg, 10) :: FS, fo, fg, NN)) := zm_E_next hSM hE218 (by omega) hp235 fI222 (by decide)
                have h238 := zm_E_W hE237
                have h239 := zm_E_D hE237
                refine lv_aload_n hx hb dX12_test_250 rfl (lv_at hl 0 rfl) ?_
                refine z_get (T := TX12) (N := 96) (ci := 12) (i := 0) (v := .ref (ad 27)) hx hb hts zj_X12_test_X12 hown hK hW rfl rfl 44 (by decide) (hts (.fieldLink RX12 94 "PetrolBoardModel" "at" "[I") (me_s (me_l (me_l (List.mem_of_getElem? (i := 0) rfl))))) (fun _ h => h) rfl dX12_test_251 ?_
                refine lv_iload_n hx hb dX12_test_254 rfl (lv_at hl 1 rfl) ?_
                refine lv_iconst (v := 4) hx hb dX12_test_255 (by decide) ?_
                refine z_iast (i := 27) hx hb hK hW hS rfl (z_ix rfl (by omega) (by omega)) dX12_test_256 (fun H locs hz1 hW hS => ?_)
                obtain ⟨I240, eI240⟩ : ∃ K : z_I, K = z_up I222 27 a1.toNatClampNeg 4 := ⟨_, rfl⟩
                rw [← eI240] at hW
                have f241 := z_fr_a f223 (show z_wa L_X12_test_x 27 = true by decide) eI240
                have a242 := z_Nd_n (z_Nd_fr a216 fI222 (by decide)) (by decide) eI240
                have z243 := z_l4
                have hE244 : zm_E gt gv gp ge gh gm n0 gI I240 J224 (.inr (tq + 1, (5, 4, fg, 10) :: FS, fo, fg, NN)) := zm_E_top hE237 eI240 hdk (Or.inl ⟨rfl, by omega, rfl, rfl, rfl⟩)
                have h245 := zm_E_W hE244
                have h246 := zm_E_D hE244
                refine lv_aload_n hx hb dX12_test_257 rfl (lv_at hl 0 rfl) ?_
                refine lv_iconst (v := 0) hx hb dX12_test_258 (by decide) ?_
                refine z_cv hW hS hA (va_runV (As := [.int 0]) (rest := []) ⟨hx, hb, hml, hown, hts⟩ (sx_X12_begin_x l G ad I240 J224 ⟨(by show 0 ≤ (I240 0 47).toInt ∧ (I240 0 47).toInt ≤ 119; rw [eI240, z_up_n (by decide)]; exact k225), (by show 0 ≤ (I240 0 39).toInt ∧ (I240 0 39).toInt ≤ 100; rw [eI240, z_up_n (by decide)]; exact k226)⟩ 0 (by have q0 : (I240 0 47) = (I222 0 47) := (by rw [eI240, z_up_n (by decide)]); show (I240 0 47).toInt ≤ 118; rw [q0]; omega) _) (cwV 1 hts gX12_test_X12_begin rfl rfl rfl (by decide +kernel) ⟨Nat.le_of_ble_eq_true rfl, Nat.le_of_ble_eq_true rfl⟩) (z_preV (i := 0) hK hW rfl rfl) rfl rfl hl.1 rfl (lv_room (Nat.le_of_ble_eq_true rfl)) dX12_test_259 ⟨Nat.le_of_ble_eq_true rfl, Nat.le_of_ble_eq_true rfl⟩) (fun u1 H locs hp hW hS => ?_)
                obtain ⟨I247, J249, e9, hI247md, fI247, hp⟩ := hp
                rw [e9] at hW
                have f248 := z_fr_sub (L := L_X12_test_x) f241 fI247 (by decide)
                have k250 : 0 ≤ (I247 0 31).toInt ∧ (I247 0 31).toInt ≤ 500 := by rw [fI247 0 31 (by decide)]; exact (by show 0 ≤ (I240 0 31).toInt ∧ (I240 0 31).toInt ≤ 500; rw [eI240, z_up_n (by decide)]; exact hI222mp.1)
                have k251 : 0 ≤ (I247 0 33).toInt ∧ (I247 0 33).toInt ≤ 500 := by rw [fI247 0 33 (by decide)]; exact (by show 0 ≤ (I240 0 33).toInt ∧ (I240 0 33).toInt ≤ 500; rw [eI240, z_up_n (by decide)]; exact hI222mp.2.1)
                have k252 : 0 ≤ (I247 0 34).toInt ∧ (I247 0 34).toInt ≤ 500 := by rw [fI247 0 34 (by decide)]; exact (by show 0 ≤ (I240 0 34).toInt ∧ (I240 0 34).toInt ≤ 500; rw [eI240, z_up_n (by decide)]; exact hI222mp.2.2.1)
                have k253 : 0 ≤ (I247 0 35).toInt ∧ (I247 0 35).toInt ≤ 500 := by rw [fI247 0 35 (by decide)]; exact (by show 0 ≤ (I240 0 35).toInt ∧ (I240 0 35).toInt ≤ 500; rw [eI240, z_up_n (by decide)]; exact hI222mp.2.2.2)
                have k254 : 0 ≤ (I247 0 36).toInt ∧ (I247 0 36).toInt ≤ 4 := by rw [fI247 0 36 (by decide)]; exact (by show 0 ≤ (I240 0 36).toInt ∧ (I240 0 36).toInt ≤ 4; rw [eI240, z_up_n (by decide)]; exact hI222mt.1)
                have k255 : 0 ≤ (I247 0 42).toInt ∧ (I247 0 42).toInt ≤ 1 := by rw [fI247 0 42 (by decide)]; exact (by show 0 ≤ (I240 0 42).toInt ∧ (I240 0 42).toInt ≤ 1; rw [eI240, z_up_n (by decide)]; exact hI222mt.2)
                have k256 : 0 ≤ (I247 0 40).toInt ∧ (I247 0 40).toInt ≤ 6199 := by rw [fI247 0 40 (by decide)]; exact (by show 0 ≤ (I240 0 40).toInt ∧ (I240 0 40).toInt ≤ 6199; rw [eI240, z_up_n (by decide)]; exact k227)
                have k257 : 0 ≤ (I247 0 15).toInt ∧ (I247 0 15).toInt ≤ 6100 := by rw [fI247 0 15 (by decide)]; exact (by show 0 ≤ (I240 0 15).toInt ∧ (I240 0 15).toInt ≤ 6100; rw [eI240, z_up_n (by decide)]; exact k228)
                have k258 : 0 ≤ (I247 0 35).toInt ∧ (I247 0 35).toInt ≤ (I247 0 34).toInt ∧ (I247 0 34).toInt ≤ (I247 0 33).toInt ∧ (I247 0 33).toInt ≤ 500 ∧ ((I247 0 36).toInt = 0 ∨ (I247 0 35).toInt + 1 ≤ (I247 0 34).toInt) := (by have q0 : (I247 0 35) = (I222 0 35) := (by rw [fI247 0 35 (by decide), eI240, z_up_n (by decide)]); have q1 : (I247 0 34) = (I222 0 34) := (by rw [fI247 0 34 (by decide), eI240, z_up_n (by decide)]); have q2 : (I247 0 33) = (I222 0 33) := (by rw [fI247 0 33 (by decide), eI240, z_up_n (by decide)]); have q3 : (I247 0 36) = (I222 0 36) := (by rw [fI247 0 36 (by decide), eI240, z_up_n (by decide)]); show 0 ≤ (I247 0 35).toInt ∧ (I247 0 35).toInt ≤ (I247 0 34).toInt ∧ (I247 0 34).toInt ≤ (I247 0 33).toInt ∧ (I247 0 33).toInt ≤ 500 ∧ ((I247 0 36).toInt = 0 ∨ (I247 0 35).toInt + 1 ≤ (I247 0 34).toInt); rw [q0, q1, q2, q3]; first | omega | decide)
                have k259 : (I247 0 35).toInt = (I222 0 35).toInt := by rw [fI247 0 35 (by decide), eI240, z_up_n (by decide)]
                have k260 : (I247 0 34).toInt = (I222 0 34).toInt := by rw [fI247 0 34 (by decide), eI240, z_up_n (by decide)]
                have k261 : (I247 0 36).toInt = (I222 0 36).toInt := by rw [fI247 0 36 (by decide), eI240, z_up_n (by decide)]
                have k262 : (I247 0 42).toInt = (I222 0 42).toInt := by rw [fI247 0 42 (by decide), eI240, z_up_n (by decide)]
                have k263 : (I247 0 39).toInt = (I222 0 39).toInt := by rw [fI247 0 39 (by decide), eI240, z_up_n (by decide)]
                have k264 : (I247 0 15).toInt = (I222 0 15).toInt := by rw [fI247 0 15 (by decide), eI240, z_up_n (by decide)]
                have k265 : (I247 0 40).toInt = (I222 0 40).toInt := by rw [fI247 0 40 (by decide), eI240, z_up_n (by decide)]
                obtain ⟨hp, hJ266⟩ := hp
                have h267 := hp
                have hE268 : zm_E gt gv gp ge gh gm n0 gI I247 J249 (.inr (tq + 1, (0, 0, -1, 0) :: (5, 4, fg, 10) :: FS, fo, fg, NN)) := zm_E_begin hE244 h267 z_l0 fI247 (by decide) hJ266
                have h269 := zm_E_W hE268
                have h270 := zm_E_D hE268
                refine lv_goto (tgt := 289) hx hb dX12_test_262 (by decide) ?_
                exact z_vret hx hb hr hK hS (Nat.le_of_ble_eq_true rfl) (Nat.le_of_ble_eq_true rfl) hlocks dX12_test_289 (shM, ad, I247, J249, PM ad) hW ⟨I247, J249, rfl, ⟨(by show 0 ≤ (I247 0 31).toInt ∧ (I247 0 31).toInt ≤ 500; exact k250), (by show 0 ≤ (I247 0 33).toInt ∧ (I247 0 33).toInt ≤ 500; exact k251), (by show 0 ≤ (I247 0 34).toInt ∧ (I247 0 34).toInt ≤ 500; exact k252), (by show 0 ≤ (I247 0 35).toInt ∧ (I247 0 35).toInt ≤ 500; exact k253)⟩, ⟨(by show 0 ≤ (I247 0 36).toInt ∧ (I247 0 36).toInt ≤ 4; exact k254), (by show 0 ≤ (I247 0 42).toInt ∧ (I247 0 42).toInt ≤ 1; exact k255)⟩, ⟨(by show 0 ≤ (I247 0 47).toInt ∧ (I247 0 47).toInt ≤ 119; exact hI247md.1), (by show 0 ≤ (I247 0 39).toInt ∧ (I247 0 39).toInt ≤ 100; exact hI247md.2)⟩, (by show 0 ≤ (I247 0 40).toInt ∧ (I247 0 40).toInt ≤ 6199; exact k256), (by show 0 ≤ (I247 0 15).toInt ∧ (I247 0 15).toInt ≤ 6100; exact k257), (z_Nd_fr a242 fI247 (by decide)), (by show 0 ≤ (I247 0 35).toInt ∧ (I247 0 35).toInt ≤ (I247 0 34).toInt ∧ (I247 0 34).toInt ≤ (I247 0 33).toInt ∧ (I247 0 33).toInt ≤ 500 ∧ ((I247 0 36).toInt = 0 ∨ (I247 0 35).toInt + 1 ≤ (I247 0 34).toInt); first | omega | decide), f248, ⟨((Classical.em ((I247 0 42).toInt = 0)).elim (fun hw9 => Or.inr ⟨a1.toNatClampNeg + 2, by have w1 := z_fw_523 (a := va.toInt) (o := vo.toInt) (by omega); have w2 := z_fo_5n (a := va.toInt) (by omega); have w3 := z_fw_514 (a := 4) (o := (I 0 40).toInt) (by omega); have w4 := z_fo_5n (a := 4) (by omega); have w5 := z_fw_00 (a := 0) (o := -1) (by omega); have w6 := z_rk_5; have w7 := z_rk_0; exact z_PUSH (d := a1.toNatClampNeg) (w := 5) (a := 4) (o := (I 0 40).toInt) (s := 10) (wi := 0) hPS (fun i hi => ⟨by rw [eI240, z_up_n (by decide), fI222 26 i (z_wr_c (by decide)), eI214, z_up_n (by decide), eI67, z_up_n (by decide)], by rw [eI240, z_up_k (by omega), fI222 27 i (z_wr_c (by decide)), eI214, z_up_n (by decide), eI67, z_up_n (by decide)], by rw [eI240, z_up_n (by decide), fI222 28 i (z_wr_c (by decide)), eI214, z_up_n (by decide), eI67, z_up_k (by omega)], by rw [eI240, z_up_n (by decide), fI222 29 i (z_wr_c (by decide)), eI214, z_up_k (by omega), eI67, z_up_n (by decide)]⟩) (by rw [show I240 26 a1.toNatClampNeg = vw from (by rw [eI240, z_up_n (by decide), fI222 26 a1.toNatClampNeg (z_wr_c (by decide)), eI214, z_up_n (by decide), eI67, z_up_n (by decide)]; exact evw.symm)]; exact hvw) (by rw [show I240 27 a1.toNatClampNeg = 4 from (by rw [eI240, z_up_s])]; exact z_l4) (by rw [show I240 28 a1.toNatClampNeg = (I 0 40) from (by rw [eI240, z_up_n (by decide), fI222 28 a1.toNatClampNeg (z_wr_c (by decide)), eI214, z_up_n (by decide), eI67, z_up_s])]) (by rw [show I240 29 a1.toNatClampNeg = 10 from (by rw [eI240, z_up_n (by decide), fI222 29 a1.toNatClampNeg (z_wr_c (by decide)), eI214, z_up_s])]; exact z_l10) (by unfold z_fv; omega) hwd (by rw [eI240, z_up_n (by decide)]; omega) h267 z_l0 (by omega) (by omega) (by omega) (by omega) (by omega) (by omega) (by omega) (by omega)⟩) Or.inl), (by have hz9 : zp_st gt gv (n0 : Int) (.inr (tq, (5, fa, fx, fs) :: FS, fo, fg, NN)) = .inr (tq + 1, (0, 0, -1, 0) :: (5, 4, fg, 10) :: FS, fo, fg, NN) := (by first | (simp [zp_st, zp_op, zp_cm, zp_cb, (show fa = 3 by omega), ht138, ht205, ht210]; done) | (exfalso; omega)); rw [hz9]; exact hE268)⟩⟩
              · have z271 := z_l61
                have ht272 : ¬ gt (tq) = 61 := fun q => h207 (by have q9 := (zm_E_sg (show zp_sg 61 by unfold zp_sg; omega) hE70).mpr q; exact ⟨q9.1, by omega⟩)
                refine lv_if_eq (tgt := 230) hx hb dX12_test_222 (by decide) (fun c273 => ?_) (fun c273 => absurd (by decide) c273)
                refine lv_iconst (v := 0) hx hb dX12_test_230 (by decide) ?_
                refine z_iast (i := 29) hx hb hK hW hS rfl (z_ix rfl (by omega) (by omega)) dX12_test_231 (fun H locs hz1 hW hS => ?_)
                obtain ⟨I274, eI274⟩ : ∃ K : z_I, K = z_up I67 29 a1.toNatClampNeg 0 := ⟨_, rfl⟩
                rw [← eI274] at hW
                have f275 := z_fr_a f68 (show z_wa L_X12_test_x 29 = true by decide) eI274
                have a276 := z_Nd_n a69 (by decide) eI274
                have z277 := z_l0
                have hE278 : zm_E gt gv gp ge gh gm n0 gI I274 J (.inr (tq, (5, fa, fg, 0) :: FS, fo, fg, NN)) := zm_E_top hE70 eI274 hdk (Or.inr (Or.inr ⟨rfl, by omega, rfl, rfl, rfl⟩))
                have h279 := zm_E_W hE278
                have h280 := zm_E_D hE278
                refine lv_aload_n hx hb dX12_test_232 rfl (lv_at hl 0 rfl) ?_
                refine z_get (T := TX12) (N := 96) (ci := 12) (i := 0) (v := .ref (ad 29)) hx hb hts zj_X12_test_X12 hown hK hW rfl rfl 46 (by decide) (hts (.fieldLink RX12 100 "PetrolBoardModel" "sort" "[I") (me_s (me_l (me_l (List.mem_of_getElem? (i := 6) rfl))))) (fun _ h => h) rfl dX12_test_233 ?_
                refine lv_iload_n hx hb dX12_test_236 rfl (lv_at hl 1 rfl) ?_
                refine z_iald (i := 29) hx hb hK hW rfl (z_ix rfl (by omega) (by omega)) dX12_test_237 ?_
                refine z_topi (v := 0) (by rw [eI274, z_up_s]) ?_
                refine lv_if_ne (tgt := 246) hx hb dX12_test_238 (by decide) (fun c281 => absurd (by decide) c281) (fun c281 => ?_)
                refine lv_aload_n hx hb dX12_test_241 rfl (lv_at hl 0 rfl) ?_
                refine z_cv hW hS hA (va_runV (As := []) (rest := []) ⟨hx, hb, hml, hown, hts⟩ (sx_X12_errs_x l G ad I274 J ⟨(by show 0 ≤ (I274 0 36).toInt ∧ (I274 0 36).toInt ≤ 4; rw [eI274, z_up_n (by decide), eI67, z_up_n (by decide)]; exact hmt.1), (by show 0 ≤ (I274 0 42).toInt ∧ (I274 0 42).toInt ≤ 1; rw [eI274, z_up_n (by decide), eI67, z_up_n (by decide)]; exact hmt.2)⟩  _) (cwV 0 hts gX12_test_X12_errs rfl rfl rfl (by decide +kernel) ⟨Nat.le_of_ble_eq_true rfl, Nat.le_of_ble_eq_true rfl⟩) (z_preV (i := 0) hK hW rfl rfl) rfl rfl hl.1 rfl (lv_room (Nat.le_of_ble_eq_true rfl)) dX12_test_242 ⟨Nat.le_of_ble_eq_true rfl, Nat.le_of_ble_eq_true rfl⟩) (fun u1 H locs hp hW hS => ?_)
                obtain ⟨I282, J284, e9, hI282mt, fI282, hp⟩ := hp
                rw [e9] at hW
                have f283 := z_fr_sub (L := L_X12_test_x) f275 fI282 (by decide)
                have k285 : 0 ≤ (I282 0 31).toInt ∧ (I282 0 31).toInt ≤ 500 := by rw [fI282 0 31 (by decide)]; exact (by show 0 ≤ (I274 0 31).toInt ∧ (I274 0 31).toInt ≤ 500; rw [eI274, z_up_n (by decide), eI67, z_up_n (by decide)]; exact hmp.1)
                have k286 : 0 ≤ (I282 0 33).toInt ∧ (I282 0 33).toInt ≤ 500 := by rw [fI282 0 33 (by decide)]; exact (by show 0 ≤ (I274 0 33).toInt ∧ (I274 0 33).toInt ≤ 500; rw [eI274, z_up_n (by decide), eI67, z_up_n (by decide)]; exact hmp.2.1)
                have k287 : 0 ≤ (I282 0 34).toInt ∧ (I282 0 34).toInt ≤ 500 := by rw [fI282 0 34 (by decide)]; exact (by show 0 ≤ (I274 0 34).toInt ∧ (I274 0 34).toInt ≤ 500; rw [eI274, z_up_n (by decide), eI67, z_up_n (by decide)]; exact hmp.2.2.1)
                have k288 : 0 ≤ (I282 0 35).toInt ∧ (I282 0 35).toInt ≤ 500 := by rw [fI282 0 35 (by decide)]; exact (by show 0 ≤ (I274 0 35).toInt ∧ (I274 0 35).toInt ≤ 500; rw [eI274, z_up_n (by decide), eI67, z_up_n (by decide)]; exact hmp.2.2.2)
                have k289 : 0 ≤ (I282 0 47).toInt ∧ (I282 0 47).toInt ≤ 119 := by rw [fI282 0 47 (by decide)]; exact (by show 0 ≤ (I274 0 47).toInt ∧ (I274 0 47).toInt ≤ 119; rw [eI274, z_up_n (by decide), eI67, z_up_n (by decide)]; exact hmd.1)
                have k290 : 0 ≤ (I282 0 39).toInt ∧ (I282 0 39).toInt ≤ 100 := by rw [fI282 0 39 (by decide)]; exact (by show 0 ≤ (I274 0 39).toInt ∧ (I274 0 39).toInt ≤ 100; rw [eI274, z_up_n (by decide), eI67, z_up_n (by decide)]; exact hmd.2)
                have k291 : 0 ≤ (I282 0 40).toInt ∧ (I282 0 40).toInt ≤ 6199 := by rw [fI282 0 40 (by decide)]; exact (by show 0 ≤ (I274 0 40).toInt ∧ (I274 0 40).toInt ≤ 6199; rw [eI274, z_up_n (by decide), eI67, z_up_n (by decide)]; exact hmg)
                have k292 : 0 ≤ (I282 0 15).toInt ∧ (I282 0 15).toInt ≤ 6100 := by rw [fI282 0 15 (by decide)]; exact (by show 0 ≤ (I274 0 15).toInt ∧ (I274 0 15).toInt ≤ 6100; rw [eI274, z_up_n (by decide), eI67, z_up_n (by decide)]; exact hmn)
                have k293 : 0 ≤ (I282 0 35).toInt ∧ (I282 0 35).toInt ≤ (I282 0 34).toInt ∧ (I282 0 34).toInt ≤ (I282 0 33).toInt ∧ (I282 0 33).toInt ≤ 500 ∧ ((I282 0 36).toInt = 0 ∨ (I282 0 35).toInt + 1 ≤ (I282 0 34).toInt) := (by have q0 : (I282 0 35) = (I 0 35) := (by rw [fI282 0 35 (by decide), eI274, z_up_n (by decide), eI67, z_up_n (by decide)]); have q1 : (I282 0 34) = (I 0 34) := (by rw [fI282 0 34 (by decide), eI274, z_up_n (by decide), eI67, z_up_n (by decide)]); have q2 : (I282 0 33) = (I 0 33) := (by rw [fI282 0 33 (by decide), eI274, z_up_n (by decide), eI67, z_up_n (by decide)]); have q3 : (I282 0 36) = (I 0 36) := (by rw [fI282 0 36 (by decide), eI274, z_up_n (by decide), eI67, z_up_n (by decide)]); show 0 ≤ (I282 0 35).toInt ∧ (I282 0 35).toInt ≤ (I282 0 34).toInt ∧ (I282 0 34).toInt ≤ (I282 0 33).toInt ∧ (I282 0 33).toInt ≤ 500 ∧ ((I282 0 36).toInt = 0 ∨ (I282 0 35).toInt + 1 ≤ (I282 0 34).toInt); rw [q0, q1, q2, q3]; first | omega | decide)
                have k294 : (I282 0 35).toInt = (I 0 35).toInt := by rw [fI282 0 35 (by decide), eI274, z_up_n (by decide), eI67, z_up_n (by decide)]
                have k295 : (I282 0 34).toInt = (I 0 34).toInt := by rw [fI282 0 34 (by decide), eI274, z_up_n (by decide), eI67, z_up_n (by decide)]
                have k296 : (I282 0 36).toInt = (I 0 36).toInt := by rw [fI282 0 36 (by decide), eI274, z_up_n (by decide), eI67, z_up_n (by decide)]
                have k297 : (I282 0 47).toInt = (I 0 47).toInt := by rw [fI282 0 47 (by decide), eI274, z_up_n (by decide), eI67, z_up_n (by decide)]
                have k298 : (I282 0 39).toInt = (I 0 39).toInt := by rw [fI282 0 39 (by decide), eI274, z_up_n (by decide), eI67, z_up_n (by decide)]
                have k299 : (I282 0 15).toInt = (I 0 15).toInt := by rw [fI282 0 15 (by decide), eI274, z_up_n (by decide), eI67, z_up_n (by decide)]
                have k300 : (I282 0 40).toInt = (I 0 40).toInt := by rw [fI282 0 40 (by decide), eI274, z_up_n (by decide), eI67, z_up_n (by decide)]
                obtain ⟨h301, h302, hJ303⟩ := hp
                have h304 : ¬ (I282 0 42).toInt = 0 := by omega
                have hE305 : zm_E gt gv gp ge gh gm n0 gI I282 J284 (.inl (tq)) := zm_E_errs hE278 h301 h302 (fun j => ⟨fI282 21 j (z_wr_c (by decide)), fI282 22 j (z_wr_c (by decide)), fI282 23 j (z_wr_c (by decide))⟩)
                have h306 := zm_E_L hE305
                exact z_vret hx hb hr hK hS (Nat.le_of_ble_eq_true rfl) (Nat.le_of_ble_eq_true rfl) hlocks dX12_test_245 (shM, ad, I282, J284, PM ad) hW ⟨I282, J284, rfl, ⟨(by show 0 ≤ (I282 0 31).toInt ∧ (I282 0 31).toInt ≤ 500; exact k285), (by show 0 ≤ (I282 0 33).toInt ∧ (I282 0 33).toInt ≤ 500; exact k286), (by show 0 ≤ (I282 0 34).toInt ∧ (I282 0 34).toInt ≤ 500; exact k287), (by show 0 ≤ (I282 0 35).toInt ∧ (I282 0 35).toInt ≤ 500; exact k288)⟩, ⟨(by show 0 ≤ (I282 0 36).toInt ∧ (I282 0 36).toInt ≤ 4; exact hI282mt.1), (by show 0 ≤ (I282 0 42).toInt ∧ (I282 0 42).toInt ≤ 1; exact hI282mt.2)⟩, ⟨(by show 0 ≤ (I282 0 47).toInt ∧ (I282 0 47).toInt ≤ 119; exact k289), (by show 0 ≤ (I282 0 39).toInt ∧ (I282 0 39).toInt ≤ 100; exact k290)⟩, (by show 0 ≤ (I282 0 40).toInt ∧ (I282 0 40).toInt ≤ 6199; exact k291), (by show 0 ≤ (I282 0 15).toInt ∧ (I282 0 15).toInt ≤ 6100; exact k292), (z_Nd_fr a276 fI282 (by decide)), (by show 0 ≤ (I282 0 35).toInt ∧ (I282 0 35).toInt ≤ (I282 0 34).toInt ∧ (I282 0 34).toInt ≤ (I282 0 33).toInt ∧ (I282 0 33).toInt ≤ 500 ∧ ((I282 0 36).toInt = 0 ∨ (I282 0 35).toInt + 1 ≤ (I282 0 34).toInt); first | omega | decide), f283, ⟨(Or.inl (by show ¬ (I282 0 42).toInt = 0; omega)), (by have hz9 : zp_st gt gv (n0 : Int) (.inr (tq, (5, fa, fx, fs) :: FS, fo, fg, NN)) = .inl (tq) := (by first | (simp [zp_st, zp_op, zp_cm, zp_cb, (show fa = 3 by omega), ht138, ht205, ht272]; done) | (exfalso; omega)); rw [hz9]; exact hE305)⟩⟩
      · have g307 := z_f_eq rfl z_l2 c5
        refine lv_aload_n hx hb dX12_test_129 rfl (lv_at hl 0 rfl) ?_
        refine lv_bipush (v := 125) hx hb dX12_test_130 (by decide) ?_
        refine z_cv hW hS hA (va_runV (As := [.int 125]) (rest := []) ⟨hx, hb, hml, hown, hts⟩ (sx_X12_must_x l G ad I J ⟨(by show 0 ≤ (I 0 31).toInt ∧ (I 0 31).toInt ≤ 500; exact hmp.1), (by show 0 ≤ (I 0 33).toInt ∧ (I 0 33).toInt ≤ 500; exact hmp.2.1), (by show 0 ≤ (I 0 34).toInt ∧ (I 0 34).toInt ≤ 500; exact hmp.2.2.1), (by show 0 ≤ (I 0 35).toInt ∧ (I 0 35).toInt ≤ 500; exact hmp.2.2.2)⟩ ⟨(by show 0 ≤ (I 0 36).toInt ∧ (I 0 36).toInt ≤ 4; exact hmt.1), (by show 0 ≤ (I 0 42).toInt ∧ (I 0 42).toInt ≤ 1; exact hmt.2)⟩ (by show 0 ≤ (I 0 35).toInt ∧ (I 0 35).toInt ≤ (I 0 34).toInt ∧ (I 0 34).toInt ≤ (I 0 33).toInt ∧ (I 0 33).toInt ≤ 500 ∧ ((I 0 36).toInt = 0 ∨ (I 0 35).toInt + 1 ≤ (I 0 34).toInt); first | omega | decide) gt gv gp ge gh gm n0 gI (tq) ((5, fa, fx, fs) :: FS) (fo) (fg) (NN) 125 hE hSM (show zp_sg (125 : Int32).toInt by have := z_l125; unfold zp_sg; omega) _) (cwV 1 hts gX12_test_X12_must rfl rfl rfl (by decide +kernel) ⟨Nat.le_of_ble_eq_true rfl, Nat.le_of_ble_eq_true rfl⟩) (z_preV (i := 0) hK hW rfl rfl) rfl rfl hl.1 rfl (lv_room (Nat.le_of_ble_eq_true rfl)) dX12_test_132 ⟨Nat.le_of_ble_eq_true rfl, Nat.le_of_ble_eq_true rfl⟩) (fun u1 H locs hp hW hS => ?_)
        obtain ⟨I308, J310, e9, hI308mp, hI308mt, hI308rp, fI308, hp⟩ := hp
        rw [e9] at hW
        have f309 := z_fr_sub (L := L_X12_test_x) z_fr_0 fI308 (by decide)
        have k311 : 0 ≤ (I308 0 47).toInt ∧ (I308 0 47).toInt ≤ 119 := by rw [fI308 0 47 (by decide)]; exact (by show 0 ≤ (I 0 47).toInt ∧ (I 0 47).toInt ≤ 119; exact hmd.1)
        have k312 : 0 ≤ (I308 0 39).toInt ∧ (I308 0 39).toInt ≤ 100 := by rw [fI308 0 39 (by decide)]; exact (by show 0 ≤ (I 0 39).toInt ∧ (I 0 39).toInt ≤ 100; exact hmd.2)
        have k313 : 0 ≤ (I308 0 40).toInt ∧ (I308 0 40).toInt ≤ 6199 := by rw [fI308 0 40 (by decide)]; exact (by show 0 ≤ (I 0 40).toInt ∧ (I 0 40).toInt ≤ 6199; exact hmg)
        have k314 : 0 ≤ (I308 0 15).toInt ∧ (I308 0 15).toInt ≤ 6100 := by rw [fI308 0 15 (by decide)]; exact (by show 0 ≤ (I 0 15).toInt ∧ (I 0 15).toInt ≤ 6100; exact hmn)
        have k315 : 0 ≤ (I308 0 35).toInt ∧ (I308 0 35).toInt ≤ (I308 0 34).toInt ∧ (I308 0 34).toInt ≤ (I308 0 33).toInt ∧ (I308 0 33).toInt ≤ 500 ∧ ((I308 0 36).toInt = 0 ∨ (I308 0 35).toInt + 1 ≤ (I308 0 34).toInt) := hI308rp
        have k316 : (I308 0 47).toInt = (I 0 47).toInt := by rw [fI308 0 47 (by decide)]
        have k317 : (I308 0 39).toInt = (I 0 39).toInt := by rw [fI308 0 39 (by decide)]
        have k318 : (I308 0 15).toInt = (I 0 15).toInt := by rw [fI308 0 15 (by decide)]
        have k319 : (I308 0 40).toInt = (I 0 40).toInt := by rw [fI308 0 40 (by decide)]
        obtain ⟨h321, h320⟩ := hp
        have h322 := h321
        rcases h320 with ⟨ht323, he324⟩ | ⟨ht323, he324⟩
        · have z325 := z_l125
          have ht326 : gt (tq) = 125 := by omega
          have hE327 : zm_E gt gv gp ge gh gm n0 gI I308 J310 (.inr (tq + 1, (5, fa, fx, fs) :: FS, fo, fg, NN)) := he324
          have h328 := zm_E_W hE327
          have h329 := zm_E_D hE327
          refine lv_aload_n hx hb dX12_test_135 rfl (lv_at hl 0 rfl) ?_
          refine lv_dup hx hb dX12_test_136 rfl ?_
          have r330 : 0 ≤ (I308 0 39).toInt ∧ (I308 0 39).toInt ≤ 100 := k312
          refine z_get (T := TX12) (N := 96) (ci := 12) (i := 0) (v := .int (I308 0 39)) hx hb hts zj_X12_test_X12 hown hK hW rfl rfl 39 (by decide) (hts (.fieldLink RX12 346 "PetrolBoardModel" "open" "I") (me_s (me_l (me_l (List.mem_of_getElem? (i := 2) rfl))))) (fun _ h => h) rfl dX12_test_137 ?_
          refine lv_iconst (v := 1) hx hb dX12_test_140 (by decide) ?_
          refine lv_isub hx hb dX12_test_141 ?_
          refine lv_topi (fun x331 ex331 => ?_)
          have tx331 : x331.toInt = (I308 0 39).toInt - 1 := z_tsub ex331 rfl z_l1 (by omega) (by omega)
          refine z_put (T := TX12) (N := 96) (ci := 12) (i := 0) (v := .int x331) (I1 := z_up I308 0 39 x331) (J1 := J310) (P1 := PM ad) hx hb hts zj_X12_test_X12 tyX12 tyX12_ok nmX12 hown hK hW hS rfl rfl 39 (by decide) (hts (.fieldLink RX12 346 "PetrolBoardModel" "open" "I") (me_s (me_l (me_l (List.mem_of_getElem? (i := 2) rfl))))) (fun _ h => h) rfl rfl rfl (by first | rfl | exact congrArg _ z_up_s) (fun a b h ty => z_vI h ty) dX12_test_142 (fun H locs hz1 hW hS => ?_)
          obtain ⟨I332, eI332⟩ : ∃ K : z_I, K = z_up I308 0 39 x331 := ⟨_, rfl⟩
          rw [← eI332] at hW
          have f333 := z_fr_k f309 (show z_wr L_X12_test_x 0 39 = true by decide) eI332
          have a334 := z_Nd_n (z_Nd_fr hNd fI308 (by decide)) (by decide) eI332
          have hE335 : zm_E gt gv gp ge gh gm n0 gI I332 J310 (.inr (tq + 1, (5, fa, fx, fs) :: FS, fo - 1, fg, NN)) := zm_E_open hE327 eI332 (by omega)
          have h336 := zm_E_W hE335
          have h337 := zm_E_D hE335
          refine lv_aload_n hx hb dX12_test_145 rfl (lv_at hl 0 rfl) ?_
          have r338 : 0 ≤ (I308 0 42).toInt ∧ (I308 0 42).toInt ≤ 1 := hI308mt.2
          refine z_get (T := TX12) (N := 96) (ci := 12) (i := 0) (v := .int (I308 0 42)) hx hb hts zj_X12_test_X12 hown hK hW rfl rfl 42 (by decide) (hts (.fieldLink RX12 294 "PetrolBoardModel" "isWrong" "Z") (me_s (me_l (me_l (List.mem_of_getElem? (i := 4) rfl))))) (fun _ h => h) (congrArg Value.int (by rw [eI332, z_up_k (by decide)])) dX12_test_146 ?_
          refine lv_if_ne (tgt := 289) hx hb dX12_test_149 (by decide) (fun c339 => (by have g := z_f_ne rfl z_l0 c339; omega)) (fun c339 => ?_)
          have g340 := z_f_eq rfl z_l0 c339
          refine lv_aload_n hx hb dX12_test_152 rfl (lv_at hl 0 rfl) ?_
          refine lv_aload_n hx hb dX12_test_153 rfl (lv_at hl 0 rfl) ?_
          have r341 : 0 ≤ (I308 0 40).toInt ∧ (I308 0 40).toInt ≤ 6199 := k313
          refine z_get (T := TX12) (N := 96) (ci := 12) (i := 0) (v := .int (I308 0 40)) hx hb hts zj_X12_test_X12 hown hK hW rfl rfl 40 (by decide) (hts (.fieldLink RX12 343 "PetrolBoardModel" "got" "I") (me_s (me_l (me_l (List.mem_of_getElem? (i := 3) rfl))))) (fun _ h => h) (congrArg Value.int (by rw [eI332, z_up_k (by decide)])) dX12_test_154 ?_
          refine z_cv hW hS hA (va_runV (As := [.int (I308 0 40)]) (rest := []) ⟨hx, hb, hml, hown, hts⟩ (sx_X12_ends_x l G ad I332 J310 ⟨(by show 0 ≤ (I332 0 47).toInt ∧ (I332 0 47).toInt ≤ 119; rw [eI332, z_up_k (by decide)]; exact k311), (by show 0 ≤ (I332 0 39).toInt ∧ (I332 0 39).toInt ≤ 100; rw [eI332, z_up_s]; omega)⟩ (by show 0 ≤ (I332 0 40).toInt ∧ (I332 0 40).toInt ≤ 6199; rw [eI332, z_up_k (by decide)]; exact k313) (I308 0 40) (by first | omega | decide) (by have q0 : (I332 0 47) = (I308 0 47) := (by rw [eI332, z_up_k (by decide)]); show 1 ≤ (I332 0 47).toInt; rw [q0]; omega) _) (cwV 1 hts gX12_test_X12_ends rfl rfl rfl (by decide +kernel) ⟨Nat.le_of_ble_eq_true rfl, Nat.le_of_ble_eq_true rfl⟩) (z_preV (i := 0) hK hW rfl rfl) rfl rfl hl.1 rfl (lv_room (Nat.le_of_ble_eq_true rfl)) dX12_test_157 ⟨Nat.le_of_ble_eq_true rfl, Nat.le_of_ble_eq_true rfl⟩) (fun u1 H locs hp hW hS => ?_)
          obtain ⟨I342, J344, e9, hI342md, hI342mg, fI342, hp⟩ := hp
          rw [e9] at hW
          have f343 := z_fr_sub (L := L_X12_test_x) f333 fI342 (by decide)
          have k345 : 0 ≤ (I342 0 31).toInt ∧ (I342 0 31).toInt ≤ 500 := by rw [fI342 0 31 (by decide)]; exact (by show 0 ≤ (I332 0 31).toInt ∧ (I332 0 31).toInt ≤ 500; rw [eI332, z_up_k (by decide)]; exact hI308mp.1)
          have k346 : 0 ≤ (I342 0 33).toInt ∧ (I342 0 33).toInt ≤ 500 := by rw [fI342 0 33 (by decide)]; exact (by show 0 ≤ (I332 0 33).toInt ∧ (I332 0 33).toInt ≤ 500; rw [eI332, z_up_k (by decide)]; exact hI308mp.2.1)
          have k347 : 0 ≤ (I342 0 34).toInt ∧ (I342 0 34).toInt ≤ 500 := by rw [fI342 0 34 (by decide)]; exact (by show 0 ≤ (I332 0 34).toInt ∧ (I332 0 34).toInt ≤ 500; rw [eI332, z_up_k (by decide)]; exact hI308mp.2.2.1)
          have k348 : 0 ≤ (I342 0 35).toInt ∧ (I342 0 35).toInt ≤ 500 := by rw [fI342 0 35 (by decide)]; exact (by show 0 ≤ (I332 0 35).toInt ∧ (I332 0 35).toInt ≤ 500; rw [eI332, z_up_k (by decide)]; exact hI308mp.2.2.2)
          have k349 : 0 ≤ (I342 0 36).toInt ∧ (I342 0 36).toInt ≤ 4 := by rw [fI342 0 36 (by decide)]; exact (by show 0 ≤ (I332 0 36).toInt ∧ (I332 0 36).toInt ≤ 4; rw [eI332, z_up_k (by decide)]; exact hI308mt.1)
          have k350 : 0 ≤ (I342 0 42).toInt ∧ (I342 0 42).toInt ≤ 1 := by rw [fI342 0 42 (by decide)]; exact (by show 0 ≤ (I332 0 42).toInt ∧ (I332 0 42).toInt ≤ 1; rw [eI332, z_up_k (by decide)]; exact hI308mt.2)
          have k351 : (I342 0 39).toInt = x331.toInt := by rw [fI342 0 39 (by decide), eI332, z_up_s]
          have k352 : 0 ≤ (I342 0 15).toInt ∧ (I342 0 15).toInt ≤ 6100 := by rw [fI342 0 15 (by decide)]; exact (by show 0 ≤ (I332 0 15).toInt ∧ (I332 0 15).toInt ≤ 6100; rw [eI332, z_up_k (by decide)]; exact k314)
          have k353 : 0 ≤ (I342 0 35).toInt ∧ (I342 0 35).toInt ≤ (I342 0 34).toInt ∧ (I342 0 34).toInt ≤ (I342 0 33).toInt ∧ (I342 0 33).toInt ≤ 500 ∧ ((I342 0 36).toInt = 0 ∨ (I342 0 35).toInt + 1 ≤ (I342 0 34).toInt) := (by have q0 : (I342 0 35) = (I308 0 35) := (by rw [fI342 0 35 (by decide), eI332, z_up_k (by decide)]); have q1 : (I342 0 34) = (I308 0 34) := (by rw [fI342 0 34 (by decide), eI332, z_up_k (by decide)]); have q2 : (I342 0 33) = (I308 0 33) := (by rw [fI342 0 33 (by decide), eI332, z_up_k (by decide)]); have q3 : (I342 0 36) = (I308 0 36) := (by rw [fI342 0 36 (by decide), eI332, z_up_k (by decide)]); show 0 ≤ (I342 0 35).toInt ∧ (I342 0 35).toInt ≤ (I342 0 34).toInt ∧ (I342 0 34).toInt ≤ (I342 0 33).toInt ∧ (I342 0 33).toInt ≤ 500 ∧ ((I342 0 36).toInt = 0 ∨ (I342 0 35).toInt + 1 ≤ (I342 0 34).toInt); rw [q0, q1, q2, q3]; first | omega | decide)
          have k354 : (I342 0 35).toInt = (I308 0 35).toInt := by rw [fI342 0 35 (by decide), eI332, z_up_k (by decide)]
          have k355 : (I342 0 34).toInt = (I308 0 34).toInt := by rw [fI342 0 34 (by decide), eI332, z_up_k (by decide)]
          have k356 : (I342 0 36).toInt = (I308 0 36).toInt := by rw [fI342 0 36 (by decide), eI332, z_up_k (by decide)]
          have k357 : (I342 0 42).toInt = (I308 0 42).toInt := by rw [fI342 0 42 (by decide), eI332, z_up_k (by decide)]
          have k358 : (I342 0 39).toInt = x331.toInt := by rw [fI342 0 39 (by decide), eI332, z_up_s]
          have k359 : (I342 0 15).toInt = (I308 0 15).toInt := by rw [fI342 0 15 (by decide), eI332, z_up_k (by decide)]
          obtain ⟨hp, h360, hJ361⟩ := hp
          have h362 := hp
          have h363 := hp
          rw [show (I332 0 47) = (I308 0 47) from by rw [eI332, z_up_k (by decide)]] at h363
          have hE364 : zm_E gt gv gp ge gh gm n0 gI I342 J344 (.inr (tq + 1, FS, fo - 1, fg, NN)) := zm_E_ends hE335 h362 h360 (by omega) fI342 (by decide) hJ361
          have h365 := zm_E_W hE364
          have h366 := zm_E_D hE364
          refine lv_goto (tgt := 289) hx hb dX12_test_160 (by decide) ?_
          exact z_vret hx hb hr hK hS (Nat.le_of_ble_eq_true rfl) (Nat.le_of_ble_eq_true rfl) hlocks dX12_test_289 (shM, ad, I342, J344, PM ad) hW ⟨I342, J344, rfl, ⟨(by show 0 ≤ (I342 0 31).toInt ∧ (I342 0 31).toInt ≤ 500; exact k345), (by show 0 ≤ (I342 0 33).toInt ∧ (I342 0 33).toInt ≤ 500; exact k346), (by show 0 ≤ (I342 0 34).toInt ∧ (I342 0 34).toInt ≤ 500; exact k347), (by show 0 ≤ (I342 0 35).toInt ∧ (I342 0 35).toInt ≤ 500; exact k348)⟩, ⟨(by show 0 ≤ (I342 0 36).toInt ∧ (I342 0 36).toInt ≤ 4; exact k349), (by show 0 ≤ (I342 0 42).toInt ∧ (I342 0 42).toInt ≤ 1; exact k350)⟩, ⟨(by show 0 ≤ (I342 0 47).toInt ∧ (I342 0 47).toInt ≤ 119; exact hI342md.1), (by show 0 ≤ (I342 0 39).toInt ∧ (I342 0 39).toInt ≤ 100; exact hI342md.2)⟩, (by show 0 ≤ (I342 0 40).toInt ∧ (I342 0 40).toInt ≤ 6199; exact hI342mg), (by show 0 ≤ (I342 0 15).toInt ∧ (I342 0 15).toInt ≤ 6100; exact k352), (z_Nd_fr a334 fI342 (by decide)), (by show 0 ≤ (I342 0 35).toInt ∧ (I342 0 35).toInt ≤ (I342 0 34).toInt ∧ (I342 0 34).toInt ≤ (I342 0 33).toInt ∧ (I342 0 33).toInt ≤ 500 ∧ ((I342 0 36).toInt = 0 ∨ (I342 0 35).toInt + 1 ≤ (I342 0 34).toInt); first | omega | decide), f343, ⟨((Classical.em ((I342 0 42).toInt = 0)).elim (fun hw9 => Or.inr ⟨a1.toNatClampNeg, by have w1 := z_fw_523 (a := va.toInt) (o := vo.toInt) (by omega); have w2 := z_fo_5y (a := va.toInt) (by omega); exact z_POP (d := a1.toNatClampNeg) hPS (fun i hi => ⟨by rw [fI342 26 i (z_wr_c (by decide)), eI332, z_up_n (by decide), fI308 26 i (z_wr_c (by decide))], by rw [fI342 27 i (z_wr_c (by decide)), eI332, z_up_n (by decide), fI308 27 i (z_wr_c (by decide))], by rw [fI342 28 i (z_wr_c (by decide)), eI332, z_up_n (by decide), fI308 28 i (z_wr_c (by decide))], by rw [fI342 29 i (z_wr_c (by decide)), eI332, z_up_n (by decide), fI308 29 i (z_wr_c (by decide))]⟩) (by omega) (by omega) (by omega) (by omega) (by omega) (by omega)⟩) Or.inl), (by have hz9 : zp_st gt gv (n0 : Int) (.inr (tq, (5, fa, fx, fs) :: FS, fo, fg, NN)) = .inr (tq + 1, FS, fo - 1, fg, NN) := (by first | (simp [zp_st, zp_op, zp_cm, zp_cb, (show fa = 2 by omega), ht326]; done) | (exfalso; omega)); rw [hz9]; exact hE364)⟩⟩
        · have z367 := z_l125
          have ht368 : ¬ gt (tq) = 125 := by omega
          have hE369 : zm_E gt gv gp ge gh gm n0 gI I308 J310 (.inl (tq)) := he324
          have h370 := zm_E_L hE369
          refine lv_aload_n hx hb dX12_test_135 rfl (lv_at hl 0 rfl) ?_
          refine lv_dup hx hb dX12_test_136 rfl ?_
          have r371 : 0 ≤ (I308 0 39).toInt ∧ (I308 0 39).toInt ≤ 100 := k312
          refine z_get (T := TX12) (N := 96) (ci := 12) (i := 0) (v := .int (I308 0 39)) hx hb hts zj_X12_test_X12 hown hK hW rfl rfl 39 (by decide) (hts (.fieldLink RX12 346 "PetrolBoardModel" "open" "I") (me_s (me_l (me_l (List.mem_of_getElem? (i := 2) rfl))))) (fun _ h => h) rfl dX12_test_137 ?_
          refine lv_iconst (v := 1) hx hb dX12_test_140 (by decide) ?_
          refine lv_isub hx hb dX12_test_141 ?_
          refine lv_topi (fun x372 ex372 => ?_)
          have tx372 : x372.toInt = (I308 0 39).toInt - 1 := z_tsub ex372 rfl z_l1 (by omega) (by omega)
          refine z_put (T := TX12) (N := 96) (ci := 12) (i := 0) (v := .int x372) (I1 := z_up I308 0 39 x372) (J1 := J310) (P1 := PM ad) hx hb hts zj_X12_test_X12 tyX12 tyX12_ok nmX12 hown hK hW hS rfl rfl 39 (by decide) (hts (.fieldLink RX12 346 "PetrolBoardModel" "open" "I") (me_s (me_l (me_l (List.mem_of_getElem? (i := 2) rfl))))) (fun _ h => h) rfl rfl rfl (by first | rfl | exact congrArg _ z_up_s) (fun a b h ty => z_vI h ty) dX12_test_142 (fun H locs hz1 hW hS => ?_)
          obtain ⟨I373, eI373⟩ : ∃ K : z_I, K = z_up I308 0 39 x372 := ⟨_, rfl⟩
          rw [← eI373] at hW
          have f374 := z_fr_k f309 (show z_wr L_X12_test_x 0 39 = true by decide) eI373
          have a375 := z_Nd_n (z_Nd_fr hNd fI308 (by decide)) (by decide) eI373
          have hE376 : zm_E gt gv gp ge gh gm n0 gI I373 J310 (.inl (tq)) := zm_E_k hE369 eI373 (by decide)
          have h377 := zm_E_L hE376
          refine lv_aload_n hx hb dX12_test_145 rfl (lv_at hl 0 rfl) ?_
          have r378 : 0 ≤ (I308 0 42).toInt ∧ (I308 0 42).toInt ≤ 1 := hI308mt.2
          refine z_get (T := TX12) (N := 96) (ci := 12) (i := 0) (v := .int (I308 0 42)) hx hb hts zj_X12_test_X12 hown hK hW rfl rfl 42 (by decide) (hts (.fieldLink RX12 294 "PetrolBoardModel" "isWrong" "Z") (me_s (me_l (me_l (List.mem_of_getElem? (i := 4) rfl))))) (fun _ h => h) (congrArg Value.int (by rw [eI373, z_up_k (by decide)])) dX12_test_146 ?_
          refine lv_if_ne (tgt := 289) hx hb dX12_test_149 (by decide) (fun c379 => ?_) (fun c379 => (by have g := z_f_eq rfl z_l0 c379; omega))
          have g380 := z_f_ne rfl z_l0 c379
          exact z_vret hx hb hr hK hS (Nat.le_of_ble_eq_true rfl) (Nat.le_of_ble_eq_true rfl) hlocks dX12_test_289 (shM, ad, I373, J310, PM ad) hW ⟨I373, J310, rfl, ⟨(by show 0 ≤ (I373 0 31).toInt ∧ (I373 0 31).toInt ≤ 500; rw [eI373, z_up_k (by decide)]; exact hI308mp.1), (by show 0 ≤ (I373 0 33).toInt ∧ (I373 0 33).toInt ≤ 500; rw [eI373, z_up_k (by decide)]; exact hI308mp.2.1), (by show 0 ≤ (I373 0 34).toInt ∧ (I373 0 34).toInt ≤ 500; rw [eI373, z_up_k (by decide)]; exact hI308mp.2.2.1), (by show 0 ≤ (I373 0 35).toInt ∧ (I373 0 35).toInt ≤ 500; rw [eI373, z_up_k (by decide)]; exact hI308mp.2.2.2)⟩, ⟨(by show 0 ≤ (I373 0 36).toInt ∧ (I373 0 36).toInt ≤ 4; rw [eI373, z_up_k (by decide)]; exact hI308mt.1), (by show 0 ≤ (I373 0 42).toInt ∧ (I373 0 42).toInt ≤ 1; rw [eI373, z_up_k (by decide)]; exact hI308mt.2)⟩, ⟨(by show 0 ≤ (I373 0 47).toInt ∧ (I373 0 47).toInt ≤ 119; rw [eI373, z_up_k (by decide)]; exact k311), (by show 0 ≤ (I373 0 39).toInt ∧ (I373 0 39).toInt ≤ 100; rw [eI373, z_up_s]; omega)⟩, (by show 0 ≤ (I373 0 40).toInt ∧ (I373 0 40).toInt ≤ 6199; rw [eI373, z_up_k (by decide)]; exact k313), (by show 0 ≤ (I373 0 15).toInt ∧ (I373 0 15).toInt ≤ 6100; rw [eI373, z_up_k (by decide)]; exact k314), a375, (by have q0 : (I373 0 35) = (I308 0 35) := (by rw [eI373, z_up_k (by decide)]); have q1 : (I373 0 34) = (I308 0 34) := (by rw [eI373, z_up_k (by decide)]); have q2 : (I373 0 33) = (I308 0 33) := (by rw [eI373, z_up_k (by decide)]); have q3 : (I373 0 36) = (I308 0 36) := (by rw [eI373, z_up_k (by decide)]); show 0 ≤ (I373 0 35).toInt ∧ (I373 0 35).toInt ≤ (I373 0 34).toInt ∧ (I373 0 34).toInt ≤ (I373 0 33).toInt ∧ (I373 0 33).toInt ≤ 500 ∧ ((I373 0 36).toInt = 0 ∨ (I373 0 35).toInt + 1 ≤ (I373 0 34).toInt); rw [q0, q1, q2, q3]; first | omega | decide), f374, ⟨(Or.inl (by have q0 : (I373 0 42) = (I308 0 42) := (by rw [eI373, z_up_k (by decide)]); show ¬ (I373 0 42).toInt = 0; rw [q0]; omega)), (by have hz9 : zp_st gt gv (n0 : Int) (.inr (tq, (5, fa, fx, fs) :: FS, fo, fg, NN)) = .inl (tq) := (by first | (simp [zp_st, zp_op, zp_cm, zp_cb, (show fa = 2 by omega), ht368]; done) | (exfalso; omega)); rw [hz9]; exact hE376)⟩⟩
    · have g381 := z_f_eq rfl z_l1 c3
      refine lv_aload_n hx hb dX12_test_91 rfl (lv_at hl 0 rfl) ?_
      refine lv_dup hx hb dX12_test_92 rfl ?_
      have r382 : 0 ≤ (I 0 39).toInt ∧ (I 0 39).toInt ≤ 100 := hmd.2
      refine z_get (T := TX12) (N := 96) (ci := 12) (i := 0) (v := .int (I 0 39)) hx hb hts zj_X12_test_X12 hown hK hW rfl rfl 39 (by decide) (hts (.fieldLink RX12 346 "PetrolBoardModel" "open" "I") (me_s (me_l (me_l (List.mem_of_getElem? (i := 2) rfl))))) (fun _ h => h) rfl dX12_test_93 ?_
      refine lv_iconst (v := 1) hx hb dX12_test_96 (by decide) ?_
      refine lv_isub hx hb dX12_test_97 ?_
      refine lv_topi (fun x383 ex383 => ?_)
      have tx383 : x383.toInt = (I 0 39).toInt - 1 := z_tsub ex383 rfl z_l1 (by omega) (by omega)
      refine z_put (T := TX12) (N := 96) (ci := 12) (i := 0) (v := .int x383) (I1 := z_up I 0 39 x383) (J1 := J) (P1 := PM ad) hx hb hts zj_X12_test_X12 tyX12 tyX12_ok nmX12 hown hK hW hS rfl rfl 39 (by decide) (hts (.fieldLink RX12 346 "PetrolBoardModel" "open" "I") (me_s (me_l (me_l (List.mem_of_getElem? (i := 2) rfl))))) (fun _ h => h) rfl rfl rfl (by first | rfl | exact congrArg _ z_up_s) (fun a b h ty => z_vI h ty) dX12_test_98 (fun H locs hz1 hW hS => ?_)
      obtain ⟨I384, eI384⟩ : ∃ K : z_I, K = z_up I 0 39 x383 := ⟨_, rfl⟩
      rw [← eI384] at hW
      have f385 := z_fr_k z_fr_0 (show z_wr L_X12_test_x 0 39 = true by decide) eI384
      have a386 := z_Nd_n hNd (by decide) eI384
      have hE387 : zm_E gt gv gp ge gh gm n0 gI I384 J (.inr (tq, (5, fa, fx, fs) :: FS, fo - 1, fg, NN)) := zm_E_open hE eI384 (by omega)
      have h388 := zm_E_W hE387
      have h389 := zm_E_D hE387
      refine lv_aload_n hx hb dX12_test_101 rfl (lv_at hl 0 rfl) ?_
      refine lv_aload_n hx hb dX12_test_102 rfl (lv_at hl 0 rfl) ?_
      refine lv_bipush (v := 11) hx hb dX12_test_103 (by decide) ?_
      refine lv_aload_n hx hb dX12_test_105 rfl (lv_at hl 0 rfl) ?_
      have r390 : 0 ≤ (I 0 40).toInt ∧ (I 0 40).toInt ≤ 6199 := hmg
      refine z_get (T := TX12) (N := 96) (ci := 12) (i := 0) (v := .int (I 0 40)) hx hb hts zj_X12_test_X12 hown hK hW rfl rfl 40 (by decide) (hts (.fieldLink RX12 343 "PetrolBoardModel" "got" "I") (me_s (me_l (me_l (List.mem_of_getElem? (i := 3) rfl))))) (fun _ h => h) (congrArg Value.int (by rw [eI384, z_up_k (by decide)])) dX12_test_106 ?_
      refine lv_iconst (v := 0) hx hb dX12_test_109 (by decide) ?_
      refine z_ci hW hS hA (va_runV (As := [.int 11, .int (I 0 40), .int 0]) (rest := [.ref (ad 0)]) ⟨hx, hb, hml, hown, hts⟩ (sx_X12_node_x l G ad I384 J (by show 0 ≤ (I384 0 15).toInt ∧ (I384 0 15).toInt ≤ 6100; rw [eI384, z_up_k (by decide)]; exact hmn) a386 11 (I 0 40) 0 (by have q0 : (I384 0 15) = (I 0 15) := (by rw [eI384, z_up_k (by decide)]); show (I384 0 15).toInt ≤ 6099; rw [q0]; omega) (by have := z_l11; have := z_l0; first | omega | decide) (by have := z_l11; have := z_l0; first | omega | decide) (by have := z_l11; have := z_l0; first | omega | decide) _) (cwV 3 hts gX12_test_X12_node rfl rfl rfl (by decide +kernel) ⟨Nat.le_of_ble_eq_true rfl, Nat.le_of_ble_eq_true rfl⟩) (z_preV (i := 0) hK hW rfl rfl) rfl rfl hl.1 rfl (lv_room (Nat.le_of_ble_eq_true rfl)) dX12_test_110 ⟨Nat.le_of_ble_eq_true rfl, Nat.le_of_ble_eq_true rfl⟩) (fun r u1 H locs hp hW hS => ?_)
      obtain ⟨I391, J393, e9, hI391mn, hI391Nd, fI391, hp⟩ := hp
      rw [e9] at hW
      have f392 := z_fr_sub (L := L_X12_test_x) f385 fI391 (by decide)
      have k394 : 0 ≤ (I391 0 31).toInt ∧ (I391 0 31).toInt ≤ 500 := by rw [fI391 0 31 (by decide)]; exact (by show 0 ≤ (I384 0 31).toInt ∧ (I384 0 31).toInt ≤ 500; rw [eI384, z_up_k (by decide)]; exact hmp.1)
      have k395 : 0 ≤ (I391 0 33).toInt ∧ (I391 0 33).toInt ≤ 500 := by rw [fI391 0 33 (by decide)]; exact (by show 0 ≤ (I384 0 33).toInt ∧ (I384 0 33).toInt ≤ 500; rw [eI384, z_up_k (by decide)]; exact hmp.2.1)
      have k396 : 0 ≤ (I391 0 34).toInt ∧ (I391 0 34).toInt ≤ 500 := by rw [fI391 0 34 (by decide)]; exact (by show 0 ≤ (I384 0 34).toInt ∧ (I384 0 34).toInt ≤ 500; rw [eI384, z_up_k (by decide)]; exact hmp.2.2.1)
      have k397 : 0 ≤ (I391 0 35).toInt ∧ (I391 0 35).toInt ≤ 500 := by rw [fI391 0 35 (by decide)]; exact (by show 0 ≤ (I384 0 35).toInt ∧ (I384 0 35).toInt ≤ 500; rw [eI384, z_up_k (by decide)]; exact hmp.2.2.2)
      have k398 : 0 ≤ (I391 0 36).toInt ∧ (I391 0 36).toInt ≤ 4 := by rw [fI391 0 36 (by decide)]; exact (by show 0 ≤ (I384 0 36).toInt ∧ (I384 0 36).toInt ≤ 4; rw [eI384, z_up_k (by decide)]; exact hmt.1)
      have k399 : 0 ≤ (I391 0 42).toInt ∧ (I391 0 42).toInt ≤ 1 := by rw [fI391 0 42 (by decide)]; exact (by show 0 ≤ (I384 0 42).toInt ∧ (I384 0 42).toInt ≤ 1; rw [eI384, z_up_k (by decide)]; exact hmt.2)
      have k400 : 0 ≤ (I391 0 47).toInt ∧ (I391 0 47).toInt ≤ 119 := by rw [fI391 0 47 (by decide)]; exact (by show 0 ≤ (I384 0 47).toInt ∧ (I384 0 47).toInt ≤ 119; rw [eI384, z_up_k (by decide)]; exact hmd.1)
      have k401 : 0 ≤ (I391 0 39).toInt ∧ (I391 0 39).toInt ≤ 100 := by rw [fI391 0 39 (by decide)]; exact (by show 0 ≤ (I384 0 39).toInt ∧ (I384 0 39).toInt ≤ 100; rw [eI384, z_up_s]; omega)
      have k402 : 0 ≤ (I391 0 40).toInt ∧ (I391 0 40).toInt ≤ 6199 := by rw [fI391 0 40 (by decide)]; exact (by show 0 ≤ (I384 0 40).toInt ∧ (I384 0 40).toInt ≤ 6199; rw [eI384, z_up_k (by decide)]; exact hmg)
      have k403 : 0 ≤ (I391 0 35).toInt ∧ (I391 0 35).toInt ≤ (I391 0 34).toInt ∧ (I391 0 34).toInt ≤ (I391 0 33).toInt ∧ (I391 0 33).toInt ≤ 500 ∧ ((I391 0 36).toInt = 0 ∨ (I391 0 35).toInt + 1 ≤ (I391 0 34).toInt) := (by have q0 : (I391 0 35) = (I 0 35) := (by rw [fI391 0 35 (by decide), eI384, z_up_k (by decide)]); have q1 : (I391 0 34) = (I 0 34) := (by rw [fI391 0 34 (by decide), eI384, z_up_k (by decide)]); have q2 : (I391 0 33) = (I 0 33) := (by rw [fI391 0 33 (by decide), eI384, z_up_k (by decide)]); have q3 : (I391 0 36) = (I 0 36) := (by rw [fI391 0 36 (by decide), eI384, z_up_k (by decide)]); show 0 ≤ (I391 0 35).toInt ∧ (I391 0 35).toInt ≤ (I391 0 34).toInt ∧ (I391 0 34).toInt ≤ (I391 0 33).toInt ∧ (I391 0 33).toInt ≤ 500 ∧ ((I391 0 36).toInt = 0 ∨ (I391 0 35).toInt + 1 ≤ (I391 0 34).toInt); rw [q0, q1, q2, q3]; first | omega | decide)
      have k404 : (I391 0 35).toInt = (I 0 35).toInt := by rw [fI391 0 35 (by decide), eI384, z_up_k (by decide)]
      have k405 : (I391 0 34).toInt = (I 0 34).toInt := by rw [fI391 0 34 (by decide), eI384, z_up_k (by decide)]
      have k406 : (I391 0 36).toInt = (I 0 36).toInt := by rw [fI391 0 36 (by decide), eI384, z_up_k (by decide)]
      have k407 : (I391 0 42).toInt = (I 0 42).toInt := by rw [fI391 0 42 (by decide), eI384, z_up_k (by decide)]
      have k408 : (I391 0 47).toInt = (I 0 47).toInt := by rw [fI391 0 47 (by decide), eI384, z_up_k (by decide)]
      have k409 : (I391 0 39).toInt = x383.toInt := by rw [fI391 0 39 (by decide), eI384, z_up_s]
      have k410 : (I391 0 40).toInt = (I 0 40).toInt := by rw [fI391 0 40 (by decide), eI384, z_up_k (by decide)]
      refine lv_topi (fun x415 ex415 => ?_)
      rw [← ex415] at hp
      obtain ⟨h411, h412, h413, hJ414⟩ := hp
      have h416 : 0 ≤ x415.toInt ∧ x415.toInt ≤ 6100 := (by have q9 : 0 ≤ (I384 0 15).toInt ∧ (I384 0 15).toInt ≤ 6100 := (by show 0 ≤ (I384 0 15).toInt ∧ (I384 0 15).toInt ≤ 6100; rw [eI384, z_up_k (by decide)]; exact hmn); omega)
      have h417 := h411
      have h418 := h412
      rw [show (I384 0 15) = (I 0 15) from by rw [eI384, z_up_k (by decide)]] at h411
      rw [show (I384 0 15) = (I 0 15) from by rw [eI384, z_up_k (by decide)]] at h412
      have z419 := z_l11
      have z420 := z_l0
      have hE421 : zm_E gt gv gp ge gh gm n0 gI I391 J393 (.inr (tq, (5, fa, fx, fs) :: FS, fo - 1, fg, NN ++ [(11, fg, 0)])) := zm_E_node hE387 h413 (by omega) (by omega) (by omega) fI391 (by decide) hJ414
      have h422 := zm_E_W hE421
      have h423 := zm_E_D hE421
      refine z_cv hW hS hA (va_runV (As := [.int x415]) (rest := []) ⟨hx, hb, hml, hown, hts⟩ (sx_X12_ends_x l G ad I391 J393 ⟨(by show 0 ≤ (I391 0 47).toInt ∧ (I391 0 47).toInt ≤ 119; exact k400), (by show 0 ≤ (I391 0 39).toInt ∧ (I391 0 39).toInt ≤ 100; exact k401)⟩ (by show 0 ≤ (I391 0 40).toInt ∧ (I391 0 40).toInt ≤ 6199; exact k402) x415 (by first | omega | decide) (by show 1 ≤ (I391 0 47).toInt; omega) _) (cwV 1 hts gX12_test_X12_ends rfl rfl rfl (by decide +kernel) ⟨Nat.le_of_ble_eq_true rfl, Nat.le_of_ble_eq_true rfl⟩) (z_preV (i := 0) hK hW rfl rfl) rfl rfl hl.1 rfl (lv_room (Nat.le_of_ble_eq_true rfl)) dX12_test_113 ⟨Nat.le_of_ble_eq_true rfl, Nat.le_of_ble_eq_true rfl⟩) (fun u1 H locs hp hW hS => ?_)
      obtain ⟨I424, J426, e9, hI424md, hI424mg, fI424, hp⟩ := hp
      rw [e9] at hW
      have f425 := z_fr_sub (L := L_X12_test_x) f392 fI424 (by decide)
      have k427 : 0 ≤ (I424 0 31).toInt ∧ (I424 0 31).toInt ≤ 500 := by rw [fI424 0 31 (by decide)]; exact (by show 0 ≤ (I391 0 31).toInt ∧ (I391 0 31).toInt ≤ 500; exact k394)
      have k428 : 0 ≤ (I424 0 33).toInt ∧ (I424 0 33).toInt ≤ 500 := by rw [fI424 0 33 (by decide)]; exact (by show 0 ≤ (I391 0 33).toInt ∧ (I391 0 33).toInt ≤ 500; exact k395)
      have k429 : 0 ≤ (I424 0 34).toInt ∧ (I424 0 34).toInt ≤ 500 := by rw [fI424 0 34 (by decide)]; exact (by show 0 ≤ (I391 0 34).toInt ∧ (I391 0 34).toInt ≤ 500; exact k396)
      have k430 : 0 ≤ (I424 0 35).toInt ∧ (I424 0 35).toInt ≤ 500 := by rw [fI424 0 35 (by decide)]; exact (by show 0 ≤ (I391 0 35).toInt ∧ (I391 0 35).toInt ≤ 500; exact k397)
      have k431 : 0 ≤ (I424 0 36).toInt ∧ (I424 0 36).toInt ≤ 4 := by rw [fI424 0 36 (by decide)]; exact (by show 0 ≤ (I391 0 36).toInt ∧ (I391 0 36).toInt ≤ 4; exact k398)
      have k432 : 0 ≤ (I424 0 42).toInt ∧ (I424 0 42).toInt ≤ 1 := by rw [fI424 0 42 (by decide)]; exact (by show 0 ≤ (I391 0 42).toInt ∧ (I391 0 42).toInt ≤ 1; exact k399)
      have k433 : 0 ≤ (I424 0 15).toInt ∧ (I424 0 15).toInt ≤ 6100 := by rw [fI424 0 15 (by decide)]; exact (by show 0 ≤ (I391 0 15).toInt ∧ (I391 0 15).toInt ≤ 6100; exact hI391mn)
      have k434 : 0 ≤ (I424 0 35).toInt ∧ (I424 0 35).toInt ≤ (I424 0 34).toInt ∧ (I424 0 34).toInt ≤ (I424 0 33).toInt ∧ (I424 0 33).toInt ≤ 500 ∧ ((I424 0 36).toInt = 0 ∨ (I424 0 35).toInt + 1 ≤ (I424 0 34).toInt) := (by have q0 : (I424 0 35) = (I391 0 35) := (by rw [fI424 0 35 (by decide)]); have q1 : (I424 0 34) = (I391 0 34) := (by rw [fI424 0 34 (by decide)]); have q2 : (I424 0 33) = (I391 0 33) := (by rw [fI424 0 33 (by decide)]); have q3 : (I424 0 36) = (I391 0 36) := (by rw [fI424 0 36 (by decide)]); show 0 ≤ (I424 0 35).toInt ∧ (I424 0 35).toInt ≤ (I424 0 34).toInt ∧ (I424 0 34).toInt ≤ (I424 0 33).toInt ∧ (I424 0 33).toInt ≤ 500 ∧ ((I424 0 36).toInt = 0 ∨ (I424 0 35).toInt + 1 ≤ (I424 0 34).toInt); rw [q0, q1, q2, q3]; first | omega | decide)
      have k435 : (I424 0 35).toInt = (I391 0 35).toInt := by rw [fI424 0 35 (by decide)]
      have k436 : (I424 0 34).toInt = (I391 0 34).toInt := by rw [fI424 0 34 (by decide)]
      have k437 : (I424 0 36).toInt = (I391 0 36).toInt := by rw [fI424 0 36 (by decide)]
      have k438 : (I424 0 42).toInt = (I391 0 42).toInt := by rw [fI424 0 42 (by decide)]
      have k439 : (I424 0 39).toInt = (I391 0 39).toInt := by rw [fI424 0 39 (by decide)]
      have k440 : (I424 0 15).toInt = (I391 0 15).toInt := by rw [fI424 0 15 (by decide)]
      obtain ⟨hp, h441, hJ442⟩ := hp
      have h443 := hp
      have h444 := hp
      have hE445 : zm_E gt gv gp ge gh gm n0 gI I424 J426 (.inr (tq, FS, fo - 1, ((n0 : Int) + ((NN).length : Int)), NN ++ [(11, fg, 0)])) := zm_E_ends hE421 h443 h441 (by omega) fI424 (by decide) hJ442
      have h446 := zm_E_W hE445
      have h447 := zm_E_D hE445
      refine lv_goto (tgt := 289) hx hb dX12_test_116 (by decide) ?_
      exact z_vret hx hb hr hK hS (Nat.le_of_ble_eq_true rfl) (Nat.le_of_ble_eq_true rfl) hlocks dX12_test_289 (shM, ad, I424, J426, PM ad) hW ⟨I424, J426, rfl, ⟨(by show 0 ≤ (I424 0 31).toInt ∧ (I424 0 31).toInt ≤ 500; exact k427), (by show 0 ≤ (I424 0 33).toInt ∧ (I424 0 33).toInt ≤ 500; exact k428), (by show 0 ≤ (I424 0 34).toInt ∧ (I424 0 34).toInt ≤ 500; exact k429), (by show 0 ≤ (I424 0 35).toInt ∧ (I424 0 35).toInt ≤ 500; exact k430)⟩, ⟨(by show 0 ≤ (I424 0 36).toInt ∧ (I424 0 36).toInt ≤ 4; exact k431), (by show 0 ≤ (I424 0 42).toInt ∧ (I424 0 42).toInt ≤ 1; exact k432)⟩, ⟨(by show 0 ≤ (I424 0 47).toInt ∧ (I424 0 47).toInt ≤ 119; exact hI424md.1), (by show 0 ≤ (I424 0 39).toInt ∧ (I424 0 39).toInt ≤ 100; exact hI424md.2)⟩, (by show 0 ≤ (I424 0 40).toInt ∧ (I424 0 40).toInt ≤ 6199; exact hI424mg), (by show 0 ≤ (I424 0 15).toInt ∧ (I424 0 15).toInt ≤ 6100; exact k433), (z_Nd_fr hI391Nd fI424 (by decide)), (by show 0 ≤ (I424 0 35).toInt ∧ (I424 0 35).toInt ≤ (I424 0 34).toInt ∧ (I424 0 34).toInt ≤ (I424 0 33).toInt ∧ (I424 0 33).toInt ≤ 500 ∧ ((I424 0 36).toInt = 0 ∨ (I424 0 35).toInt + 1 ≤ (I424 0 34).toInt); first | omega | decide), f425, ⟨((Classical.em ((I424 0 42).toInt = 0)).elim (fun hw9 => Or.inr ⟨a1.toNatClampNeg, by have w1 := z_fw_514 (a := va.toInt) (o := vo.toInt) (by omega); have w2 := z_fo_5y (a := va.toInt) (by omega); exact z_POP (d := a1.toNatClampNeg) hPS (fun i hi => ⟨by rw [fI424 26 i (z_wr_c (by decide)), fI391 26 i (z_wr_c (by decide)), eI384, z_up_n (by decide)], by rw [fI424 27 i (z_wr_c (by decide)), fI391 27 i (z_wr_c (by decide)), eI384, z_up_n (by decide)], by rw [fI424 28 i (z_wr_c (by decide)), fI391 28 i (z_wr_c (by decide)), eI384, z_up_n (by decide)], by rw [fI424 29 i (z_wr_c (by decide)), fI391 29 i (z_wr_c (by decide)), eI384, z_up_n (by decide)]⟩) (by omega) (by omega) (by omega) (by omega) (by omega) (by omega)⟩) Or.inl), (by have hz9 : zp_st gt gv (n0 : Int) (.inr (tq, (5, fa, fx, fs) :: FS, fo, fg, NN)) = .inr (tq, FS, fo - 1, ((n0 : Int) + ((NN).length : Int)), NN ++ [(11, fg, 0)]) := (by first | (simp [zp_st, zp_op, zp_cm, zp_cb, (show fa = 1 by omega)]; done) | (exfalso; omega)); rw [hz9]; exact hE445)⟩⟩
  · have g448 := z_f_eq rfl z_l0 c1
    refine lv_aload_n hx hb dX12_test_9 rfl (lv_at hl 0 rfl) ?_
    refine lv_ldc2 (v := 10631) hx hb hown (hts (.constantLong RX12 394 (10631)) (me_s (me_l (me_l (List.mem_of_getElem? (i := 1) rfl))))) dX12_test_10 ?_
    refine z_ci hW hS hA (va_runV (As := [.long 10631]) (rest := []) ⟨hx, hb, hml, hown, hts⟩ (sx_X12_isWord_x l G ad I J ⟨(by show 0 ≤ (I 0 36).toInt ∧ (I 0 36).toInt ≤ 4; exact hmt.1), (by show 0 ≤ (I 0 42).toInt ∧ (I 0 42).toInt ≤ 1; exact hmt.2)⟩ 10631 _) (cwV 1 hts gX12_test_X12_isWord rfl rfl rfl (by decide +kernel) ⟨Nat.le_of_ble_eq_true rfl, Nat.le_of_ble_eq_true rfl⟩) (z_preV (i := 0) hK hW rfl rfl) rfl rfl hl.1 rfl (lv_room (Nat.le_of_ble_eq_true rfl)) dX12_test_13 ⟨Nat.le_of_ble_eq_true rfl, Nat.le_of_ble_eq_true rfl⟩) (fun r u1 H locs hp hW hS => ?_)
    obtain ⟨e9, hp⟩ := hp
    rw [e9] at hW
    rcases hp with ⟨rfl, h449, h450⟩ | ⟨rfl, h449⟩
    · have ht451 : gt (tq) = 311 := (zm_E_wo (i := 11) (by decide) hE).mp ⟨h449, h450.trans (show (10631 : Int64).toInt = zp_K.getD 11 0 by decide)⟩
      have h452 := h449
      have h453 : (I 0 35).toInt + 1 ≤ (I 0 34).toInt := by omega
      refine lv_if_eq (tgt := 38) hx hb dX12_test_16 (by decide) (fun c454 => absurd c454 (by decide)) (fun c454 => ?_)
      refine lv_aload_n hx hb dX12_test_19 rfl (lv_at hl 0 rfl) ?_
      refine z_cv hW hS hA (va_runV (As := []) (rest := []) ⟨hx, hb, hml, hown, hts⟩ (sx_X12_opens_x l G ad I J ⟨(by show 0 ≤ (I 0 31).toInt ∧ (I 0 31).toInt ≤ 500; exact hmp.1), (by show 0 ≤ (I 0 33).toInt ∧ (I 0 33).toInt ≤ 500; exact hmp.2.1), (by show 0 ≤ (I 0 34).toInt ∧ (I 0 34).toInt ≤ 500; exact hmp.2.2.1), (by show 0 ≤ (I 0 35).toInt ∧ (I 0 35).toInt ≤ 500; exact hmp.2.2.2)⟩ ⟨(by show 0 ≤ (I 0 36).toInt ∧ (I 0 36).toInt ≤ 4; exact hmt.1), (by show 0 ≤ (I 0 42).toInt ∧ (I 0 42).toInt ≤ 1; exact hmt.2)⟩ (by show 0 ≤ (I 0 35).toInt ∧ (I 0 35).toInt ≤ (I 0 34).toInt ∧ (I 0 34).toInt ≤ (I 0 33).toInt ∧ (I 0 33).toInt ≤ 500 ∧ ((I 0 36).toInt = 0 ∨ (I 0 35).toInt + 1 ≤ (I 0 34).toInt); first | omega | decide) ⟨(by show 0 ≤ (I 0 47).toInt ∧ (I 0 47).toInt ≤ 119; exact hmd.1), (by show 0 ≤ (I 0 39).toInt ∧ (I 0 39).toInt ≤ 100; exact hmd.2)⟩ gt gv gp ge gh gm n0 gI (tq) ((5, fa, fx, fs) :: FS) (fo) (fg) (NN) (by show (I 0 39).toInt ≤ 9; omega) hE hSM (by omega) _) (cwV 0 hts gX12_test_X12_opens rfl rfl rfl (by decide +kernel) ⟨Nat.le_of_ble_eq_true rfl, Nat.le_of_ble_eq_true rfl⟩) (z_preV (i := 0) hK hW rfl rfl) rfl rfl hl.1 rfl (lv_room (Nat.le_of_ble_eq_true rfl)) dX12_test_20 ⟨Nat.le_of_ble_eq_true rfl, Nat.le_of_ble_eq_true rfl⟩) (fun u1 H locs hp hW hS => ?_)
      obtain ⟨I455, J457, e9, hI455mp, hI455mt, hI455rp, hI455md, fI455, hp⟩ := hp
      rw [e9] at hW
      have f456 := z_fr_sub (L := L_X12_test_x) z_fr_0 fI455 (by decide)
      have k458 : 0 ≤ (I455 0 40).toInt ∧ (I455 0 40).toInt ≤ 6199 := by rw [fI455 0 40 (by decide)]; exact (by show 0 ≤ (I 0 40).toInt ∧ (I 0 40).toInt ≤ 6199; exact hmg)
      have k459 : 0 ≤ (I455 0 15).toInt ∧ (I455 0 15).toInt ≤ 6100 := by rw [fI455 0 15 (by decide)]; exact (by show 0 ≤ (I 0 15).toInt ∧ (I 0 15).toInt ≤ 6100; exact hmn)
      have k460 : 0 ≤ (I455 0 35).toInt ∧ (I455 0 35).toInt ≤ (I455 0 34).toInt ∧ (I455 0 34).toInt ≤ (I455 0 33).toInt ∧ (I455 0 33).toInt ≤ 500 ∧ ((I455 0 36).toInt = 0 ∨ (I455 0 35).toInt + 1 ≤ (I455 0 34).toInt) := hI455rp
      have k461 : (I455 0 47).toInt = (I 0 47).toInt := by rw [fI455 0 47 (by decide)]
      have k462 : (I455 0 15).toInt = (I 0 15).toInt := by rw [fI455 0 15 (by decide)]
      have k463 : (I455 0 40).toInt = (I 0 40).toInt := by rw [fI455 0 40 (by decide)]
      obtain ⟨h464, h465, h466, h467⟩ := hp
      rcases h467 with ⟨ht468, he469⟩ | ⟨ht468, he469⟩
      · have hE470 : zm_E gt gv gp ge gh gm n0 gI I455 J457 (.inr (tq + 1, (5, fa, fx, fs) :: FS, fo + 1, fg, NN)) := he469
        have h471 := zm_E_W hE470
        have h472 := zm_E_D hE470
        refine lv_aload_n hx hb dX12_test_23 rfl (lv_at hl 0 rfl) ?_
        refine z_get (T := TX12) (N := 96) (ci := 12) (i := 0) (v := .ref (ad 27)) hx hb hts zj_X12_test_X12 hown hK hW rfl rfl 44 (by decide) (hts (.fieldLink RX12 94 "PetrolBoardModel" "at" "[I") (me_s (me_l (me_l (List.mem_of_getElem? (i := 0) rfl))))) (fun _ h => h) rfl dX12_test_24 ?_
        refine lv_iload_n hx hb dX12_test_27 rfl (lv_at hl 1 rfl) ?_
        refine lv_iconst (v := 1) hx hb dX12_test_28 (by decide) ?_
        refine z_iast (i := 27) hx hb hK hW hS rfl (z_ix rfl (by omega) (by omega)) dX12_test_29 (fun H locs hz1 hW hS => ?_)
        obtain ⟨I473, eI473⟩ : ∃ K : z_I, K = z_up I455 27 a1.toNatClampNeg 1 := ⟨_, rfl⟩
        rw [← eI473] at hW
        have f474 := z_fr_a f456 (show z_wa L_X12_test_x 27 = true by decide) eI473
        have a475 := z_Nd_n (z_Nd_fr hNd fI455 (by decide)) (by decide) eI473
        have z476 := z_l1
        have hE477 : zm_E gt gv gp ge gh gm n0 gI I473 J457 (.inr (tq + 1, (5, 1, fx, fs) :: FS, fo + 1, fg, NN)) := zm_E_top hE470 eI473 hdk (Or.inl ⟨rfl, by omega, rfl, rfl, rfl⟩)
        have h478 := zm_E_W hE477
        have h479 := zm_E_D hE477
        refine lv_aload_n hx hb dX12_test_30 rfl (lv_at hl 0 rfl) ?_
        refine lv_iconst (v := 5) hx hb dX12_test_31 (by decide) ?_
        refine z_cv hW hS hA (va_runV (As := [.int 5]) (rest := []) ⟨hx, hb, hml, hown, hts⟩ (sx_X12_begin_x l G ad I473 J457 ⟨(by show 0 ≤ (I473 0 47).toInt ∧ (I473 0 47).toInt ≤ 119; rw [eI473, z_up_n (by decide)]; exact hI455md.1), (by show 0 ≤ (I473 0 39).toInt ∧ (I473 0 39).toInt ≤ 100; rw [eI473, z_up_n (by decide)]; exact hI455md.2)⟩ 5 (by have q0 : (I473 0 47) = (I455 0 47) := (by rw [eI473, z_up_n (by decide)]); show (I473 0 47).toInt ≤ 118; rw [q0]; omega) _) (cwV 1 hts gX12_test_X12_begin rfl rfl rfl (by decide +kernel) ⟨Nat.le_of_ble_eq_true rfl, Nat.le_of_ble_eq_true rfl⟩) (z_preV (i := 0) hK hW rfl rfl) rfl rfl hl.1 rfl (lv_room (Nat.le_of_ble_eq_true rfl)) dX12_test_32 ⟨Nat.le_of_ble_eq_true rfl, Nat.le_of_ble_eq_true rfl⟩) (fun u1 H locs hp hW hS => ?_)
        obtain ⟨I480, J482, e9, hI480md, fI480, hp⟩ := hp
        rw [e9] at hW
        have f481 := z_fr_sub (L := L_X12_test_x) f474 fI480 (by decide)
        have k483 : 0 ≤ (I480 0 31).toInt ∧ (I480 0 31).toInt ≤ 500 := by rw [fI480 0 31 (by decide)]; exact (by show 0 ≤ (I473 0 31).toInt ∧ (I473 0 31).toInt ≤ 500; rw [eI473, z_up_n (by decide)]; exact hI455mp.1)
        have k484 : 0 ≤ (I480 0 33).toInt ∧ (I480 0 33).toInt ≤ 500 := by rw [fI480 0 33 (by decide)]; exact (by show 0 ≤ (I473 0 33).toInt ∧ (I473 0 33).toInt ≤ 500; rw [eI473, z_up_n (by decide)]; exact hI455mp.2.1)
        have k485 : 0 ≤ (I480 0 34).toInt ∧ (I480 0 34).toInt ≤ 500 := by rw [fI480 0 34 (by decide)]; exact (by show 0 ≤ (I473 0 34).toInt ∧ (I473 0 34).toInt ≤ 500; rw [eI473, z_up_n (by decide)]; exact hI455mp.2.2.1)
        have k486 : 0 ≤ (I480 0 35).toInt ∧ (I480 0 35).toInt ≤ 500 := by rw [fI480 0 35 (by decide)]; exact (by show 0 ≤ (I473 0 35).toInt ∧ (I473 0 35).toInt ≤ 500; rw [eI473, z_up_n (by decide)]; exact hI455mp.2.2.2)
        have k487 : 0 ≤ (I480 0 36).toInt ∧ (I480 0 36).toInt ≤ 4 := by rw [fI480 0 36 (by decide)]; exact (by show 0 ≤ (I473 0 36).toInt ∧ (I473 0 36).toInt ≤ 4; rw [eI473, z_up_n (by decide)]; exact hI455mt.1)
        have k488 : 0 ≤ (I480 0 42).toInt ∧ (I480 0 42).toInt ≤ 1 := by rw [fI480 0 42 (by decide)]; exact (by show 0 ≤ (I473 0 42).toInt ∧ (I473 0 42).toInt ≤ 1; rw [eI473, z_up_n (by decide)]; exact hI455mt.2)
        have k489 : 0 ≤ (I480 0 40).toInt ∧ (I480 0 40).toInt ≤ 6199 := by rw [fI480 0 40 (by decide)]; exact (by show 0 ≤ (I473 0 40).toInt ∧ (I473 0 40).toInt ≤ 6199; rw [eI473, z_up_n (by decide)]; exact k458)
        have k490 : 0 ≤ (I480 0 15).toInt ∧ (I480 0 15).toInt ≤ 6100 := by rw [fI480 0 15 (by decide)]; exact (by show 0 ≤ (I473 0 15).toInt ∧ (I473 0 15).toInt ≤ 6100; rw [eI473, z_up_n (by decide)]; exact k459)
        have k491 : 0 ≤ (I480 0 35).toInt ∧ (I480 0 35).toInt ≤ (I480 0 34).toInt ∧ (I480 0 34).toInt ≤ (I480 0 33).toInt ∧ (I480 0 33).toInt ≤ 500 ∧ ((I480 0 36).toInt = 0 ∨ (I480 0 35).toInt + 1 ≤ (I480 0 34).toInt) := (by have q0 : (I480 0 35) = (I455 0 35) := (by rw [fI480 0 35 (by decide), eI473, z_up_n (by decide)]); have q1 : (I480 0 34) = (I455 0 34) := (by rw [fI480 0 34 (by decide), eI473, z_up_n (by decide)]); have q2 : (I480 0 33) = (I455 0 33) := (by rw [fI480 0 33 (by decide), eI473, z_up_n (by decide)]); have q3 : (I480 0 36) = (I455 0 36) := (by rw [fI480 0 36 (by decide), eI473, z_up_n (by decide)]); show 0 ≤ (I480 0 35).toInt ∧ (I480 0 35).toInt ≤ (I480 0 34).toInt ∧ (I480 0 34).toInt ≤ (I480 0 33).toInt ∧ (I480 0 33).toInt ≤ 500 ∧ ((I480 0 36).toInt = 0 ∨ (I480 0 35).toInt + 1 ≤ (I480 0 34).toInt); rw [q0, q1, q2, q3]; first | omega | decide)
        have k492 : (I480 0 35).toInt = (I455 0 35).toInt := by rw [fI480 0 35 (by decide), eI473, z_up_n (by decide)]
        have k493 : (I480 0 34).toInt = (I455 0 34).toInt := by rw [fI480 0 34 (by decide), eI473, z_up_n (by decide)]
        have k494 : (I480 0 36).toInt = (I455 0 36).toInt := by rw [fI480 0 36 (by decide), eI473, z_up_n (by decide)]
        have k495 : (I480 0 42).toInt = (I455 0 42).toInt := by rw [fI480 0 42 (by decide), eI473, z_up_n (by decide)]
        have k496 : (I480 0 39).toInt = (I455 0 39).toInt := by rw [fI480 0 39 (by decide), eI473, z_up_n (by decide)]
        have k497 : (I480 0 15).toInt = (I455 0 15).toInt := by rw [fI480 0 15 (by decide), eI473, z_up_n (by decide)]
        have k498 : (I480 0 40).toInt = (I455 0 40).toInt := by rw [fI480 0 40 (by decide), eI473, z_up_n (by decide)]
        obtain ⟨hp, hJ499⟩ := hp
        have h500 := hp
        have hE501 : zm_E gt gv gp ge gh gm n0 gI I480 J482 (.inr (tq + 1, (5, 0, -1, 0) :: (5, 1, fx, fs) :: FS, fo + 1, fg, NN)) := zm_E_begin hE477 h500 z_l5 fI480 (by decide) hJ499
        have h502 := zm_E_W hE501
        have h503 := zm_E_D hE501
        refine lv_goto (tgt := 289) hx hb dX12_test_35 (by decide) ?_
        exact z_vret hx hb hr hK hS (Nat.le_of_ble_eq_true rfl) (Nat.le_of_ble_eq_true rfl) hlocks dX12_test_289 (shM, ad, I480, J482, PM ad) hW ⟨I480, J482, rfl, ⟨(by show 0 ≤ (I480 0 31).toInt ∧ (I480 0 31).toInt ≤ 500; exact k483), (by show 0 ≤ (I480 0 33).toInt ∧ (I480 0 33).toInt ≤ 500; exact k484), (by show 0 ≤ (I480 0 34).toInt ∧ (I480 0 34).toInt ≤ 500; exact k485), (by show 0 ≤ (I480 0 35).toInt ∧ (I480 0 35).toInt ≤ 500; exact k486)⟩, ⟨(by show 0 ≤ (I480 0 36).toInt ∧ (I480 0 36).toInt ≤ 4; exact k487), (by show 0 ≤ (I480 0 42).toInt ∧ (I480 0 42).toInt ≤ 1; exact k488)⟩, ⟨(by show 0 ≤ (I480 0 47).toInt ∧ (I480 0 47).toInt ≤ 119; exact hI480md.1), (by show 0 ≤ (I480 0 39).toInt ∧ (I480 0 39).toInt ≤ 100; exact hI480md.2)⟩, (by show 0 ≤ (I480 0 40).toInt ∧ (I480 0 40).toInt ≤ 6199; exact k489), (by show 0 ≤ (I480 0 15).toInt ∧ (I480 0 15).toInt ≤ 6100; exact k490), (z_Nd_fr a475 fI480 (by decide)), (by show 0 ≤ (I480 0 35).toInt ∧ (I480 0 35).toInt ≤ (I480 0 34).toInt ∧ (I480 0 34).toInt ≤ (I480 0 33).toInt ∧ (I480 0 33).toInt ≤ 500 ∧ ((I480 0 36).toInt = 0 ∨ (I480 0 35).toInt + 1 ≤ (I480 0 34).toInt); first | omega | decide), f481, ⟨((Classical.em ((I480 0 42).toInt = 0)).elim (fun hw9 => Or.inr ⟨a1.toNatClampNeg + 2, by have w1 := z_fw_50 (a := va.toInt) (o := vo.toInt) (by omega); have w2 := z_fo_5n (a := va.toInt) (by omega); have w3 := z_fw_514 (a := 1) (o := vo.toInt) (by omega); have w4 := z_fo_5y (a := 1) (by omega); have w5 := z_fw_50 (a := 0) (o := -1) (by omega); have w6 := z_rk_5; have w7 := z_rk_5; exact z_PUSH (d := a1.toNatClampNeg) (w := 5) (a := 1) (o := vo.toInt) (s := vs.toInt) (wi := 5) hPS (fun i hi => ⟨by rw [eI473, z_up_n (by decide), fI455 26 i (z_wr_c (by decide))], by rw [eI473, z_up_k (by omega), fI455 27 i (z_wr_c (by decide))], by rw [eI473, z_up_n (by decide), fI455 28 i (z_wr_c (by decide))], by rw [eI473, z_up_n (by decide), fI455 29 i (z_wr_c (by decide))]⟩) (by rw [show I473 26 a1.toNatClampNeg = vw from (by rw [eI473, z_up_n (by decide), fI455 26 a1.toNatClampNeg (z_wr_c (by decide))]; exact evw.symm)]; exact hvw) (by rw [show I473 27 a1.toNatClampNeg = 1 from (by rw [eI473, z_up_s])]; exact z_l1) (by rw [show I473 28 a1.toNatClampNeg = vo from (by rw [eI473, z_up_n (by decide), fI455 28 a1.toNatClampNeg (z_wr_c (by decide))]; exact evo.symm)]) (by rw [show I473 29 a1.toNatClampNeg = vs from (by rw [eI473, z_up_n (by decide), fI455 29 a1.toNatClampNeg (z_wr_c (by decide))]; exact evs.symm)]) (by unfold z_fv; omega) hwd (by rw [eI473, z_up_n (by decide)]; omega) h500 z_l5 (by omega) (by omega) (by omega) (by omega) (by omega) (by omega) (by omega) (by omega)⟩) Or.inl), (by have hz9 : zp_st gt gv (n0 : Int) (.inr (tq, (5, fa, fx, fs) :: FS, fo, fg, NN)) = .inr (tq + 1, (5, 0, -1, 0) :: (5, 1, fx, fs) :: FS, fo + 1, fg, NN) := (by first | (simp [zp_st, zp_op, zp_cm, zp_cb, (show fa = 0 by omega), ht451, ht468]; done) | (exfalso; omega)); rw [hz9]; exact hE501)⟩⟩
      · have hE504 : zm_E gt gv gp ge gh gm n0 gI I455 J457 (.inl (tq)) := he469
        have h505 := zm_E_L hE504
        refine lv_aload_n hx hb dX12_test_23 rfl (lv_at hl 0 rfl) ?_
        refine z_get (T := TX12) (N := 96) (ci := 12) (i := 0) (v := .ref (ad 27)) hx hb hts zj_X12_test_X12 hown hK hW rfl rfl 44 (by decide) (hts (.fieldLink RX12 94 "PetrolBoardModel" "at" "[I") (me_s (me_l (me_l (List.mem_of_getElem? (i := 0) rfl))))) (fun _ h => h) rfl dX12_test_24 ?_
        refine lv_iload_n hx hb dX12_test_27 rfl (lv_at hl 1 rfl) ?_
        refine lv_iconst (v := 1) hx hb dX12_test_28 (by decide) ?_
        refine z_iast (i := 27) hx hb hK hW hS rfl (z_ix rfl (by omega) (by omega)) dX12_test_29 (fun H locs hz1 hW hS => ?_)
        obtain ⟨I506, eI506⟩ : ∃ K : z_I, K = z_up I455 27 a1.toNatClampNeg 1 := ⟨_, rfl⟩
        rw [← eI506] at hW
        have f507 := z_fr_a f456 (show z_wa L_X12_test_x 27 = true by decide) eI506
        have a508 := z_Nd_n (z_Nd_fr hNd fI455 (by decide)) (by decide) eI506
        have hE509 : zm_E gt gv gp ge gh gm n0 gI I506 J457 (.inl (tq)) := zm_E_w hE504 eI506 (by decide)
        have h510 := zm_E_L hE509
        refine lv_aload_n hx hb dX12_test_30 rfl (lv_at hl 0 rfl) ?_
        refine lv_iconst (v := 5) hx hb dX12_test_31 (by decide) ?_
        refine z_cv hW hS hA (va_runV (As := [.int 5]) (rest := []) ⟨hx, hb, hml, hown, hts⟩ (sx_X12_begin_x l G ad I506 J457 ⟨(by show 0 ≤ (I506 0 47).toInt ∧ (I506 0 47).toInt ≤ 119; rw [eI506, z_up_n (by decide)]; exact hI455md.1), (by show 0 ≤ (I506 0 39).toInt ∧ (I506 0 39).toInt ≤ 100; rw [eI506, z_up_n (by decide)]; exact hI455md.2)⟩ 5 (by have q0 : (I506 0 47) = (I455 0 47) := (by rw [eI506, z_up_n (by decide)]); show (I506 0 47).toInt ≤ 118; rw [q0]; omega) _) (cwV 1 hts gX12_test_X12_begin rfl rfl rfl (by decide +kernel) ⟨Nat.le_of_ble_eq_true rfl, Nat.le_of_ble_eq_true rfl⟩) (z_preV (i := 0) hK hW rfl rfl) rfl rfl hl.1 rfl (lv_room (Nat.le_of_ble_eq_true rfl)) dX12_test_32 ⟨Nat.le_of_ble_eq_true rfl, Nat.le_of_ble_eq_true rfl⟩) (fun u1 H locs hp hW hS => ?_)
        obtain ⟨I511, J513, e9, hI511md, fI511, hp⟩ := hp
        rw [e9] at hW
        have f512 := z_fr_sub (L := L_X12_test_x) f507 fI511 (by decide)
        have k514 : 0 ≤ (I511 0 31).toInt ∧ (I511 0 31).toInt ≤ 500 := by rw [fI511 0 31 (by decide)]; exact (by show 0 ≤ (I506 0 31).toInt ∧ (I506 0 31).toInt ≤ 500; rw [eI506, z_up_n (by decide)]; exact hI455mp.1)
        have k515 : 0 ≤ (I511 0 33).toInt ∧ (I511 0 33).toInt ≤ 500 := by rw [fI511 0 33 (by decide)]; exact (by show 0 ≤ (I506 0 33).toInt ∧ (I506 0 33).toInt ≤ 500; rw [eI506, z_up_n (by decide)]; exact hI455mp.2.1)
        have k516 : 0 ≤ (I511 0 34).toInt ∧ (I511 0 34).toInt ≤ 500 := by rw [fI511 0 34 (by decide)]; exact (by show 0 ≤ (I506 0 34).toInt ∧ (I506 0 34).toInt ≤ 500; rw [eI506, z_up_n (by decide)]; exact hI455mp.2.2.1)
        have k517 : 0 ≤ (I511 0 35).toInt ∧ (I511 0 35).toInt ≤ 500 := by rw [fI511 0 35 (by decide)]; exact (by show 0 ≤ (I506 0 35).toInt ∧ (I506 0 35).toInt ≤ 500; rw [eI506, z_up_n (by decide)]; exact hI455mp.2.2.2)
        have k518 : 0 ≤ (I511 0 36).toInt ∧ (I511 0 36).toInt ≤ 4 := by rw [fI511 0 36 (by decide)]; exact (by show 0 ≤ (I506 0 36).toInt ∧ (I506 0 36).toInt ≤ 4; rw [eI506, z_up_n (by decide)]; exact hI455mt.1)
        have k519 : 0 ≤ (I511 0 42).toInt ∧ (I511 0 42).toInt ≤ 1 := by rw [fI511 0 42 (by decide)]; exact (by show 0 ≤ (I506 0 42).toInt ∧ (I506 0 42).toInt ≤ 1; rw [eI506, z_up_n (by decide)]; exact hI455mt.2)
        have k520 : 0 ≤ (I511 0 40).toInt ∧ (I511 0 40).toInt ≤ 6199 := by rw [fI511 0 40 (by decide)]; exact (by show 0 ≤ (I506 0 40).toInt ∧ (I506 0 40).toInt ≤ 6199; rw [eI506, z_up_n (by decide)]; exact k458)
        have k521 : 0 ≤ (I511 0 15).toInt ∧ (I511 0 15).toInt ≤ 6100 := by rw [fI511 0 15 (by decide)]; exact (by show 0 ≤ (I506 0 15).toInt ∧ (I506 0 15).toInt ≤ 6100; rw [eI506, z_up_n (by decide)]; exact k459)
        have k522 : 0 ≤ (I511 0 35).toInt ∧ (I511 0 35).toInt ≤ (I511 0 34).toInt ∧ (I511 0 34).toInt ≤ (I511 0 33).toInt ∧ (I511 0 33).toInt ≤ 500 ∧ ((I511 0 36).toInt = 0 ∨ (I511 0 35).toInt + 1 ≤ (I511 0 34).toInt) := (by have q0 : (I511 0 35) = (I455 0 35) := (by rw [fI511 0 35 (by decide), eI506, z_up_n (by decide)]); have q1 : (I511 0 34) = (I455 0 34) := (by rw [fI511 0 34 (by decide), eI506, z_up_n (by decide)]); have q2 : (I511 0 33) = (I455 0 33) := (by rw [fI511 0 33 (by decide), eI506, z_up_n (by decide)]); have q3 : (I511 0 36) = (I455 0 36) := (by rw [fI511 0 36 (by decide), eI506, z_up_n (by decide)]); show 0 ≤ (I511 0 35).toInt ∧ (I511 0 35).toInt ≤ (I511 0 34).toInt ∧ (I511 0 34).toInt ≤ (I511 0 33).toInt ∧ (I511 0 33).toInt ≤ 500 ∧ ((I511 0 36).toInt = 0 ∨ (I511 0 35).toInt + 1 ≤ (I511 0 34).toInt); rw [q0, q1, q2, q3]; first | omega | decide)
        have k523 : (I511 0 35).toInt = (I455 0 35).toInt := by rw [fI511 0 35 (by decide), eI506, z_up_n (by decide)]
        have k524 : (I511 0 34).toInt = (I455 0 34).toInt := by rw [fI511 0 34 (by decide), eI506, z_up_n (by decide)]
        have k525 : (I511 0 36).toInt = (I455 0 36).toInt := by rw [fI511 0 36 (by decide), eI506, z_up_n (by decide)]
        have k526 : (I511 0 42).toInt = (I455 0 42).toInt := by rw [fI511 0 42 (by decide), eI506, z_up_n (by decide)]
        have k527 : (I511 0 39).toInt = (I455 0 39).toInt := by rw [fI511 0 39 (by decide), eI506, z_up_n (by decide)]
        have k528 : (I511 0 15).toInt = (I455 0 15).toInt := by rw [fI511 0 15 (by decide), eI506, z_up_n (by decide)]
        have k529 : (I511 0 40).toInt = (I455 0 40).toInt := by rw [fI511 0 40 (by decide), eI506, z_up_n (by decide)]
        obtain ⟨hp, hJ530⟩ := hp
        have h531 := hp
        have hE532 : zm_E gt gv gp ge gh gm n0 gI I511 J513 (.inl (tq)) := zm_E_wf hE509 fI511 (by decide) (by decide) (by decide)
        have h533 := zm_E_L hE532
        refine lv_goto (tgt := 289) hx hb dX12_test_35 (by decide) ?_
        exact z_vret hx hb hr hK hS (Nat.le_of_ble_eq_true rfl) (Nat.le_of_ble_eq_true rfl) hlocks dX12_test_289 (shM, ad, I511, J513, PM ad) hW ⟨I511, J513, rfl, ⟨(by show 0 ≤ (I511 0 31).toInt ∧ (I511 0 31).toInt ≤ 500; exact k514), (by show 0 ≤ (I511 0 33).toInt ∧ (I511 0 33).toInt ≤ 500; exact k515), (by show 0 ≤ (I511 0 34).toInt ∧ (I511 0 34).toInt ≤ 500; exact k516), (by show 0 ≤ (I511 0 35).toInt ∧ (I511 0 35).toInt ≤ 500; exact k517)⟩, ⟨(by show 0 ≤ (I511 0 36).toInt ∧ (I511 0 36).toInt ≤ 4; exact k518), (by show 0 ≤ (I511 0 42).toInt ∧ (I511 0 42).toInt ≤ 1; exact k519)⟩, ⟨(by show 0 ≤ (I511 0 47).toInt ∧ (I511 0 47).toInt ≤ 119; exact hI511md.1), (by show 0 ≤ (I511 0 39).toInt ∧ (I511 0 39).toInt ≤ 100; exact hI511md.2)⟩, (by show 0 ≤ (I511 0 40).toInt ∧ (I511 0 40).toInt ≤ 6199; exact k520), (by show 0 ≤ (I511 0 15).toInt ∧ (I511 0 15).toInt ≤ 6100; exact k521), (z_Nd_fr a508 fI511 (by decide)), (by show 0 ≤ (I511 0 35).toInt ∧ (I511 0 35).toInt ≤ (I511 0 34).toInt ∧ (I511 0 34).toInt ≤ (I511 0 33).toInt ∧ (I511 0 33).toInt ≤ 500 ∧ ((I511 0 36).toInt = 0 ∨ (I511 0 35).toInt + 1 ≤ (I511 0 34).toInt); first | omega | decide), f512, ⟨((Classical.em ((I511 0 42).toInt = 0)).elim (fun hw9 => Or.inr ⟨a1.toNatClampNeg + 2, by have w1 := z_fw_50 (a := va.toInt) (o := vo.toInt) (by omega); have w2 := z_fo_5n (a := va.toInt) (by omega); have w3 := z_fw_514 (a := 1) (o := vo.toInt) (by omega); have w4 := z_fo_5y (a := 1) (by omega); have w5 := z_fw_50 (a := 0) (o := -1) (by omega); have w6 := z_rk_5; have w7 := z_rk_5; exact z_PUSH (d := a1.toNatClampNeg) (w := 5) (a := 1) (o := vo.toInt) (s := vs.toInt) (wi := 5) hPS (fun i hi => ⟨by rw [eI506, z_up_n (by decide), fI455 26 i (z_wr_c (by decide))], by rw [eI506, z_up_k (by omega), fI455 27 i (z_wr_c (by decide))], by rw [eI506, z_up_n (by decide), fI455 28 i (z_wr_c (by decide))], by rw [eI506, z_up_n (by decide), fI455 29 i (z_wr_c (by decide))]⟩) (by rw [show I506 26 a1.toNatClampNeg = vw from (by rw [eI506, z_up_n (by decide), fI455 26 a1.toNatClampNeg (z_wr_c (by decide))]; exact evw.symm)]; exact hvw) (by rw [show I506 27 a1.toNatClampNeg = 1 from (by rw [eI506, z_up_s])]; exact z_l1) (by rw [show I506 28 a1.toNatClampNeg = vo from (by rw [eI506, z_up_n (by decide), fI455 28 a1.toNatClampNeg (z_wr_c (by decide))]; exact evo.symm)]) (by rw [show I506 29 a1.toNatClampNeg = vs from (by rw [eI506, z_up_n (by decide), fI455 29 a1.toNatClampNeg (z_wr_c (by decide))]; exact evs.symm)]) (by unfold z_fv; omega) hwd (by rw [eI506, z_up_n (by decide)]; omega) h531 z_l5 (by omega) (by omega) (by omega) (by omega) (by omega) (by omega) (by omega) (by omega)⟩) Or.inl), (by have hz9 : zp_st gt gv (n0 : Int) (.inr (tq, (5, fa, fx, fs) :: FS, fo, fg, NN)) = .inl (tq) := (by first | (simp [zp_st, zp_op, zp_cm, zp_cb, (show fa = 0 by omega), ht451, ht468]; done) | (exfalso; omega)); rw [hz9]; exact hE532)⟩⟩
    · have ht534 : ¬ gt (tq) = 311 := fun q => h449 (by have q9 := (zm_E_wo (i := 11) (by decide) hE).mpr q; exact ⟨q9.1, q9.2.trans (show (10631 : Int64).toInt = zp_K.getD 11 0 by decide).symm⟩)
      refine lv_if_eq (tgt := 38) hx hb dX12_test_16 (by decide) (fun c535 => ?_) (fun c535 => absurd (by decide) c535)
      refine lv_aload_n hx hb dX12_test_38 rfl (lv_at hl 0 rfl) ?_
      refine lv_bipush (v := 123) hx hb dX12_test_39 (by decide) ?_
      refine z_ci hW hS hA (va_runV (As := [.int 123]) (rest := []) ⟨hx, hb, hml, hown, hts⟩ (sx_X12_isSign_x l G ad I J ⟨(by show 0 ≤ (I 0 36).toInt ∧ (I 0 36).toInt ≤ 4; exact hmt.1), (by show 0 ≤ (I 0 42).toInt ∧ (I 0 42).toInt ≤ 1; exact hmt.2)⟩ 123 _) (cwV 1 hts gX12_test_X12_isSign rfl rfl rfl (by decide +kernel) ⟨Nat.le_of_ble_eq_true rfl, Nat.le_of_ble_eq_true rfl⟩) (z_preV (i := 0) hK hW rfl rfl) rfl rfl hl.1 rfl (lv_room (Nat.le_of_ble_eq_true rfl)) dX12_test_41 ⟨Nat.le_of_ble_eq_true rfl, Nat.le_of_ble_eq_true rfl⟩) (fun r u1 H locs hp hW hS => ?_)
      obtain ⟨e9, hp⟩ := hp
      rw [e9] at hW
      rcases hp with ⟨rfl, h536, h537⟩ | ⟨rfl, h536⟩
      · have z538 := z_l123
        have ht539 : gt (tq) = 123 := (zm_E_sg (show zp_sg 123 by unfold zp_sg; omega) hE).mp ⟨h536, by omega⟩
        have h540 := h536
        have h541 : (I 0 35).toInt + 1 ≤ (I 0 34).toInt := by omega
        refine lv_if_eq (tgt := 66) hx hb dX12_test_44 (by decide) (fun c542 => absurd c542 (by decide)) (fun c542 => ?_)
        refine lv_aload_n hx hb dX12_test_47 rfl (lv_at hl 0 rfl) ?_
        refine z_cv hW hS hA (va_runV (As := []) (rest := []) ⟨hx, hb, hml, hown, hts⟩ (sx_X12_opens_x l G ad I J ⟨(by show 0 ≤ (I 0 31).toInt ∧ (I 0 31).toInt ≤ 500; exact hmp.1), (by show 0 ≤ (I 0 33).toInt ∧ (I 0 33).toInt ≤ 500; exact hmp.2.1), (by show 0 ≤ (I 0 34).toInt ∧ (I 0 34).toInt ≤ 500; exact hmp.2.2.1), (by show 0 ≤ (I 0 35).toInt ∧ (I 0 35).toInt ≤ 500; exact hmp.2.2.2)⟩ ⟨(by show 0 ≤ (I 0 36).toInt ∧ (I 0 36).toInt ≤ 4; exact hmt.1), (by show 0 ≤ (I 0 42).toInt ∧ (I 0 42).toInt ≤ 1; exact hmt.2)⟩ (by show 0 ≤ (I 0 35).toInt ∧ (I 0 35).toInt ≤ (I 0 34).toInt ∧ (I 0 34).toInt ≤ (I 0 33).toInt ∧ (I 0 33).toInt ≤ 500 ∧ ((I 0 36).toInt = 0 ∨ (I 0 35).toInt + 1 ≤ (I 0 34).toInt); first | omega | decide) ⟨(by show 0 ≤ (I 0 47).toInt ∧ (I 0 47).toInt ≤ 119; exact hmd.1), (by show 0 ≤ (I 0 39).toInt ∧ (I 0 39).toInt ≤ 100; exact hmd.2)⟩ gt gv gp ge gh gm n0 gI (tq) ((5, fa, fx, fs) :: FS) (fo) (fg) (NN) (by show (I 0 39).toInt ≤ 9; omega) hE hSM (by omega) _) (cwV 0 hts gX12_test_X12_opens rfl rfl rfl (by decide +kernel) ⟨Nat.le_of_ble_eq_true rfl, Nat.le_of_ble_eq_true rfl⟩) (z_preV (i := 0) hK hW rfl rfl) rfl rfl hl.1 rfl (lv_room (Nat.le_of_ble_eq_true rfl)) dX12_test_48 ⟨Nat.le_of_ble_eq_true rfl, Nat.le_of_ble_eq_true rfl⟩) (fun u1 H locs hp hW hS => ?_)
        obtain ⟨I543, J545, e9, hI543mp, hI543mt, hI543rp, hI543md, fI543, hp⟩ := hp
        rw [e9] at hW
        have f544 := z_fr_sub (L := L_X12_test_x) z_fr_0 fI543 (by decide)
        have k546 : 0 ≤ (I543 0 40).toInt ∧ (I543 0 40).toInt ≤ 6199 := by rw [fI543 0 40 (by decide)]; exact (by show 0 ≤ (I 0 40).toInt ∧ (I 0 40).toInt ≤ 6199; exact hmg)
        have k547 : 0 ≤ (I543 0 15).toInt ∧ (I543 0 15).toInt ≤ 6100 := by rw [fI543 0 15 (by decide)]; exact (by show 0 ≤ (I 0 15).toInt ∧ (I 0 15).toInt ≤ 6100; exact hmn)
        have k548 : 0 ≤ (I543 0 35).toInt ∧ (I543 0 35).toInt ≤ (I543 0 34).toInt ∧ (I543 0 34).toInt ≤ (I543 0 33).toInt ∧ (I543 0 33).toInt ≤ 500 ∧ ((I543 0 36).toInt = 0 ∨ (I543 0 35).toInt + 1 ≤ (I543 0 34).toInt) := hI543rp
        have k549 : (I543 0 47).toInt = (I 0 47).toInt := by rw [fI543 0 47 (by decide)]
        have k550 : (I543 0 15).toInt = (I 0 15).toInt := by rw [fI543 0 15 (by decide)]
        have k551 : (I543 0 40).toInt = (I 0 40).toInt := by rw [fI543 0 40 (by decide)]
        obtain ⟨h552, h553, h554, h555⟩ := hp
        rcases h555 with ⟨ht556, he557⟩ | ⟨ht556, he557⟩
        · have hE558 : zm_E gt gv gp ge gh gm n0 gI I543 J545 (.inr (tq + 1, (5, fa, fx, fs) :: FS, fo + 1, fg, NN)) := he557
          have h559 := zm_E_W hE558
          have h560 := zm_E_D hE558
          refine lv_aload_n hx hb dX12_test_51 rfl (lv_at hl 0 rfl) ?_
          refine z_get (T := TX12) (N := 96) (ci := 12) (i := 0) (v := .ref (ad 27)) hx hb hts zj_X12_test_X12 hown hK hW rfl rfl 44 (by decide) (hts (.fieldLink RX12 94 "PetrolBoardModel" "at" "[I") (me_s (me_l (me_l (List.mem_of_getElem? (i := 0) rfl))))) (fun _ h => h) rfl dX12_test_52 ?_
          refine lv_iload_n hx hb dX12_test_55 rfl (lv_at hl 1 rfl) ?_
          refine lv_iconst (v := 2) hx hb dX12_test_56 (by decide) ?_
          refine z_iast (i := 27) hx hb hK hW hS rfl (z_ix rfl (by omega) (by omega)) dX12_test_57 (fun H locs hz1 hW hS => ?_)
          obtain ⟨I561, eI561⟩ : ∃ K : z_I, K = z_up I543 27 a1.toNatClampNeg 2 := ⟨_, rfl⟩
          rw [← eI561] at hW
          have f562 := z_fr_a f544 (show z_wa L_X12_test_x 27 = true by decide) eI561
          have a563 := z_Nd_n (z_Nd_fr hNd fI543 (by decide)) (by decide) eI561
          have z564 := z_l2
          have hE565 : zm_E gt gv gp ge gh gm n0 gI I561 J545 (.inr (tq + 1, (5, 2, fx, fs) :: FS, fo + 1, fg, NN)) := zm_E_top hE558 eI561 hdk (Or.inl ⟨rfl, by omega, rfl, rfl, rfl⟩)
          have h566 := zm_E_W hE565
          have h567 := zm_E_D hE565
          refine lv_aload_n hx hb dX12_test_58 rfl (lv_at hl 0 rfl) ?_
          refine lv_iconst (v := 3) hx hb dX12_test_59 (by decide) ?_
          refine z_cv hW hS hA (va_runV (As := [.int 3]) (rest := []) ⟨hx, hb, hml, hown, hts⟩ (sx_X12_begin_x l G ad I561 J545 ⟨(by show 0 ≤ (I561 0 47).toInt ∧ (I561 0 47).toInt ≤ 119; rw [eI561, z_up_n (by decide)]; exact hI543md.1), (by show 0 ≤ (I561 0 39).toInt ∧ (I561 0 39).toInt ≤ 100; rw [eI561, z_up_n (by decide)]; exact hI543md.2)⟩ 3 (by have q0 : (I561 0 47) = (I543 0 47) := (by rw [eI561, z_up_n (by decide)]); show (I561 0 47).toInt ≤ 118; rw [q0]; omega) _) (cwV 1 hts gX12_test_X12_begin rfl rfl rfl (by decide +kernel) ⟨Nat.le_of_ble_eq_true rfl, Nat.le_of_ble_eq_true rfl⟩) (z_preV (i := 0) hK hW rfl rfl) rfl rfl hl.1 rfl (lv_room (Nat.le_of_ble_eq_true rfl)) dX12_test_60 ⟨Nat.le_of_ble_eq_true rfl, Nat.le_of_ble_eq_true rfl⟩) (fun u1 H locs hp hW hS => ?_)
          obtain ⟨I568, J570, e9, hI568md, fI568, hp⟩ := hp
          rw [e9] at hW
          have f569 := z_fr_sub (L := L_X12_test_x) f562 fI568 (by decide)
          have k571 : 0 ≤ (I568 0 31).toInt ∧ (I568 0 31).toInt ≤ 500 := by rw [fI568 0 31 (by decide)]; exact (by show 0 ≤ (I561 0 31).toInt ∧ (I561 0 31).toInt ≤ 500; rw [eI561, z_up_n (by decide)]; exact hI543mp.1)
          have k572 : 0 ≤ (I568 0 33).toInt ∧ (I568 0 33).toInt ≤ 500 := by rw [fI568 0 33 (by decide)]; exact (by show 0 ≤ (I561 0 33).toInt ∧ (I561 0 33).toInt ≤ 500; rw [eI561, z_up_n (by decide)]; exact hI543mp.2.1)
          have k573 : 0 ≤ (I568 0 34).toInt ∧ (I568 0 34).toInt ≤ 500 := by rw [fI568 0 34 (by decide)]; exact (by show 0 ≤ (I561 0 34).toInt ∧ (I561 0 34).toInt ≤ 500; rw [eI561, z_up_n (by decide)]; exact hI543mp.2.2.1)
          have k574 : 0 ≤ (I568 0 35).toInt ∧ (I568 0 35).toInt ≤ 500 := by rw [fI568 0 35 (by decide)]; exact (by show 0 ≤ (I561 0 35).toInt ∧ (I561 0 35).toInt ≤ 500; rw [eI561, z_up_n (by decide)]; exact hI543mp.2.2.2)
          have k575 : 0 ≤ (I568 0 36).toInt ∧ (I568 0 36).toInt ≤ 4 := by rw [fI568 0 36 (by decide)]; exact (by show 0 ≤ (I561 0 36).toInt ∧ (I561 0 36).toInt ≤ 4; rw [eI561, z_up_n (by decide)]; exact hI543mt.1)
          have k576 : 0 ≤ (I568 0 42).toInt ∧ (I568 0 42).toInt ≤ 1 := by rw [fI568 0 42 (by decide)]; exact (by show 0 ≤ (I561 0 42).toInt ∧ (I561 0 42).toInt ≤ 1; rw [eI561, z_up_n (by decide)]; exact hI543mt.2)
          have k577 : 0 ≤ (I568 0 40).toInt ∧ (I568 0 40).toInt ≤ 6199 := by rw [fI568 0 40 (by decide)]; exact (by show 0 ≤ (I561 0 40).toInt ∧ (I561 0 40).toInt ≤ 6199; rw [eI561, z_up_n (by decide)]; exact k546)
          have k578 : 0 ≤ (I568 0 15).toInt ∧ (I568 0 15).toInt ≤ 6100 := by rw [fI568 0 15 (by decide)]; exact (by show 0 ≤ (I561 0 15).toInt ∧ (I561 0 15).toInt ≤ 6100; rw [eI561, z_up_n (by decide)]; exact k547)
          have k579 : 0 ≤ (I568 0 35).toInt ∧ (I568 0 35).toInt ≤ (I568 0 34).toInt ∧ (I568 0 34).toInt ≤ (I568 0 33).toInt ∧ (I568 0 33).toInt ≤ 500 ∧ ((I568 0 36).toInt = 0 ∨ (I568 0 35).toInt + 1 ≤ (I568 0 34).toInt) := (by have q0 : (I568 0 35) = (I543 0 35) := (by rw [fI568 0 35 (by decide), eI561, z_up_n (by decide)]); have q1 : (I568 0 34) = (I543 0 34) := (by rw [fI568 0 34 (by decide), eI561, z_up_n (by decide)]); have q2 : (I568 0 33) = (I543 0 33) := (by rw [fI568 0 33 (by decide), eI561, z_up_n (by decide)]); have q3 : (I568 0 36) = (I543 0 36) := (by rw [fI568 0 36 (by decide), eI561, z_up_n (by decide)]); show 0 ≤ (I568 0 35).toInt ∧ (I568 0 35).toInt ≤ (I568 0 34).toInt ∧ (I568 0 34).toInt ≤ (I568 0 33).toInt ∧ (I568 0 33).toInt ≤ 500 ∧ ((I568 0 36).toInt = 0 ∨ (I568 0 35).toInt + 1 ≤ (I568 0 34).toInt); rw [q0, q1, q2, q3]; first | omega | decide)
          have k580 : (I568 0 35).toInt = (I543 0 35).toInt := by rw [fI568 0 35 (by decide), eI561, z_up_n (by decide)]
          have k581 : (I568 0 34).toInt = (I543 0 34).toInt := by rw [fI568 0 34 (by decide), eI561, z_up_n (by decide)]
          have k582 : (I568 0 36).toInt = (I543 0 36).toInt := by rw [fI568 0 36 (by decide), eI561, z_up_n (by decide)]
          have k583 : (I568 0 42).toInt = (I543 0 42).toInt := by rw [fI568 0 42 (by decide), eI561, z_up_n (by decide)]
          have k584 : (I568 0 39).toInt = (I543 0 39).toInt := by rw [fI568 0 39 (by decide), eI561, z_up_n (by decide)]
          have k585 : (I568 0 15).toInt = (I543 0 15).toInt := by rw [fI568 0 15 (by decide), eI561, z_up_n (by decide)]
          have k586 : (I568 0 40).toInt = (I543 0 40).toInt := by rw [fI568 0 40 (by decide), eI561, z_up_n (by decide)]
          obtain ⟨hp, hJ587⟩ := hp
          have h588 := hp
          have hE589 : zm_E gt gv gp ge gh gm n0 gI I568 J570 (.inr (tq + 1, (3, 0, -1, 0) :: (5, 2, fx, fs) :: FS, fo + 1, fg, NN)) := zm_E_begin hE565 h588 z_l3 fI568 (by decide) hJ587
          have h590 := zm_E_W hE589
          have h591 := zm_E_D hE589
          refine lv_goto (tgt := 289) hx hb dX12_test_63 (by decide) ?_
          exact z_vret hx hb hr hK hS (Nat.le_of_ble_eq_true rfl) (Nat.le_of_ble_eq_true rfl) hlocks dX12_test_289 (shM, ad, I568, J570, PM ad) hW ⟨I568, J570, rfl, ⟨(by show 0 ≤ (I568 0 31).toInt ∧ (I568 0 31).toInt ≤ 500; exact k571), (by show 0 ≤ (I568 0 33).toInt ∧ (I568 0 33).toInt ≤ 500; exact k572), (by show 0 ≤ (I568 0 34).toInt ∧ (I568 0 34).toInt ≤ 500; exact k573), (by show 0 ≤ (I568 0 35).toInt ∧ (I568 0 35).toInt ≤ 500; exact k574)⟩, ⟨(by show 0 ≤ (I568 0 36).toInt ∧ (I568 0 36).toInt ≤ 4; exact k575), (by show 0 ≤ (I568 0 42).toInt ∧ (I568 0 42).toInt ≤ 1; exact k576)⟩, ⟨(by show 0 ≤ (I568 0 47).toInt ∧ (I568 0 47).toInt ≤ 119; exact hI568md.1), (by show 0 ≤ (I568 0 39).toInt ∧ (I568 0 39).toInt ≤ 100; exact hI568md.2)⟩, (by show 0 ≤ (I568 0 40).toInt ∧ (I568 0 40).toInt ≤ 6199; exact k577), (by show 0 ≤ (I568 0 15).toInt ∧ (I568 0 15).toInt ≤ 6100; exact k578), (z_Nd_fr a563 fI568 (by decide)), (by show 0 ≤ (I568 0 35).toInt ∧ (I568 0 35).toInt ≤ (I568 0 34).toInt ∧ (I568 0 34).toInt ≤ (I568 0 33).toInt ∧ (I568 0 33).toInt ≤ 500 ∧ ((I568 0 36).toInt = 0 ∨ (I568 0 35).toInt + 1 ≤ (I568 0 34).toInt); first | omega | decide), f569, ⟨((Classical.em ((I568 0 42).toInt = 0)).elim (fun hw9 => Or.inr ⟨a1.toNatClampNeg + 2, by have w1 := z_fw_50 (a := va.toInt) (o := vo.toInt) (by omega); have w2 := z_fo_5n (a := va.toInt) (by omega); have w3 := z_fw_523 (a := 2) (o := vo.toInt) (by omega); have w4 := z_fo_5y (a := 2) (by omega); have w5 := z_fw_30 (a := 0) (o := -1) (by omega); have w6 := z_rk_5; have w7 := z_rk_3; exact z_PUSH (d := a1.toNatClampNeg) (w := 5) (a := 2) (o := vo.toInt) (s := vs.toInt) (wi := 3) hPS (fun i hi => ⟨by rw [eI561, z_up_n (by decide), fI543 26 i (z_wr_c (by decide))], by rw [eI561, z_up_k (by omega), fI543 27 i (z_wr_c (by decide))], by rw [eI561, z_up_n (by decide), fI543 28 i (z_wr_c (by decide))], by rw [eI561, z_up_n (by decide), fI543 29 i (z_wr_c (by decide))]⟩) (by rw [show I561 26 a1.toNatClampNeg = vw from (by rw [eI561, z_up_n (by decide), fI543 26 a1.toNatClampNeg (z_wr_c (by decide))]; exact evw.symm)]; exact hvw) (by rw [show I561 27 a1.toNatClampNeg = 2 from (by rw [eI561, z_up_s])]; exact z_l2) (by rw [show I561 28 a1.toNatClampNeg = vo from (by rw [eI561, z_up_n (by decide), fI543 28 a1.toNatClampNeg (z_wr_c (by decide))]; exact evo.symm)]) (by rw [show I561 29 a1.toNatClampNeg = vs from (by rw [eI561, z_up_n (by decide), fI543 29 a1.toNatClampNeg (z_wr_c (by decide))]; exact evs.symm)]) (by unfold z_fv; omega) hwd (by rw [eI561, z_up_n (by decide)]; omega) h588 z_l3 (by omega) (by omega) (by omega) (by omega) (by omega) (by omega) (by omega) (by omega)⟩) Or.inl), (by have hz9 : zp_st gt gv (n0 : Int) (.inr (tq, (5, fa, fx, fs) :: FS, fo, fg, NN)) = .inr (tq + 1, (3, 0, -1, 0) :: (5, 2, fx, fs) :: FS, fo + 1, fg, NN) := (by first | (simp [zp_st, zp_op, zp_cm, zp_cb, (show fa = 0 by omega), ht534, ht539, ht556]; done) | (exfalso; omega)); rw [hz9]; exact hE589)⟩⟩
        · have hE592 : zm_E gt gv gp ge gh gm n0 gI I543 J545 (.inl (tq)) := he557
          have h593 := zm_E_L hE592
          refine lv_aload_n hx hb dX12_test_51 rfl (lv_at hl 0 rfl) ?_
          refine z_get (T := TX12) (N := 96) (ci := 12) (i := 0) (v := .ref (ad 27)) hx hb hts zj_X12_test_X12 hown hK hW rfl rfl 44 (by decide) (hts (.fieldLink RX12 94 "PetrolBoardModel" "at" "[I") (me_s (me_l (me_l (List.mem_of_getElem? (i := 0) rfl))))) (fun _ h => h) rfl dX12_test_52 ?_
          refine lv_iload_n hx hb dX12_test_55 rfl (lv_at hl 1 rfl) ?_
          refine lv_iconst (v := 2) hx hb dX12_test_56 (by decide) ?_
          refine z_iast (i := 27) hx hb hK hW hS rfl (z_ix rfl (by omega) (by omega)) dX12_test_57 (fun H locs hz1 hW hS => ?_)
          obtain ⟨I594, eI594⟩ : ∃ K : z_I, K = z_up I543 27 a1.toNatClampNeg 2 := ⟨_, rfl⟩
          rw [← eI594] at hW
          have f595 := z_fr_a f544 (show z_wa L_X12_test_x 27 = true by decide) eI594
          have a596 := z_Nd_n (z_Nd_fr hNd fI543 (by decide)) (by decide) eI594
          have hE597 : zm_E gt gv gp ge gh gm n0 gI I594 J545 (.inl (tq)) := zm_E_w hE592 eI594 (by decide)
          have h598 := zm_E_L hE597
          refine lv_aload_n hx hb dX12_test_58 rfl (lv_at hl 0 rfl) ?_
          refine lv_iconst (v := 3) hx hb dX12_test_59 (by decide) ?_
          refine z_cv hW hS hA (va_runV (As := [.int 3]) (rest := []) ⟨hx, hb, hml, hown, hts⟩ (sx_X12_begin_x l G ad I594 J545 ⟨(by show 0 ≤ (I594 0 47).toInt ∧ (I594 0 47).toInt ≤ 119; rw [eI594, z_up_n (by decide)]; exact hI543md.1), (by show 0 ≤ (I594 0 39).toInt ∧ (I594 0 39).toInt ≤ 100; rw [eI594, z_up_n (by decide)]; exact hI543md.2)⟩ 3 (by have q0 : (I594 0 47) = (I543 0 47) := (by rw [eI594, z_up_n (by decide)]); show (I594 0 47).toInt ≤ 118; rw [q0]; omega) _) (cwV 1 hts gX12_test_X12_begin rfl rfl rfl (by decide +kernel) ⟨Nat.le_of_ble_eq_true rfl, Nat.le_of_ble_eq_true rfl⟩) (z_preV (i := 0) hK hW rfl rfl) rfl rfl hl.1 rfl (lv_room (Nat.le_of_ble_eq_true rfl)) dX12_test_60 ⟨Nat.le_of_ble_eq_true rfl, Nat.le_of_ble_eq_true rfl⟩) (fun u1 H locs hp hW hS => ?_)
          obtain ⟨I599, J601, e9, hI599md, fI599, hp⟩ := hp
          rw [e9] at hW
          have f600 := z_fr_sub (L := L_X12_test_x) f595 fI599 (by decide)
          have k602 : 0 ≤ (I599 0 31).toInt ∧ (I599 0 31).toInt ≤ 500 := by rw [fI599 0 31 (by decide)]; exact (by show 0 ≤ (I594 0 31).toInt ∧ (I594 0 31).toInt ≤ 500; rw [eI594, z_up_n (by decide)]; exact hI543mp.1)
          have k603 : 0 ≤ (I599 0 33).toInt ∧ (I599 0 33).toInt ≤ 500 := by rw [fI599 0 33 (by decide)]; exact (by show 0 ≤ (I594 0 33).toInt ∧ (I594 0 33).toInt ≤ 500; rw [eI594, z_up_n (by decide)]; exact hI543mp.2.1)
          have k604 : 0 ≤ (I599 0 34).toInt ∧ (I599 0 34).toInt ≤ 500 := by rw [fI599 0 34 (by decide)]; exact (by show 0 ≤ (I594 0 34).toInt ∧ (I594 0 34).toInt ≤ 500; rw [eI594, z_up_n (by decide)]; exact hI543mp.2.2.1)
          have k605 : 0 ≤ (I599 0 35).toInt ∧ (I599 0 35).toInt ≤ 500 := by rw [fI599 0 35 (by decide)]; exact (by show 0 ≤ (I594 0 35).toInt ∧ (I594 0 35).toInt ≤ 500; rw [eI594, z_up_n (by decide)]; exact hI543mp.2.2.2)
          have k606 : 0 ≤ (I599 0 36).toInt ∧ (I599 0 36).toInt ≤ 4 := by rw [fI599 0 36 (by decide)]; exact (by show 0 ≤ (I594 0 36).toInt ∧ (I594 0 36).toInt ≤ 4; rw [eI594, z_up_n (by decide)]; exact hI543mt.1)
          have k607 : 0 ≤ (I599 0 42).toInt ∧ (I599 0 42).toInt ≤ 1 := by rw [fI599 0 42 (by decide)]; exact (by show 0 ≤ (I594 0 42).toInt ∧ (I594 0 42).toInt ≤ 1; rw [eI594, z_up_n (by decide)]; exact hI543mt.2)
          have k608 : 0 ≤ (I599 0 40).toInt ∧ (I599 0 40).toInt ≤ 6199 := by rw [fI599 0 40 (by decide)]; exact (by show 0 ≤ (I594 0 40).toInt ∧ (I594 0 40).toInt ≤ 6199; rw [eI594, z_up_n (by decide)]; exact k546)
          have k609 : 0 ≤ (I599 0 15).toInt ∧ (I599 0 15).toInt ≤ 6100 := by rw [fI599 0 15 (by decide)]; exact (by show 0 ≤ (I594 0 15).toInt ∧ (I594 0 15).toInt ≤ 6100; rw [eI594, z_up_n (by decide)]; exact k547)
          have k610 : 0 ≤ (I599 0 35).toInt ∧ (I599 0 35).toInt ≤ (I599 0 34).toInt ∧ (I599 0 34).toInt ≤ (I599 0 33).toInt ∧ (I599 0 33).toInt ≤ 500 ∧ ((I599 0 36).toInt = 0 ∨ (I599 0 35).toInt + 1 ≤ (I599 0 34).toInt) := (by have q0 : (I599 0 35) = (I543 0 35) := (by rw [fI599 0 35 (by decide), eI594, z_up_n (by decide)]); have q1 : (I599 0 34) = (I543 0 34) := (by rw [fI599 0 34 (by decide), eI594, z_up_n (by decide)]); have q2 : (I599 0 33) = (I543 0 33) := (by rw [fI599 0 33 (by decide), eI594, z_up_n (by decide)]); have q3 : (I599 0 36) = (I543 0 36) := (by rw [fI599 0 36 (by decide), eI594, z_up_n (by decide)]); show 0 ≤ (I599 0 35).toInt ∧ (I599 0 35).toInt ≤ (I599 0 34).toInt ∧ (I599 0 34).toInt ≤ (I599 0 33).toInt ∧ (I599 0 33).toInt ≤ 500 ∧ ((I599 0 36).toInt = 0 ∨ (I599 0 35).toInt + 1 ≤ (I599 0 34).toInt); rw [q0, q1, q2, q3]; first | omega | decide)
          have k611 : (I599 0 35).toInt = (I543 0 35).toInt := by rw [fI599 0 35 (by decide), eI594, z_up_n (by decide)]
          have k612 : (I599 0 34).toInt = (I543 0 34).toInt := by rw [fI599 0 34 (by decide), eI594, z_up_n (by decide)]
          have k613 : (I599 0 36).toInt = (I543 0 36).toInt := by rw [fI599 0 36 (by decide), eI594, z_up_n (by decide)]
          have k614 : (I599 0 42).toInt = (I543 0 42).toInt := by rw [fI599 0 42 (by decide), eI594, z_up_n (by decide)]
          have k615 : (I599 0 39).toInt = (I543 0 39).toInt := by rw [fI599 0 39 (by decide), eI594, z_up_n (by decide)]
          have k616 : (I599 0 15).toInt = (I543 0 15).toInt := by rw [fI599 0 15 (by decide), eI594, z_up_n (by decide)]
          have k617 : (I599 0 40).toInt = (I543 0 40).toInt := by rw [fI599 0 40 (by decide), eI594, z_up_n (by decide)]
          obtain ⟨hp, hJ618⟩ := hp
          have h619 := hp
          have hE620 : zm_E gt gv gp ge gh gm n0 gI I599 J601 (.inl (tq)) := zm_E_wf hE597 fI599 (by decide) (by decide) (by decide)
          have h621 := zm_E_L hE620
          refine lv_goto (tgt := 289) hx hb dX12_test_63 (by decide) ?_
          exact z_vret hx hb hr hK hS (Nat.le_of_ble_eq_true rfl) (Nat.le_of_ble_eq_true rfl) hlocks dX12_test_289 (shM, ad, I599, J601, PM ad) hW ⟨I599, J601, rfl, ⟨(by show 0 ≤ (I599 0 31).toInt ∧ (I599 0 31).toInt ≤ 500; exact k602), (by show 0 ≤ (I599 0 33).toInt ∧ (I599 0 33).toInt ≤ 500; exact k603), (by show 0 ≤ (I599 0 34).toInt ∧ (I599 0 34).toInt ≤ 500; exact k604), (by show 0 ≤ (I599 0 35).toInt ∧ (I599 0 35).toInt ≤ 500; exact k605)⟩, ⟨(by show 0 ≤ (I599 0 36).toInt ∧ (I599 0 36).toInt ≤ 4; exact k606), (by show 0 ≤ (I599 0 42).toInt ∧ (I599 0 42).toInt ≤ 1; exact k607)⟩, ⟨(by show 0 ≤ (I599 0 47).toInt ∧ (I599 0 47).toInt ≤ 119; exact hI599md.1), (by show 0 ≤ (I599 0 39).toInt ∧ (I599 0 39).toInt ≤ 100; exact hI599md.2)⟩, (by show 0 ≤ (I599 0 40).toInt ∧ (I599 0 40).toInt ≤ 6199; exact k608), (by show 0 ≤ (I599 0 15).toInt ∧ (I599 0 15).toInt ≤ 6100; exact k609), (z_Nd_fr a596 fI599 (by decide)), (by show 0 ≤ (I599 0 35).toInt ∧ (I599 0 35).toInt ≤ (I599 0 34).toInt ∧ (I599 0 34).toInt ≤ (I599 0 33).toInt ∧ (I599 0 33).toInt ≤ 500 ∧ ((I599 0 36).toInt = 0 ∨ (I599 0 35).toInt + 1 ≤ (I599 0 34).toInt); first | omega | decide), f600, ⟨((Classical.em ((I599 0 42).toInt = 0)).elim (fun hw9 => Or.inr ⟨a1.toNatClampNeg + 2, by have w1 := z_fw_50 (a := va.toInt) (o := vo.toInt) (by omega); have w2 := z_fo_5n (a := va.toInt) (by omega); have w3 := z_fw_523 (a := 2) (o := vo.toInt) (by omega); have w4 := z_fo_5y (a := 2) (by omega); have w5 := z_fw_30 (a := 0) (o := -1) (by omega); have w6 := z_rk_5; have w7 := z_rk_3; exact z_PUSH (d := a1.toNatClampNeg) (w := 5) (a := 2) (o := vo.toInt) (s := vs.toInt) (wi := 3) hPS (fun i hi => ⟨by rw [eI594, z_up_n (by decide), fI543 26 i (z_wr_c (by decide))], by rw [eI594, z_up_k (by omega), fI543 27 i (z_wr_c (by decide))], by rw [eI594, z_up_n (by decide), fI543 28 i (z_wr_c (by decide))], by rw [eI594, z_up_n (by decide), fI543 29 i (z_wr_c (by decide))]⟩) (by rw [show I594 26 a1.toNatClampNeg = vw from (by rw [eI594, z_up_n (by decide), fI543 26 a1.toNatClampNeg (z_wr_c (by decide))]; exact evw.symm)]; exact hvw) (by rw [show I594 27 a1.toNatClampNeg = 2 from (by rw [eI594, z_up_s])]; exact z_l2) (by rw [show I594 28 a1.toNatClampNeg = vo from (by rw [eI594, z_up_n (by decide), fI543 28 a1.toNatClampNeg (z_wr_c (by decide))]; exact evo.symm)]) (by rw [show I594 29 a1.toNatClampNeg = vs from (by rw [eI594, z_up_n (by decide), fI543 29 a1.toNatClampNeg (z_wr_c (by decide))]; exact evs.symm)]) (by unfold z_fv; omega) hwd (by rw [eI594, z_up_n (by decide)]; omega) h619 z_l3 (by omega) (by omega) (by omega) (by omega) (by omega) (by omega) (by omega) (by omega)⟩) Or.inl), (by have hz9 : zp_st gt gv (n0 : Int) (.inr (tq, (5, fa, fx, fs) :: FS, fo, fg, NN)) = .inl (tq) := (by first | (simp [zp_st, zp_op, zp_cm, zp_cb, (show fa = 0 by omega), ht534, ht539, ht556]; done) | (exfalso; omega)); rw [hz9]; exact hE620)⟩⟩
      · have z622 := z_l123
        have ht623 : ¬ gt (tq) = 123 := fun q => h536 (by have q9 := (zm_E_sg (show zp_sg 123 by unfold zp_sg; omega) hE).mpr q; exact ⟨q9.1, by omega⟩)
        refine lv_if_eq (tgt := 66) hx hb dX12_test_44 (by decide) (fun c624 => ?_) (fun c624 => absurd (by decide) c624)
        refine lv_aload_n hx hb dX12_test_66 rfl (lv_at hl 0 rfl) ?_
        refine z_get (T := TX12) (N := 96) (ci := 12) (i := 0) (v := .ref (ad 27)) hx hb hts zj_X12_test_X12 hown hK hW rfl rfl 44 (by decide) (hts (.fieldLink RX12 94 "PetrolBoardModel" "at" "[I") (me_s (me_l (me_l (List.mem_of_getElem? (i := 0) rfl))))) (fun _ h => h) rfl dX12_test_67 ?_
        refine lv_iload_n hx hb dX12_test_70 rfl (lv_at hl 1 rfl) ?_
        refine lv_iconst (v := 3) hx hb dX12_test_71 (by decide) ?_
        refine z_iast (i := 27) hx hb hK hW hS rfl (z_ix rfl (by omega) (by omega)) dX12_test_72 (fun H locs hz1 hW hS => ?_)
        obtain ⟨I625, eI625⟩ : ∃ K : z_I, K = z_up I 27 a1.toNatClampNeg 3 := ⟨_, rfl⟩
        rw [← eI625] at hW
        have f626 := z_fr_a z_fr_0 (show z_wa L_X12_test_x 27 = true by decide) eI625
        have a627 := z_Nd_n hNd (by decide) eI625
        have z628 := z_l3
        have hE629 : zm_E gt gv gp ge gh gm n0 gI I625 J (.inr (tq, (5, 3, fx, fs) :: FS, fo, fg, NN)) := zm_E_top hE eI625 hdk (Or.inl ⟨rfl, by omega, rfl, rfl, rfl⟩)
        have h630 := zm_E_W hE629
        have h631 := zm_E_D hE629
        refine lv_aload_n hx hb dX12_test_73 rfl (lv_at hl 0 rfl) ?_
        refine lv_iconst (v := 0) hx hb dX12_test_74 (by decide) ?_
        refine z_cv hW hS hA (va_runV (As := [.int 0]) (rest := []) ⟨hx, hb, hml, hown, hts⟩ (sx_X12_begin_x l G ad I625 J ⟨(by show 0 ≤ (I625 0 47).toInt ∧ (I625 0 47).toInt ≤ 119; rw [eI625, z_up_n (by decide)]; exact hmd.1), (by show 0 ≤ (I625 0 39).toInt ∧ (I625 0 39).toInt ≤ 100; rw [eI625, z_up_n (by decide)]; exact hmd.2)⟩ 0 (by have q0 : (I625 0 47) = (I 0 47) := (by rw [eI625, z_up_n (by decide)]); show (I625 0 47).toInt ≤ 118; rw [q0]; omega) _) (cwV 1 hts gX12_test_X12_begin rfl rfl rfl (by decide +kernel) ⟨Nat.le_of_ble_eq_true rfl, Nat.le_of_ble_eq_true rfl⟩) (z_preV (i := 0) hK hW rfl rfl) rfl rfl hl.1 rfl (lv_room (Nat.le_of_ble_eq_true rfl)) dX12_test_75 ⟨Nat.le_of_ble_eq_true rfl, Nat.le_of_ble_eq_true rfl⟩) (fun u1 H locs hp hW hS => ?_)
        obtain ⟨I632, J634, e9, hI632md, fI632, hp⟩ := hp
        rw [e9] at hW
        have f633 := z_fr_sub (L := L_X12_test_x) f626 fI632 (by decide)
        have k635 : 0 ≤ (I632 0 31).toInt ∧ (I632 0 31).toInt ≤ 500 := by rw [fI632 0 31 (by decide)]; exact (by show 0 ≤ (I625 0 31).toInt ∧ (I625 0 31).toInt ≤ 500; rw [eI625, z_up_n (by decide)]; exact hmp.1)
        have k636 : 0 ≤ (I632 0 33).toInt ∧ (I632 0 33).toInt ≤ 500 := by rw [fI632 0 33 (by decide)]; exact (by show 0 ≤ (I625 0 33).toInt ∧ (I625 0 33).toInt ≤ 500; rw [eI625, z_up_n (by decide)]; exact hmp.2.1)
        have k637 : 0 ≤ (I632 0 34).toInt ∧ (I632 0 34).toInt ≤ 500 := by rw [fI632 0 34 (by decide)]; exact (by show 0 ≤ (I625 0 34).toInt ∧ (I625 0 34).toInt ≤ 500; rw [eI625, z_up_n (by decide)]; exact hmp.2.2.1)
        have k638 : 0 ≤ (I632 0 35).toInt ∧ (I632 0 35).toInt ≤ 500 := by rw [fI632 0 35 (by decide)]; exact (by show 0 ≤ (I625 0 35).toInt ∧ (I625 0 35).toInt ≤ 500; rw [eI625, z_up_n (by decide)]; exact hmp.2.2.2)
        have k639 : 0 ≤ (I632 0 36).toInt ∧ (I632 0 36).toInt ≤ 4 := by rw [fI632 0 36 (by decide)]; exact (by show 0 ≤ (I625 0 36).toInt ∧ (I625 0 36).toInt ≤ 4; rw [eI625, z_up_n (by decide)]; exact hmt.1)
        have k640 : 0 ≤ (I632 0 42).toInt ∧ (I632 0 42).toInt ≤ 1 := by rw [fI632 0 42 (by decide)]; exact (by show 0 ≤ (I625 0 42).toInt ∧ (I625 0 42).toInt ≤ 1; rw [eI625, z_up_n (by decide)]; exact hmt.2)
        have k641 : 0 ≤ (I632 0 40).toInt ∧ (I632 0 40).toInt ≤ 6199 := by rw [fI632 0 40 (by decide)]; exact (by show 0 ≤ (I625 0 40).toInt ∧ (I625 0 40).toInt ≤ 6199; rw [eI625, z_up_n (by decide)]; exact hmg)
        have k642 : 0 ≤ (I632 0 15).toInt ∧ (I632 0 15).toInt ≤ 6100 := by rw [fI632 0 15 (by decide)]; exact (by show 0 ≤ (I625 0 15).toInt ∧ (I625 0 15).toInt ≤ 6100; rw [eI625, z_up_n (by decide)]; exact hmn)
        have k643 : 0 ≤ (I632 0 35).toInt ∧ (I632 0 35).toInt ≤ (I632 0 34).toInt ∧ (I632 0 34).toInt ≤ (I632 0 33).toInt ∧ (I632 0 33).toInt ≤ 500 ∧ ((I632 0 36).toInt = 0 ∨ (I632 0 35).toInt + 1 ≤ (I632 0 34).toInt) := (by have q0 : (I632 0 35) = (I 0 35) := (by rw [fI632 0 35 (by decide), eI625, z_up_n (by decide)]); have q1 : (I632 0 34) = (I 0 34) := (by rw [fI632 0 34 (by decide), eI625, z_up_n (by decide)]); have q2 : (I632 0 33) = (I 0 33) := (by rw [fI632 0 33 (by decide), eI625, z_up_n (by decide)]); have q3 : (I632 0 36) = (I 0 36) := (by rw [fI632 0 36 (by decide), eI625, z_up_n (by decide)]); show 0 ≤ (I632 0 35).toInt ∧ (I632 0 35).toInt ≤ (I632 0 34).toInt ∧ (I632 0 34).toInt ≤ (I632 0 33).toInt ∧ (I632 0 33).toInt ≤ 500 ∧ ((I632 0 36).toInt = 0 ∨ (I632 0 35).toInt + 1 ≤ (I632 0 34).toInt); rw [q0, q1, q2, q3]; first | omega | decide)
        have k644 : (I632 0 35).toInt = (I 0 35).toInt := by rw [fI632 0 35 (by decide), eI625, z_up_n (by decide)]
        have k645 : (I632 0 34).toInt = (I 0 34).toInt := by rw [fI632 0 34 (by decide), eI625, z_up_n (by decide)]
        have k646 : (I632 0 36).toInt = (I 0 36).toInt := by rw [fI632 0 36 (by decide), eI625, z_up_n (by decide)]
        have k647 : (I632 0 42).toInt = (I 0 42).toInt := by rw [fI632 0 42 (by decide), eI625, z_up_n (by decide)]
        have k648 : (I632 0 39).toInt = (I 0 39).toInt := by rw [fI632 0 39 (by decide), eI625, z_up_n (by decide)]
        have k649 : (I632 0 15).toInt = (I 0 15).toInt := by rw [fI632 0 15 (by decide), eI625, z_up_n (by decide)]
        have k650 : (I632 0 40).toInt = (I 0 40).toInt := by rw [fI632 0 40 (by decide), eI625, z_up_n (by decide)]
        obtain ⟨hp, hJ651⟩ := hp
        have h652 := hp
        have hE653 : zm_E gt gv gp ge gh gm n0 gI I632 J634 (.inr (tq, (0, 0, -1, 0) :: (5, 3, fx, fs) :: FS, fo, fg, NN)) := zm_E_begin hE629 h652 z_l0 fI632 (by decide) hJ651
        have h654 := zm_E_W hE653
        have h655 := zm_E_D hE653
        refine lv_goto (tgt := 289) hx hb dX12_test_78 (by decide) ?_
        exact z_vret hx hb hr hK hS (Nat.le_of_ble_eq_true rfl) (Nat.le_of_ble_eq_true rfl) hlocks dX12_test_289 (shM, ad, I632, J634, PM ad) hW ⟨I632, J634, rfl, ⟨(by show 0 ≤ (I632 0 31).toInt ∧ (I632 0 31).toInt ≤ 500; exact k635), (by show 0 ≤ (I632 0 33).toInt ∧ (I632 0 33).toInt ≤ 500; exact k636), (by show 0 ≤ (I632 0 34).toInt ∧ (I632 0 34).toInt ≤ 500; exact k637), (by show 0 ≤ (I632 0 35).toInt ∧ (I632 0 35).toInt ≤ 500; exact k638)⟩, ⟨(by show 0 ≤ (I632 0 36).toInt ∧ (I632 0 36).toInt ≤ 4; exact k639), (by show 0 ≤ (I632 0 42).toInt ∧ (I632 0 42).toInt ≤ 1; exact k640)⟩, ⟨(by show 0 ≤ (I632 0 47).toInt ∧ (I632 0 47).toInt ≤ 119; exact hI632md.1), (by show 0 ≤ (I632 0 39).toInt ∧ (I632 0 39).toInt ≤ 100; exact hI632md.2)⟩, (by show 0 ≤ (I632 0 40).toInt ∧ (I632 0 40).toInt ≤ 6199; exact k641), (by show 0 ≤ (I632 0 15).toInt ∧ (I632 0 15).toInt ≤ 6100; exact k642), (z_Nd_fr a627 fI632 (by decide)), (by show 0 ≤ (I632 0 35).toInt ∧ (I632 0 35).toInt ≤ (I632 0 34).toInt ∧ (I632 0 34).toInt ≤ (I632 0 33).toInt ∧ (I632 0 33).toInt ≤ 500 ∧ ((I632 0 36).toInt = 0 ∨ (I632 0 35).toInt + 1 ≤ (I632 0 34).toInt); first | omega | decide), f633, ⟨((Classical.em ((I632 0 42).toInt = 0)).elim (fun hw9 => Or.inr ⟨a1.toNatClampNeg + 2, by have w1 := z_fw_50 (a := va.toInt) (o := vo.toInt) (by omega); have w2 := z_fo_5n (a := va.toInt) (by omega); have w3 := z_fw_523 (a := 3) (o := vo.toInt) (by omega); have w4 := z_fo_5n (a := 3) (by omega); have w5 := z_fw_00 (a := 0) (o := -1) (by omega); have w6 := z_rk_5; have w7 := z_rk_0; exact z_PUSH (d := a1.toNatClampNeg) (w := 5) (a := 3) (o := vo.toInt) (s := vs.toInt) (wi := 0) hPS (fun i hi => ⟨by rw [eI625, z_up_n (by decide)], by rw [eI625, z_up_k (by omega)], by rw [eI625, z_up_n (by decide)], by rw [eI625, z_up_n (by decide)]⟩) (by rw [show I625 26 a1.toNatClampNeg = vw from (by rw [eI625, z_up_n (by decide)]; exact evw.symm)]; exact hvw) (by rw [show I625 27 a1.toNatClampNeg = 3 from (by rw [eI625, z_up_s])]; exact z_l3) (by rw [show I625 28 a1.toNatClampNeg = vo from (by rw [eI625, z_up_n (by decide)]; exact evo.symm)]) (by rw [show I625 29 a1.toNatClampNeg = vs from (by rw [eI625, z_up_n (by decide)]; exact evs.symm)]) (by unfold z_fv; omega) hwd (by rw [eI625, z_up_n (by decide)]; omega) h652 z_l0 (by omega) (by omega) (by omega) (by omega) (by omega) (by omega) (by omega) (by omega)⟩) Or.inl), (by have hz9 : zp_st gt gv (n0 : Int) (.inr (tq, (5, fa, fx, fs) :: FS, fo, fg, NN)) = .inr (tq, (0, 0, -1, 0) :: (5, 3, fx, fs) :: FS, fo, fg, NN) := (by first | (simp [zp_st, zp_op, zp_cm, zp_cb, (show fa = 0 by omega), ht534, ht623]; done) | (exfalso; omega)); rw [hz9]; exact hE653)⟩⟩
