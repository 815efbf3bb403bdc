

noncomputable def L_X12_sums_1_x : z_L := [(0, 35), (0, 36), (0, 37), (0, 38), (0, 34), (0, 42), (0, 32), (0, 39), (21, 999), (22, 999), (23, 999), (0, 15), (26, 999), (27, 999), (28, 999), (29, 999), (0, 47), (0, 40)]
set_option maxHeartbeats 8000000 in
set_option maxRecDepth 100000 in
theorem sx_X12_sums_1_x (l : Launch) (G : z_G) (ad : Nat → Nat) (I : z_I) (J : z_J) (hmp : z_imp I) (hmt : z_imt I) (hmd : z_imd I) (hmg : z_img I) (hmn : z_imn I) (hNd : z_Nd I) (hrp : z_irp I) (B : Int) (gt gv : Nat → Int) (gp ge : Nat → Nat) (gh : Nat → Int) (gm n0 : Nat) (gI : z_I) (tq : Nat) (FS : List zp_F) (fa fx fs fo fg : Int) (NN : List zp_N) (a1 : Int32) (q1 : 0 ≤ a1.toInt ∧ a1.toInt ≤ 33) (hwd : (I 26 a1.toNatClampNeg).toInt = 0) (hPS : z_PS I (a1.toNatClampNeg + 1) B) (hE : zm_E gt gv gp ge gh gm n0 gI I J (.inr (tq, (0, fa, fx, fs) :: FS, fo, fg, NN))) (hdk : a1.toNatClampNeg = FS.length) (hSM : zp_SM gh gt gv gp ge gm) : z_Mv l yX12_sums wsX12_sums { frames := 3, cells := 0, slots := 0, locals := 55 } [.ref (ad 0), .int a1, .int 1] G (shM, ad, I, J, PM ad) (fun u1 => ∃ (I1 : z_I) (J1 : z_J), u1 = (shM, ad, I1, J1, PM ad) ∧ z_imp I1 ∧ z_imt I1 ∧ z_imd I1 ∧ z_img I1 ∧ z_imn I1 ∧ z_Nd I1 ∧ z_irp I1 ∧ z_fr L_X12_sums_1_x I1 I ∧ ((¬ (I1 0 42).toInt = 0 ∨ ∃ n, z_PS I1 n (B - 1)) ∧ zm_E gt gv gp ge gh gm n0 gI I1 J1 (zp_st gt gv (n0 : Int) (.inr (tq, (0, fa, fx, fs) :: FS, fo, fg, NN))))) 0 0 := by
  intro sz
  refine z_headQ (cc := cX12_sums) (maxL := 4) (ret := none) (by decide) rfl (Nat.le_of_ble_eq_true rfl) ?_
  intro p e s m below meth c0 ls hIn hK hsz hW hl
  obtain ⟨hx, hb, hr, hml, hown, hts, hlocks, hname⟩ := hIn
  subst hsz
  have hown : s.vm.findClass RX12 = some m.cls := hown
  have hA : ∀ q : Nat, s.heap.size ≤ q → z_A (shM, ad, I, J, PM ad) s.heap.size q := fun q h => Or.inr h
  generalize hAe : z_A (shM, ad, I, J, PM ad) s.heap.size = A at *
  have hS : va_S A s.heap s.heap [] := va_S.rf
  have hl : lv_has ls 4 [(0, .ref (ad 0)), (1, .int a1), (2, .int 1)] := hl
  obtain ⟨va, eva⟩ : ∃ y, y = I 27 a1.toNatClampNeg := ⟨_, rfl⟩
  obtain ⟨vo, evo⟩ : ∃ y, y = I 28 a1.toNatClampNeg := ⟨_, rfl⟩
  obtain ⟨vs, evs⟩ : ∃ y, y = I 29 a1.toNatClampNeg := ⟨_, rfl⟩
  have hT := z_top hPS
  unfold z_fv at hT
  rw [hwd, ← eva, ← evo, ← evs] at hT
  obtain ⟨t1, t2, t3, t4, t5, t6, t7, t8, t9, t10, t11, t12, t13, t14, t15, t16, t17, t18, t19, t20, t21⟩ := hT
  have hk9 := z_clt (x := a1) rfl q1.1
  have hcw := z_fwc_0 va.toInt vo.toInt
  have hcf := z_foc_0 va.toInt
  obtain ⟨vw, evw⟩ : ∃ y, y = I 26 a1.toNatClampNeg := ⟨_, rfl⟩
  have hvw : vw.toInt = 0 := by rw [evw]; exact hwd
  have hE1 := zm_E_W hE
  have hE2 := zm_E_D hE
  have hE4 := zm_E_nu hE
  have hE5 := zm_E_w1 hE
  have hE3 := zm_E_F hE
  rw [← hdk, ← eva, ← evo, ← evs] at hE3
  have krp : 0 ≤ (I 0 35).toInt ∧ (I 0 35).toInt ≤ (I 0 34).toInt ∧ (I 0 34).toInt ≤ (I 0 33).toInt ∧ (I 0 33).toInt ≤ 500 ∧ ((I 0 36).toInt = 0 ∨ (I 0 35).toInt + 1 ≤ (I 0 34).toInt) := hrp
  refine lv_aload_n hx hb dX12_sums_0 rfl (lv_at hl 0 rfl) ?_
  refine z_get (T := TX12) (N := 96) (ci := 12) (i := 0) (v := .ref (ad 27)) hx hb hts zj_X12_sums_X12 hown hK hW rfl rfl 44 (by decide) (hts (.fieldLink RX12 94 "PetrolBoardModel" "at" "[I") (me_s (me_l (me_l (List.mem_of_getElem? (i := 0) rfl))))) (fun _ h => h) rfl dX12_sums_1 ?_
  refine lv_iload_n hx hb dX12_sums_4 rfl (lv_at hl 1 rfl) ?_
  refine z_iald (i := 27) hx hb hK hW rfl (z_ix rfl (by omega) (by omega)) dX12_sums_5 ?_
  refine z_topi (v := va) eva.symm ?_
  refine lv_if_ne (tgt := 30) hx hb dX12_sums_6 (by decide) (fun c1 => ?_) (fun c1 => ?_)
  · have g2 := z_f_ne rfl z_l0 c1
    refine lv_aload_n hx hb dX12_sums_30 rfl (lv_at hl 0 rfl) ?_
    refine z_get (T := TX12) (N := 96) (ci := 12) (i := 0) (v := .ref (ad 28)) hx hb hts zj_X12_sums_X12 hown hK hW rfl rfl 45 (by decide) (hts (.fieldLink RX12 97 "PetrolBoardModel" "one" "[I") (me_s (me_l (me_l (List.mem_of_getElem? (i := 1) rfl))))) (fun _ h => h) rfl dX12_sums_31 ?_
    refine lv_iload_n hx hb dX12_sums_34 rfl (lv_at hl 1 rfl) ?_
    refine lv_aload_n hx hb dX12_sums_35 rfl (lv_at hl 0 rfl) ?_
    refine z_get (T := TX12) (N := 96) (ci := 12) (i := 0) (v := .ref (ad 28)) hx hb hts zj_X12_sums_X12 hown hK hW rfl rfl 45 (by decide) (hts (.fieldLink RX12 97 "PetrolBoardModel" "one" "[I") (me_s (me_l (me_l (List.mem_of_getElem? (i := 1) rfl))))) (fun _ h => h) rfl dX12_sums_36 ?_
    refine lv_iload_n hx hb dX12_sums_39 rfl (lv_at hl 1 rfl) ?_
    refine z_iald (i := 28) hx hb hK hW rfl (z_ix rfl (by omega) (by omega)) dX12_sums_40 ?_
    refine z_topi (v := vo) evo.symm ?_
    refine lv_if_ge (tgt := 51) hx hb dX12_sums_41 (by decide) (fun c3 => ?_) (fun c3 => ?_)
    · have g4 := z_f_ge rfl z_l0 c3
      refine lv_aload_n hx hb dX12_sums_51 rfl (lv_at hl 0 rfl) ?_
      refine lv_aload_n hx hb dX12_sums_52 rfl (lv_at hl 0 rfl) ?_
      refine z_get (T := TX12) (N := 96) (ci := 12) (i := 0) (v := .ref (ad 29)) hx hb hts zj_X12_sums_X12 hown hK hW rfl rfl 46 (by decide) (hts (.fieldLink RX12 100 "PetrolBoardModel" "sort" "[I") (me_s (me_l (me_l (List.mem_of_getElem? (i := 3) rfl))))) (fun _ h => h) rfl dX12_sums_53 ?_
      refine lv_iload_n hx hb dX12_sums_56 rfl (lv_at hl 1 rfl) ?_
      refine z_iald (i := 29) hx hb hK hW rfl (z_ix rfl (by omega) (by omega)) dX12_sums_57 ?_
      refine z_topi (v := vs) evs.symm ?_
      refine lv_aload_n hx hb dX12_sums_58 rfl (lv_at hl 0 rfl) ?_
      refine z_get (T := TX12) (N := 96) (ci := 12) (i := 0) (v := .ref (ad 28)) hx hb hts zj_X12_sums_X12 hown hK hW rfl rfl 45 (by decide) (hts (.fieldLink RX12 97 "PetrolBoardModel" "one" "[I") (me_s (me_l (me_l (List.mem_of_getElem? (i := 1) rfl))))) (fun _ h => h) rfl dX12_sums_59 ?_
      refine lv_iload_n hx hb dX12_sums_62 rfl (lv_at hl 1 rfl) ?_
      refine z_iald (i := 28) hx hb hK hW rfl (z_ix rfl (by omega) (by omega)) dX12_sums_63 ?_
      refine z_topi (v := vo) evo.symm ?_
      refine lv_aload_n hx hb dX12_sums_64 rfl (lv_at hl 0 rfl) ?_
      have r5 : 0 ≤ (I 0 40).toInt ∧ (I 0 40).toInt ≤ 6199 := hmg
      refine z_get (T := TX12) (N := 96) (ci := 12) (i := 0) (v := .int (I 0 40)) hx hb hts zj_X12_sums_X12 hown hK hW rfl rfl 40 (by decide) (hts (.fieldLink RX12 343 "PetrolBoardModel" "got" "I") (me_s (me_l (me_l (List.mem_of_getElem? (i := 2) rfl))))) (fun _ h => h) rfl dX12_sums_65 ?_
      refine z_ci hW hS hA (va_runV (As := [.int vs, .int vo, .int (I 0 40)]) (rest := [.int a1, .ref (ad 28)]) ⟨hx, hb, hml, hown, hts⟩ (sx_X12_node_x l G ad I J (by show 0 ≤ (I 0 15).toInt ∧ (I 0 15).toInt ≤ 6100; exact hmn) hNd vs vo (I 0 40) (by show (I 0 15).toInt ≤ 6099; omega) (by first | omega | decide) (by first | omega | decide) (by first | omega | decide) _) (cwV 3 hts gX12_sums_X12_node rfl rfl rfl (by decide +kernel) ⟨Nat.le_of_ble_eq_true rfl, Nat.le_of_ble_eq_true rfl⟩) (z_preV (i := 0) hK hW rfl rfl) rfl rfl hl.1 rfl (lv_room (Nat.le_of_ble_eq_true rfl)) dX12_sums_68 ⟨Nat.le_of_ble_eq_true rfl, Nat.le_of_ble_eq_true rfl⟩) (fun r u1 H locs hp hW hS => ?_)
      obtain ⟨I6, J8, e9, hI6mn, hI6Nd, fI6, hp⟩ := hp
      rw [e9] at hW
      have f7 := z_fr_sub (L := L_X12_sums_1_x) z_fr_0 fI6 (by decide)
      have k9 : 0 ≤ (I6 0 31).toInt ∧ (I6 0 31).toInt ≤ 500 := by rw [fI6 0 31 (by decide)]; exact (by show 0 ≤ (I 0 31).toInt ∧ (I 0 31).toInt ≤ 500; exact hmp.1)
      have k10 : 0 ≤ (I6 0 33).toInt ∧ (I6 0 33).toInt ≤ 500 := by rw [fI6 0 33 (by decide)]; exact (by show 0 ≤ (I 0 33).toInt ∧ (I 0 33).toInt ≤ 500; exact hmp.2.1)
      have k11 : 0 ≤ (I6 0 34).toInt ∧ (I6 0 34).toInt ≤ 500 := by rw [fI6 0 34 (by decide)]; exact (by show 0 ≤ (I 0 34).toInt ∧ (I 0 34).toInt ≤ 500; exact hmp.2.2.1)
      have k12 : 0 ≤ (I6 0 35).toInt ∧ (I6 0 35).toInt ≤ 500 := by rw [fI6 0 35 (by decide)]; exact (by show 0 ≤ (I 0 35).toInt ∧ (I 0 35).toInt ≤ 500; exact hmp.2.2.2)
      have k13 : 0 ≤ (I6 0 36).toInt ∧ (I6 0 36).toInt ≤ 4 := by rw [fI6 0 36 (by decide)]; exact (by show 0 ≤ (I 0 36).toInt ∧ (I 0 36).toInt ≤ 4; exact hmt.1)
      have k14 : 0 ≤ (I6 0 42).toInt ∧ (I6 0 42).toInt ≤ 1 := by rw [fI6 0 42 (by decide)]; exact (by show 0 ≤ (I 0 42).toInt ∧ (I 0 42).toInt ≤ 1; exact hmt.2)
      have k15 : 0 ≤ (I6 0 47).toInt ∧ (I6 0 47).toInt ≤ 119 := by rw [fI6 0 47 (by decide)]; exact (by show 0 ≤ (I 0 47).toInt ∧ (I 0 47).toInt ≤ 119; exact hmd.1)
      have k16 : 0 ≤ (I6 0 39).toInt ∧ (I6 0 39).toInt ≤ 100 := by rw [fI6 0 39 (by decide)]; exact (by show 0 ≤ (I 0 39).toInt ∧ (I 0 39).toInt ≤ 100; exact hmd.2)
      have k17 : 0 ≤ (I6 0 40).toInt ∧ (I6 0 40).toInt ≤ 6199 := by rw [fI6 0 40 (by decide)]; exact (by show 0 ≤ (I 0 40).toInt ∧ (I 0 40).toInt ≤ 6199; exact hmg)
      have k18 : 0 ≤ (I6 0 35).toInt ∧ (I6 0 35).toInt ≤ (I6 0 34).toInt ∧ (I6 0 34).toInt ≤ (I6 0 33).toInt ∧ (I6 0 33).toInt ≤ 500 ∧ ((I6 0 36).toInt = 0 ∨ (I6 0 35).toInt + 1 ≤ (I6 0 34).toInt) := (by have q0 : (I6 0 35) = (I 0 35) := (by rw [fI6 0 35 (by decide)]); have q1 : (I6 0 34) = (I 0 34) := (by rw [fI6 0 34 (by decide)]); have q2 : (I6 0 33) = (I 0 33) := (by rw [fI6 0 33 (by decide)]); have q3 : (I6 0 36) = (I 0 36) := (by rw [fI6 0 36 (by decide)]); show 0 ≤ (I6 0 35).toInt ∧ (I6 0 35).toInt ≤ (I6 0 34).toInt ∧ (I6 0 34).toInt ≤ (I6 0 33).toInt ∧ (I6 0 33).toInt ≤ 500 ∧ ((I6 0 36).toInt = 0 ∨ (I6 0 35).toInt + 1 ≤ (I6 0 34).toInt); rw [q0, q1, q2, q3]; first | omega | decide)
      have k19 : (I6 0 35).toInt = (I 0 35).toInt := by rw [fI6 0 35 (by decide)]
      have k20 : (I6 0 34).toInt = (I 0 34).toInt := by rw [fI6 0 34 (by decide)]
      have k21 : (I6 0 36).toInt = (I 0 36).toInt := by rw [fI6 0 36 (by decide)]
      have k22 : (I6 0 42).toInt = (I 0 42).toInt := by rw [fI6 0 42 (by decide)]
      have k23 : (I6 0 47).toInt = (I 0 47).toInt := by rw [fI6 0 47 (by decide)]
      have k24 : (I6 0 39).toInt = (I 0 39).toInt := by rw [fI6 0 39 (by decide)]
      have k25 : (I6 0 40).toInt = (I 0 40).toInt := by rw [fI6 0 40 (by decide)]
      refine lv_topi (fun x30 ex30 => ?_)
      rw [← ex30] at hp
      obtain ⟨h26, h27, h28, hJ29⟩ := hp
      have h31 : 0 ≤ x30.toInt ∧ x30.toInt ≤ 6100 := (by have q9 : 0 ≤ (I 0 15).toInt ∧ (I 0 15).toInt ≤ 6100 := (by show 0 ≤ (I 0 15).toInt ∧ (I 0 15).toInt ≤ 6100; exact hmn); omega)
      have h32 := h26
      have h33 := h27
      have hE34 : zm_E gt gv gp ge gh gm n0 gI I6 J8 (.inr (tq, (0, fa, fx, fs) :: FS, fo, fg, NN ++ [(fs, fx, fg)])) := zm_E_node hE h28 (by omega) (by omega) (by omega) fI6 (by decide) hJ29
      have h35 := zm_E_W hE34
      have h36 := zm_E_D hE34
      refine z_iast (i := 28) hx hb hK hW hS rfl (z_ix rfl (by omega) (by omega)) dX12_sums_71 (fun H locs hz1 hW hS => ?_)
      obtain ⟨I37, eI37⟩ : ∃ K : z_I, K = z_up I6 28 a1.toNatClampNeg x30 := ⟨_, rfl⟩
      rw [← eI37] at hW
      have f38 := z_fr_a f7 (show z_wa L_X12_sums_1_x 28 = true by decide) eI37
      have a39 := z_Nd_n hI6Nd (by decide) eI37
      have hE40 : zm_E gt gv gp ge gh gm n0 gI I37 J8 (.inr (tq, (0, fa, ((n0 : Int) + ((NN).length : Int)), fs) :: FS, fo, fg, NN ++ [(fs, fx, fg)])) := zm_E_top hE34 eI37 hdk (Or.inr (Or.inl ⟨rfl, by omega, rfl, rfl, rfl⟩))
      have h41 := zm_E_W hE40
      have h42 := zm_E_D hE40
      refine lv_iload_n hx hb dX12_sums_72 rfl (lv_at hl 2 rfl) ?_
      refine lv_if_eq (tgt := 106) hx hb dX12_sums_73 (by decide) (fun c43 => absurd c43 (by decide)) (fun c43 => ?_)
      refine lv_aload_n hx hb dX12_sums_76 rfl (lv_at hl 0 rfl) ?_
      refine lv_bipush (v := 43) hx hb dX12_sums_77 (by decide) ?_
      refine z_ci hW hS hA (va_runV (As := [.int 43]) (rest := []) ⟨hx, hb, hml, hown, hts⟩ (sx_X12_isSign_x l G ad I37 J8 ⟨(by show 0 ≤ (I37 0 36).toInt ∧ (I37 0 36).toInt ≤ 4; rw [eI37, z_up_n (by decide)]; exact k13), (by show 0 ≤ (I37 0 42).toInt ∧ (I37 0 42).toInt ≤ 1; rw [eI37, z_up_n (by decide)]; exact k14)⟩ 43 _) (cwV 1 hts gX12_sums_X12_isSign rfl rfl rfl (by decide +kernel) ⟨Nat.le_of_ble_eq_true rfl, Nat.le_of_ble_eq_true rfl⟩) (z_preV (i := 0) hK hW rfl rfl) rfl rfl hl.1 rfl (lv_room (Nat.le_of_ble_eq_true rfl)) dX12_sums_79 ⟨Nat.le_of_ble_eq_true rfl, Nat.le_of_ble_eq_true rfl⟩) (fun r u1 H locs hp hW hS => ?_)
      obtain ⟨e9, hp⟩ := hp
      rw [e9] at hW
      rcases hp with ⟨rfl, h44, h45⟩ | ⟨rfl, h44⟩
      · have z46 := z_l43
        have ht47 : gt (tq) = 43 := (zm_E_sg (show zp_sg 43 by unfold zp_sg; omega) hE40).mp ⟨h44, by omega⟩
        have h48 := h44
        rw [show (I37 0 36) = (I6 0 36) from by rw [eI37, z_up_n (by decide)]] at h48
        have h49 : (I6 0 35).toInt + 1 ≤ (I6 0 34).toInt := by omega
        refine lv_if_eq (tgt := 89) hx hb dX12_sums_82 (by decide) (fun c50 => absurd c50 (by decide)) (fun c50 => ?_)
        refine lv_iconst (v := 2) hx hb dX12_sums_85 (by decide) ?_
        refine lv_goto (tgt := 133) hx hb dX12_sums_86 (by decide) ?_
        refine lv_istore_n (lv' := [(3, .int 2), (0, .ref (ad 0)), (1, .int a1), (2, .int 1)]) hx hb dX12_sums_133 rfl hl (by decide) rfl (fun ls hl => ?_)
        refine lv_iload_n hx hb dX12_sums_134 rfl (lv_at hl 0 rfl) ?_
        refine lv_if_le (tgt := 165) hx hb dX12_sums_135 (by decide) (fun c51 => absurd c51 (by decide)) (fun c51 => ?_)
        refine lv_aload_n hx hb dX12_sums_138 rfl (lv_at hl 1 rfl) ?_
        refine z_cv hW hS hA (va_runV (As := []) (rest := []) ⟨hx, hb, hml, hown, hts⟩ (sx_X12_next_x l G ad I37 J8 ⟨(by show 0 ≤ (I37 0 31).toInt ∧ (I37 0 31).toInt ≤ 500; rw [eI37, z_up_n (by decide)]; exact k9), (by show 0 ≤ (I37 0 33).toInt ∧ (I37 0 33).toInt ≤ 500; rw [eI37, z_up_n (by decide)]; exact k10), (by show 0 ≤ (I37 0 34).toInt ∧ (I37 0 34).toInt ≤ 500; rw [eI37, z_up_n (by decide)]; exact k11), (by show 0 ≤ (I37 0 35).toInt ∧ (I37 0 35).toInt ≤ 500; rw [eI37, z_up_n (by decide)]; exact k12)⟩ ⟨(by show 0 ≤ (I37 0 36).toInt ∧ (I37 0 36).toInt ≤ 4; rw [eI37, z_up_n (by decide)]; exact k13), (by show 0 ≤ (I37 0 42).toInt ∧ (I37 0 42).toInt ≤ 1; rw [eI37, z_up_n (by decide)]; exact k14)⟩ (by have q0 : (I37 0 34) = (I6 0 34) := (by rw [eI37, z_up_n (by decide)]); have q1 : (I37 0 33) = (I6 0 33) := (by rw [eI37, z_up_n (by decide)]); show 0 ≤ (I37 0 34).toInt ∧ (I37 0 34).toInt ≤ (I37 0 33).toInt ∧ (I37 0 33).toInt ≤ 500; rw [q0, q1]; first | omega | decide)  _) (cwV 0 hts gX12_sums_X12_next rfl rfl rfl (by decide +kernel) ⟨Nat.le_of_ble_eq_true rfl, Nat.le_of_ble_eq_true rfl⟩) (z_preV (i := 0) hK hW rfl rfl) rfl rfl hl.1 rfl (lv_room (Nat.le_of_ble_eq_true rfl)) dX12_sums_139 ⟨Nat.le_of_ble_eq_true rfl, Nat.le_of_ble_eq_true rfl⟩) (fun u1 H locs hp hW hS => ?_)
        obtain ⟨I52, J54, e9, hI52mp, hI52mt, hI52rp, fI52, hp⟩ := hp
        rw [e9] at hW
        have f53 := z_fr_sub (L := L_X12_sums_1_x) f38 fI52 (by decide)
        have k55 : 0 ≤ (I52 0 47).toInt ∧ (I52 0 47).toInt ≤ 119 := by rw [fI52 0 47 (by decide)]; exact (by show 0 ≤ (I37 0 47).toInt ∧ (I37 0 47).toInt ≤ 119; rw [eI37, z_up_n (by decide)]; exact k15)
        have k56 : 0 ≤ (I52 0 39).toInt ∧ (I52 0 39).toInt ≤ 100 := by rw [fI52 0 39 (by decide)]; exact (by show 0 ≤ (I37 0 39).toInt ∧ (I37 0 39).toInt ≤ 100; rw [eI37, z_up_n (by decide)]; exact k16)
        have k57 : 0 ≤ (I52 0 40).toInt ∧ (I52 0 40).toInt ≤ 6199 := by rw [fI52 0 40 (by decide)]; exact (by show 0 ≤ (I37 0 40).toInt ∧ (I37 0 40).toInt ≤ 6199; rw [eI37, z_up_n (by decide)]; exact k17)
        have k58 : 0 ≤ (I52 0 15).toInt ∧ (I52 0 15).toInt ≤ 6100 := by rw [fI52 0 15 (by decide)]; exact (by show 0 ≤ (I37 0 15).toInt ∧ (I37 0 15).toInt ≤ 6100; rw [eI37, z_up_n (by decide)]; exact hI6mn)
        have k59 : 0 ≤ (I52 0 35).toInt ∧ (I52 0 35).toInt ≤ (I52 0 34).toInt ∧ (I52 0 34).toInt ≤ (I52 0 33).toInt ∧ (I52 0 33).toInt ≤ 500 ∧ ((I52 0 36).toInt = 0 ∨ (I52 0 35).toInt + 1 ≤ (I52 0 34).toInt) := hI52rp
        have k60 : (I52 0 42).toInt = (I6 0 42).toInt := by rw [fI52 0 42 (by decide), eI37, z_up_n (by decide)]
        have k61 : (I52 0 47).toInt = (I6 0 47).toInt := by rw [fI52 0 47 (by decide), eI37, z_up_n (by decide)]
        have k62 : (I52 0 39).toInt = (I6 0 39).toInt := by rw [fI52 0 39 (by decide), eI37, z_up_n (by decide)]
        have k63 : (I52 0 15).toInt = (I6 0 15).toInt := by rw [fI52 0 15 (by decide), eI37, z_up_n (by decide)]
        have k64 : (I52 0 40).toInt = (I6 0 40).toInt := by rw [fI52 0 40 (by decide), eI37, z_up_n (by decide)]
        obtain ⟨hp, hp65⟩ := hp
        have h66 := hp
        rw [show (I37 0 34) = (I6 0 34) from by rw [eI37, z_up_n (by decide)]] at h66
        have hE67 : zm_E gt gv gp ge gh gm n0 gI I52 J54 (.inr (tq + 1, (0, fa, ((n0 : Int) + ((NN).length : Int)), fs) :: FS, fo, fg, NN ++ [(fs, fx, fg)])) := zm_E_next hSM hE40 (by omega) hp65 fI52 (by decide)
        have h68 := zm_E_W hE67
        have h69 := zm_E_D hE67
        refine lv_aload_n hx hb dX12_sums_142 rfl (lv_at hl 1 rfl) ?_
        refine z_get (T := TX12) (N := 96) (ci := 12) (i := 0) (v := .ref (ad 29)) hx hb hts zj_X12_sums_X12 hown hK hW rfl rfl 46 (by decide) (hts (.fieldLink RX12 100 "PetrolBoardModel" "sort" "[I") (me_s (me_l (me_l (List.mem_of_getElem? (i := 3) rfl))))) (fun _ h => h) rfl dX12_sums_143 ?_
        refine lv_iload_n hx hb dX12_sums_146 rfl (lv_at hl 2 rfl) ?_
        refine lv_iload_n hx hb dX12_sums_147 rfl (lv_at hl 0 rfl) ?_
        refine z_iast (i := 29) hx hb hK hW hS rfl (z_ix rfl (by omega) (by omega)) dX12_sums_148 (fun H locs hz1 hW hS => ?_)
        obtain ⟨I70, eI70⟩ : ∃ K : z_I, K = z_up I52 29 a1.toNatClampNeg 2 := ⟨_, rfl⟩
        rw [← eI70] at hW
        have f71 := z_fr_a f53 (show z_wa L_X12_sums_1_x 29 = true by decide) eI70
        have a72 := z_Nd_n (z_Nd_fr a39 fI52 (by decide)) (by decide) eI70
        have z73 := z_l2
        have hE74 : zm_E gt gv gp ge gh gm n0 gI I70 J54 (.inr (tq + 1, (0, fa, ((n0 : Int) + ((NN).length : Int)), 2) :: FS, fo, fg, NN ++ [(fs, fx, fg)])) := zm_E_top hE67 eI70 hdk (Or.inr (Or.inr ⟨rfl, by omega, rfl, rfl, rfl⟩))
        have h75 := zm_E_W hE74
        have h76 := zm_E_D hE74
        refine lv_aload_n hx hb dX12_sums_149 rfl (lv_at hl 1 rfl) ?_
        refine lv_iload_n hx hb dX12_sums_150 rfl (lv_at hl 3 rfl) ?_
        refine lv_if_eq (tgt := 158) hx hb dX12_sums_151 (by decide) (fun c77 => absurd c77 (by decide)) (fun c77 => ?_)
        refine lv_iconst (v := 1) hx hb dX12_sums_154 (by decide) ?_
        refine lv_goto (tgt := 159) hx hb dX12_sums_155 (by decide) ?_
        refine z_cv hW hS hA (va_runV (As := [.int 1]) (rest := []) ⟨hx, hb, hml, hown, hts⟩ (sx_X12_begin_x l G ad I70 J54 ⟨(by show 0 ≤ (I70 0 47).toInt ∧ (I70 0 47).toInt ≤ 119; rw [eI70, z_up_n (by decide)]; exact k55), (by show 0 ≤ (I70 0 39).toInt ∧ (I70 0 39).toInt ≤ 100; rw [eI70, z_up_n (by decide)]; exact k56)⟩ 1 (by have q0 : (I70 0 47) = (I52 0 47) := (by rw [eI70, z_up_n (by decide)]); show (I70 0 47).toInt ≤ 118; rw [q0]; omega) _) (cwV 1 hts gX12_sums_X12_begin rfl rfl rfl (by decide +kernel) ⟨Nat.le_of_ble_eq_true rfl, Nat.le_of_ble_eq_true rfl⟩) (z_preV (i := 0) hK hW rfl rfl) rfl rfl hl.1 rfl (lv_room (Nat.le_of_ble_eq_true rfl)) dX12_sums_159 ⟨Nat.le_of_ble_eq_true rfl, Nat.le_of_ble_eq_true rfl⟩) (fun u1 H locs hp hW hS => ?_)
        obtain ⟨I78, J80, e9, hI78md, fI78, hp⟩ := hp
        rw [e9] at hW
        have f79 := z_fr_sub (L := L_X12_sums_1_x) f71 fI78 (by decide)
        have k81 : 0 ≤ (I78 0 31).toInt ∧ (I78 0 31).toInt ≤ 500 := by rw [fI78 0 31 (by decide)]; exact (by show 0 ≤ (I70 0 31).toInt ∧ (I70 0 31).toInt ≤ 500; rw [eI70, z_up_n (by decide)]; exact hI52mp.1)
        have k82 : 0 ≤ (I78 0 33).toInt ∧ (I78 0 33).toInt ≤ 500 := by rw [fI78 0 33 (by decide)]; exact (by show 0 ≤ (I70 0 33).toInt ∧ (I70 0 33).toInt ≤ 500; rw [eI70, z_up_n (by decide)]; exact hI52mp.2.1)
        have k83 : 0 ≤ (I78 0 34).toInt ∧ (I78 0 34).toInt ≤ 500 := by rw [fI78 0 34 (by decide)]; exact (by show 0 ≤ (I70 0 34).toInt ∧ (I70 0 34).toInt ≤ 500; rw [eI70, z_up_n (by decide)]; exact hI52mp.2.2.1)
        have k84 : 0 ≤ (I78 0 35).toInt ∧ (I78 0 35).toInt ≤ 500 := by rw [fI78 0 35 (by decide)]; exact (by show 0 ≤ (I70 0 35).toInt ∧ (I70 0 35).toInt ≤ 500; rw [eI70, z_up_n (by decide)]; exact hI52mp.2.2.2)
        have k85 : 0 ≤ (I78 0 36).toInt ∧ (I78 0 36).toInt ≤ 4 := by rw [fI78 0 36 (by decide)]; exact (by show 0 ≤ (I70 0 36).toInt ∧ (I70 0 36).toInt ≤ 4; rw [eI70, z_up_n (by decide)]; exact hI52mt.1)
        have k86 : 0 ≤ (I78 0 42).toInt ∧ (I78 0 42).toInt ≤ 1 := by rw [fI78 0 42 (by decide)]; exact (by show 0 ≤ (I70 0 42).toInt ∧ (I70 0 42).toInt ≤ 1; rw [eI70, z_up_n (by decide)]; exact hI52mt.2)
        have k87 : 0 ≤ (I78 0 40).toInt ∧ (I78 0 40).toInt ≤ 6199 := by rw [fI78 0 40 (by decide)]; exact (by show 0 ≤ (I70 0 40).toInt ∧ (I70 0 40).toInt ≤ 6199; rw [eI70, z_up_n (by decide)]; exact k57)
        have k88 : 0 ≤ (I78 0 15).toInt ∧ (I78 0 15).toInt ≤ 6100 := by rw [fI78 0 15 (by decide)]; exact (by show 0 ≤ (I70 0 15).toInt ∧ (I70 0 15).toInt ≤ 6100; rw [eI70, z_up_n (by decide)]; exact k58)
        have k89 : 0 ≤ (I78 0 35).toInt ∧ (I78 0 35).toInt ≤ (I78 0 34).toInt ∧ (I78 0 34).toInt ≤ (I78 0 33).toInt ∧ (I78 0 33).toInt ≤ 500 ∧ ((I78 0 36).toInt = 0 ∨ (I78 0 35).toInt + 1 ≤ (I78 0 34).toInt) := (by have q0 : (I78 0 35) = (I52 0 35) := (by rw [fI78 0 35 (by decide), eI70, z_up_n (by decide)]); have q1 : (I78 0 34) = (I52 0 34) := (by rw [fI78 0 34 (by decide), eI70, z_up_n (by decide)]); have q2 : (I78 0 33) = (I52 0 33) := (by rw [fI78 0 33 (by decide), eI70, z_up_n (by decide)]); have q3 : (I78 0 36) = (I52 0 36) := (by rw [fI78 0 36 (by decide), eI70, z_up_n (by decide)]); show 0 ≤ (I78 0 35).toInt ∧ (I78 0 35).toInt ≤ (I78 0 34).toInt ∧ (I78 0 34).toInt ≤ (I78 0 33).toInt ∧ (I78 0 33).toInt ≤ 500 ∧ ((I78 0 36).toInt = 0 ∨ (I78 0 35).toInt + 1 ≤ (I78 0 34).toInt); rw [q0, q1, q2, q3]; first | omega | decide)
        have k90 : (I78 0 35).toInt = (I52 0 35).toInt := by rw [fI78 0 35 (by decide), eI70, z_up_n (by decide)]
        have k91 : (I78 0 34).toInt = (I52 0 34).toInt := by rw [fI78 0 34 (by decide), eI70, z_up_n (by decide)]
        have k92 : (I78 0 36).toInt = (I52 0 36).toInt := by rw [fI78 0 36 (by decide), eI70, z_up_n (by decide)]
        have k93 : (I78 0 42).toInt = (I52 0 42).toInt := by rw [fI78 0 42 (by decide), eI70, z_up_n (by decide)]
        have k94 : (I78 0 39).toInt = (I52 0 39).toInt := by rw [fI78 0 39 (by decide), eI70, z_up_n (by decide)]
        have k95 : (I78 0 15).toInt = (I52 0 15).toInt := by rw [fI78 0 15 (by decide), eI70, z_up_n (by decide)]
        have k96 : (I78 0 40).toInt = (I52 0 40).toInt := by rw [fI78 0 40 (by decide), eI70, z_up_n (by decide)]
        obtain ⟨hp, hJ97⟩ := hp
        have h98 := hp
        have hE99 : zm_E gt gv gp ge gh gm n0 gI I78 J80 (.inr (tq + 1, (1, 0, -1, 0) :: (0, fa, ((n0 : Int) + ((NN).length : Int)), 2) :: FS, fo, fg, NN ++ [(fs, fx, fg)])) := zm_E_begin hE74 h98 z_l1 fI78 (by decide) hJ97
        have h100 := zm_E_W hE99
        have h101 := zm_E_D hE99
        refine lv_goto (tgt := 175) hx hb dX12_sums_162 (by decide) ?_
        exact z_vret hx hb hr hK hS (Nat.le_of_ble_eq_true rfl) (Nat.le_of_ble_eq_true rfl) hlocks dX12_sums_175 (shM, ad, I78, J80, PM ad) hW ⟨I78, J80, rfl, ⟨(by show 0 ≤ (I78 0 31).toInt ∧ (I78 0 31).toInt ≤ 500; exact k81), (by show 0 ≤ (I78 0 33).toInt ∧ (I78 0 33).toInt ≤ 500; exact k82), (by show 0 ≤ (I78 0 34).toInt ∧ (I78 0 34).toInt ≤ 500; exact k83), (by show 0 ≤ (I78 0 35).toInt ∧ (I78 0 35).toInt ≤ 500; exact k84)⟩, ⟨(by show 0 ≤ (I78 0 36).toInt ∧ (I78 0 36).toInt ≤ 4; exact k85), (by show 0 ≤ (I78 0 42).toInt ∧ (I78 0 42).toInt ≤ 1; exact k86)⟩, ⟨(by show 0 ≤ (I78 0 47).toInt ∧ (I78 0 47).toInt ≤ 119; exact hI78md.1), (by show 0 ≤ (I78 0 39).toInt ∧ (I78 0 39).toInt ≤ 100; exact hI78md.2)⟩, (by show 0 ≤ (I78 0 40).toInt ∧ (I78 0 40).toInt ≤ 6199; exact k87), (by show 0 ≤ (I78 0 15).toInt ∧ (I78 0 15).toInt ≤ 6100; exact k88), (z_Nd_fr a72 fI78 (by decide)), (by show 0 ≤ (I78 0 35).toInt ∧ (I78 0 35).toInt ≤ (I78 0 34).toInt ∧ (I78 0 34).toInt ≤ (I78 0 33).toInt ∧ (I78 0 33).toInt ≤ 500 ∧ ((I78 0 36).toInt = 0 ∨ (I78 0 35).toInt + 1 ≤ (I78 0 34).toInt); first | omega | decide), f79, ⟨((Classical.em ((I78 0 42).toInt = 0)).elim (fun hw9 => Or.inr ⟨a1.toNatClampNeg + 2, by have w1 := z_fw_0np (a := va.toInt) (o := vo.toInt) (by omega) (by omega); have w2 := z_fo_0n (a := va.toInt); have w3 := z_fw_0np (a := va.toInt) (o := x30.toInt) (by omega) (by omega); have w4 := z_fo_0n (a := va.toInt); have w5 := z_fw_10 (a := 0) (o := -1) (by omega); have w6 := z_rk_0; have w7 := z_rk_1; exact z_PUSH (d := a1.toNatClampNeg) (w := 0) (a := va.toInt) (o := x30.toInt) (s := 2) (wi := 1) hPS (fun i hi => ⟨by rw [eI70, z_up_n (by decide), fI52 26 i (z_wr_c (by decide)), eI37, z_up_n (by decide), fI6 26 i (z_wr_c (by decide))], by rw [eI70, z_up_n (by decide), fI52 27 i (z_wr_c (by decide)), eI37, z_up_n (by decide), fI6 27 i (z_wr_c (by decide))], by rw [eI70, z_up_n (by decide), fI52 28 i (z_wr_c (by decide)), eI37, z_up_k (by omega), fI6 28 i (z_wr_c (by decide))], by rw [eI70, z_up_k (by omega), fI52 29 i (z_wr_c (by decide)), eI37, z_up_n (by decide), fI6 29 i (z_wr_c (by decide))]⟩) (by rw [show I70 26 a1.toNatClampNeg = vw from (by rw [eI70, z_up_n (by decide), fI52 26 a1.toNatClampNeg (z_wr_c (by decide)), eI37, z_up_n (by decide), fI6 26 a1.toNatClampNeg (z_wr_c (by decide))]; exact evw.symm)]; exact hvw) (by rw [show I70 27 a1.toNatClampNeg = va from (by rw [eI70, z_up_n (by decide), fI52 27 a1.toNatClampNeg (z_wr_c (by decide)), eI37, z_up_n (by decide), fI6 27 a1.toNatClampNeg (z_wr_c (by decide))]; exact eva.symm)]) (by rw [show I70 28 a1.toNatClampNeg = x30 from (by rw [eI70, z_up_n (by decide), fI52 28 a1.toNatClampNeg (z_wr_c (by decide)), eI37, z_up_s])]) (by rw [show I70 29 a1.toNatClampNeg = 2 from (by rw [eI70, z_up_s])]; exact z_l2) (by unfold z_fv; omega) hwd (by rw [eI70, z_up_n (by decide)]; omega) h98 z_l1 (by omega) (by omega) (by omega) (by omega) (by omega) (by omega) (by omega) (by omega)⟩) Or.inl), (by have hz9 : zp_st gt gv (n0 : Int) (.inr (tq, (0, fa, fx, fs) :: FS, fo, fg, NN)) = .inr (tq + 1, (1, 0, -1, 0) :: (0, fa, ((n0 : Int) + ((NN).length : Int)), 2) :: FS, fo, fg, NN ++ [(fs, fx, fg)]) := (by first | (simp [zp_st, zp_op, zp_cm, zp_cb, (show ¬ fa = 0 by omega), (show ¬ fx < 0 by omega), ht47]; done) | (exfalso; omega)); rw [hz9]; exact hE99)⟩⟩
      · have z102 := z_l43
        have ht103 : ¬ gt (tq) = 43 := fun q => h44 (by have q9 := (zm_E_sg (show zp_sg 43 by unfold zp_sg; omega) hE40).mpr q; exact ⟨q9.1, by omega⟩)
        refine lv_if_eq (tgt := 89) hx hb dX12_sums_82 (by decide) (fun c104 => ?_) (fun c104 => absurd (by decide) c104)
        refine lv_aload_n hx hb dX12_sums_89 rfl (lv_at hl 0 rfl) ?_
        refine lv_bipush (v := 45) hx hb dX12_sums_90 (by decide) ?_
        refine z_ci hW hS hA (va_runV (As := [.int 45]) (rest := []) ⟨hx, hb, hml, hown, hts⟩ (sx_X12_isSign_x l G ad I37 J8 ⟨(by show 0 ≤ (I37 0 36).toInt ∧ (I37 0 36).toInt ≤ 4; rw [eI37, z_up_n (by decide)]; exact k13), (by show 0 ≤ (I37 0 42).toInt ∧ (I37 0 42).toInt ≤ 1; rw [eI37, z_up_n (by decide)]; exact k14)⟩ 45 _) (cwV 1 hts gX12_sums_X12_isSign rfl rfl rfl (by decide +kernel) ⟨Nat.le_of_ble_eq_true rfl, Nat.le_of_ble_eq_true rfl⟩) (z_preV (i := 0) hK hW rfl rfl) rfl rfl hl.1 rfl (lv_room (Nat.le_of_ble_eq_true rfl)) dX12_sums_92 ⟨Nat.le_of_ble_eq_true rfl, Nat.le_of_ble_eq_true rfl⟩) (fun r u1 H locs hp hW hS => ?_)
        obtain ⟨e9, hp⟩ := hp
        rw [e9] at hW
        rcases hp with ⟨rfl, h105, h106⟩ | ⟨rfl, h105⟩
        · have z107 := z_l45
          have ht108 : gt (tq) = 45 := (zm_E_sg (show zp_sg 45 by unfold zp_sg; omega) hE40).mp ⟨h105, by omega⟩
          have h109 := h105
          rw [show (I37 0 36) = (I6 0 36) from by rw [eI37, z_up_n (by decide)]] at h109
          have h110 : (I6 0 35).toInt + 1 ≤ (I6 0 34).toInt := by omega
          refine lv_if_eq (tgt := 102) hx hb dX12_sums_95 (by decide) (fun c111 => absurd c111 (by decide)) (fun c111 => ?_)
          refine lv_iconst (v := 3) hx hb dX12_sums_98 (by decide) ?_
          refine lv_goto (tgt := 133) hx hb dX12_sums_99 (by decide) ?_
          refine lv_istore_n (lv' := [(3, .int 3), (0, .ref (ad 0)), (1, .int a1), (2, .int 1)]) hx hb dX12_sums_133 rfl hl (by decide) rfl (fun ls hl => ?_)
          refine lv_iload_n hx hb dX12_sums_134 rfl (lv_at hl 0 rfl) ?_
          refine lv_if_le (tgt := 165) hx hb dX12_sums_135 (by decide) (fun c112 => absurd c112 (by decide)) (fun c112 => ?_)
          refine lv_aload_n hx hb dX12_sums_138 rfl (lv_at hl 1 rfl) ?_
          refine z_cv hW hS hA (va_runV (As := []) (rest := []) ⟨hx, hb, hml, hown, hts⟩ (sx_X12_next_x l G ad I37 J8 ⟨(by show 0 ≤ (I37 0 31).toInt ∧ (I37 0 31).toInt ≤ 500; rw [eI37, z_up_n (by decide)]; exact k9), (by show 0 ≤ (I37 0 33).toInt ∧ (I37 0 33).toInt ≤ 500; rw [eI37, z_up_n (by decide)]; exact k10), (by show 0 ≤ (I37 0 34).toInt ∧ (I37 0 34).toInt ≤ 500; rw [eI37, z_up_n (by decide)]; exact k11), (by show 0 ≤ (I37 0 35).toInt ∧ (I37 0 35).toInt ≤ 500; rw [eI37, z_up_n (by decide)]; exact k12)⟩ ⟨(by show 0 ≤ (I37 0 36).toInt ∧ (I37 0 36).toInt ≤ 4; rw [eI37, z_up_n (by decide)]; exact k13), (by show 0 ≤ (I37 0 42).toInt ∧ (I37 0 42).toInt ≤ 1; rw [eI37, z_up_n (by decide)]; exact k14)⟩ (by have q0 : (I37 0 34) = (I6 0 34) := (by rw [eI37, z_up_n (by decide)]); have q1 : (I37 0 33) = (I6 0 33) := (by rw [eI37, z_up_n (by decide)]); show 0 ≤ (I37 0 34).toInt ∧ (I37 0 34).toInt ≤ (I37 0 33).toInt ∧ (I37 0 33).toInt ≤ 500; rw [q0, q1]; first | omega | decide)  _) (cwV 0 hts gX12_sums_X12_next rfl rfl rfl (by decide +kernel) ⟨Nat.le_of_ble_eq_true rfl, Nat.le_of_ble_eq_true rfl⟩) (z_preV (i := 0) hK hW rfl rfl) rfl rfl hl.1 rfl (lv_room (Nat.le_of_ble_eq_true rfl)) dX12_sums_139 ⟨Nat.le_of_ble_eq_true rfl, Nat.le_of_ble_eq_true rfl⟩) (fun u1 H locs hp hW hS => ?_)
          obtain ⟨I113, J115, e9, hI113mp, hI113mt, hI113rp, fI113, hp⟩ := hp
          rw [e9] at hW
          have f114 := z_fr_sub (L := L_X12_sums_1_x) f38 fI113 (by decide)
          have k116 : 0 ≤ (I113 0 47).toInt ∧ (I113 0 47).toInt ≤ 119 := by rw [fI113 0 47 (by decide)]; exact (by show 0 ≤ (I37 0 47).toInt ∧ (I37 0 47).toInt ≤ 119; rw [eI37, z_up_n (by decide)]; exact k15)
          have k117 : 0 ≤ (I113 0 39).toInt ∧ (I113 0 39).toInt ≤ 100 := by rw [fI113 0 39 (by decide)]; exact (by show 0 ≤ (I37 0 39).toInt ∧ (I37 0 39).toInt ≤ 100; rw [eI37, z_up_n (by decide)]; exact k16)
          have k118 : 0 ≤ (I113 0 40).toInt ∧ (I113 0 40).toInt ≤ 6199 := by rw [fI113 0 40 (by decide)]; exact (by show 0 ≤ (I37 0 40).toInt ∧ (I37 0 40).toInt ≤ 6199; rw [eI37, z_up_n (by decide)]; exact k17)
          have k119 : 0 ≤ (I113 0 15).toInt ∧ (I113 0 15).toInt ≤ 6100 := by rw [fI113 0 15 (by decide)]; exact (by show 0 ≤ (I37 0 15).toInt ∧ (I37 0 15).toInt ≤ 6100; rw [eI37, z_up_n (by decide)]; exact hI6mn)
          have k120 : 0 ≤ (I113 0 35).toInt ∧ (I113 0 35).toInt ≤ (I113 0 34).toInt ∧ (I113 0 34).toInt ≤ (I113 0 33).toInt ∧ (I113 0 33).toInt ≤ 500 ∧ ((I113 0 36).toInt = 0 ∨ (I113 0 35).toInt + 1 ≤ (I113 0 34).toInt) := hI113rp
          have k121 : (I113 0 42).toInt = (I6 0 42).toInt := by rw [fI113 0 42 (by decide), eI37, z_up_n (by decide)]
          have k122 : (I113 0 47).toInt = (I6 0 47).toInt := by rw [fI113 0 47 (by decide), eI37, z_up_n (by decide)]
          have k123 : (I113 0 39).toInt = (I6 0 39).toInt := by rw [fI113 0 39 (by decide), eI37, z_up_n (by decide)]
          have k124 : (I113 0 15).toInt = (I6 0 15).toInt := by rw [fI113 0 15 (by decide), eI37, z_up_n (by decide)]
          have k125 : (I113 0 40).toInt = (I6 0 40).toInt := by rw [fI113 0 40 (by decide), eI37, z_up_n (by decide)]
          obtain ⟨hp, hp126⟩ := hp
          have h127 := hp
          rw [show (I37 0 34) = (I6 0 34) from by rw [eI37, z_up_n (by decide)]] at h127
          have hE128 : zm_E gt gv gp ge gh gm n0 gI I113 J115 (.inr (tq + 1, (0, fa, ((n0 : Int) + ((NN).length : Int)), fs) :: FS, fo, fg, NN ++ [(fs, fx, fg)])) := zm_E_next hSM hE40 (by omega) hp126 fI113 (by decide)
          have h129 := zm_E_W hE128
          have h130 := zm_E_D hE128
          refine lv_aload_n hx hb dX12_sums_142 rfl (lv_at hl 1 rfl) ?_
          refine z_get (T := TX12) (N := 96) (ci := 12) (i := 0) (v := .ref (ad 29)) hx hb hts zj_X12_sums_X12 hown hK hW rfl rfl 46 (by decide) (hts (.fieldLink RX12 100 "PetrolBoardModel" "sort" "[I") (me_s (me_l (me_l (List.mem_of_getElem? (i := 3) rfl))))) (fun _ h => h) rfl dX12_sums_143 ?_
          refine lv_iload_n hx hb dX12_sums_146 rfl (lv_at hl 2 rfl) ?_
          refine lv_iload_n hx hb dX12_sums_147 rfl (lv_at hl 0 rfl) ?_
          refine z_iast (i := 29) hx hb hK hW hS rfl (z_ix rfl (by omega) (by omega)) dX12_sums_148 (fun H locs hz1 hW hS => ?_)
          obtain ⟨I131, eI131⟩ : ∃ K : z_I, K = z_up I113 29 a1.toNatClampNeg 3 := ⟨_, rfl⟩
          rw [← eI131] at hW
          have f132 := z_fr_a f114 (show z_wa L_X12_sums_1_x 29 = true by decide) eI131
          have a133 := z_Nd_n (z_Nd_fr a39 fI113 (by decide)) (by decide) eI131
          have z134 := z_l3
          have hE135 : zm_E gt gv gp ge gh gm n0 gI I131 J115 (.inr (tq + 1, (0, fa, ((n0 : Int) + ((NN).length : Int)), 3) :: FS, fo, fg, NN ++ [(fs, fx, fg)])) := zm_E_top hE128 eI131 hdk (Or.inr (Or.inr ⟨rfl, by omega, rfl, rfl, rfl⟩))
          have h136 := zm_E_W hE135
          have h137 := zm_E_D hE135
          refine lv_aload_n hx hb dX12_sums_149 rfl (lv_at hl 1 rfl) ?_
          refine lv_iload_n hx hb dX12_sums_150 rfl (lv_at hl 3 rfl) ?_
          refine lv_if_eq (tgt := 158) hx hb dX12_sums_151 (by decide) (fun c138 => absurd c138 (by decide)) (fun c138 => ?_)
          refine lv_iconst (v := 1) hx hb dX12_sums_154 (by decide) ?_
          refine lv_goto (tgt := 159) hx hb dX12_sums_155 (by decide) ?_
          refine z_cv hW hS hA (va_runV (As := [.int 1]) (rest := []) ⟨hx, hb, hml, hown, hts⟩ (sx_X12_begin_x l G ad I131 J115 ⟨(by show 0 ≤ (I131 0 47).toInt ∧ (I131 0 47).toInt ≤ 119; rw [eI131, z_up_n (by decide)]; exact k116), (by show 0 ≤ (I131 0 39).toInt ∧ (I131 0 39).toInt ≤ 100; rw [eI131, z_up_n (by decide)]; exact k117)⟩ 1 (by have q0 : (I131 0 47) = (I113 0 47) := (by rw [eI131, z_up_n (by decide)]); show (I131 0 47).toInt ≤ 118; rw [q0]; omega) _) (cwV 1 hts gX12_sums_X12_begin rfl rfl rfl (by decide +kernel) ⟨Nat.le_of_ble_eq_true rfl, Nat.le_of_ble_eq_true rfl⟩) (z_preV (i := 0) hK hW rfl rfl) rfl rfl hl.1 rfl (lv_room (Nat.le_of_ble_eq_true rfl)) dX12_sums_159 ⟨Nat.le_of_ble_eq_true rfl, Nat.le_of_ble_eq_true rfl⟩) (fun u1 H locs hp hW hS => ?_)
          obtain ⟨I139, J141, e9, hI139md, fI139, hp⟩ := hp
          rw [e9] at hW
          have f140 := z_fr_sub (L := L_X12_sums_1_x) f132 fI139 (by decide)
          have k142 : 0 ≤ (I139 0 31).toInt ∧ (I139 0 31).toInt ≤ 500 := by rw [fI139 0 31 (by decide)]; exact (by show 0 ≤ (I131 0 31).toInt ∧ (I131 0 31).toInt ≤ 500; rw [eI131, z_up_n (by decide)]; exact hI113mp.1)
          have k143 : 0 ≤ (I139 0 33).toInt ∧ (I139 0 33).toInt ≤ 500 := by rw [fI139 0 33 (by decide)]; exact (by show 0 ≤ (I131 0 33).toInt ∧ (I131 0 33).toInt ≤ 500; rw [eI131, z_up_n (by decide)]; exact hI113mp.2.1)
          have k144 : 0 ≤ (I139 0 34).toInt ∧ (I139 0 34).toInt ≤ 500 := by rw [fI139 0 34 (by decide)]; exact (by show 0 ≤ (I131 0 34).toInt ∧ (I131 0 34).toInt ≤ 500; rw [eI131, z_up_n (by decide)]; exact hI113mp.2.2.1)
          have k145 : 0 ≤ (I139 0 35).toInt ∧ (I139 0 35).toInt ≤ 500 := by rw [fI139 0 35 (by decide)]; exact (by show 0 ≤ (I131 0 35).toInt ∧ (I131 0 35).toInt ≤ 500; rw [eI131, z_up_n (by decide)]; exact hI113mp.2.2.2)
          have k146 : 0 ≤ (I139 0 36).toInt ∧ (I139 0 36).toInt ≤ 4 := by rw [fI139 0 36 (by decide)]; exact (by show 0 ≤ (I131 0 36).toInt ∧ (I131 0 36).toInt ≤ 4; rw [eI131, z_up_n (by decide)]; exact hI113mt.1)
          have k147 : 0 ≤ (I139 0 42).toInt ∧ (I139 0 42).toInt ≤ 1 := by rw [fI139 0 42 (by decide)]; exact (by show 0 ≤ (I131 0 42).toInt ∧ (I131 0 42).toInt ≤ 1; rw [eI131, z_up_n (by decide)]; exact hI113mt.2)
          have k148 : 0 ≤ (I139 0 40).toInt ∧ (I139 0 40).toInt ≤ 6199 := by rw [fI139 0 40 (by decide)]; exact (by show 0 ≤ (I131 0 40).toInt ∧ (I131 0 40).toInt ≤ 6199; rw [eI131, z_up_n (by decide)]; exact k118)
          have k149 : 0 ≤ (I139 0 15).toInt ∧ (I139 0 15).toInt ≤ 6100 := by rw [fI139 0 15 (by decide)]; exact (by show 0 ≤ (I131 0 15).toInt ∧ (I131 0 15).toInt ≤ 6100; rw [eI131, z_up_n (by decide)]; exact k119)
          have k150 : 0 ≤ (I139 0 35).toInt ∧ (I139 0 35).toInt ≤ (I139 0 34).toInt ∧ (I139 0 34).toInt ≤ (I139 0 33).toInt ∧ (I139 0 33).toInt ≤ 500 ∧ ((I139 0 36).toInt = 0 ∨ (I139 0 35).toInt + 1 ≤ (I139 0 34).toInt) := (by have q0 : (I139 0 35) = (I113 0 35) := (by rw [fI139 0 35 (by decide), eI131, z_up_n (by decide)]); have q1 : (I139 0 34) = (I113 0 34) := (by rw [fI139 0 34 (by decide), eI131, z_up_n (by decide)]); have q2 : (I139 0 33) = (I113 0 33) := (by rw [fI139 0 33 (by decide), eI131, z_up_n (by decide)]); have q3 : (I139 0 36) = (I113 0 36) := (by rw [fI139 0 36 (by decide), eI131, z_up_n (by decide)]); show 0 ≤ (I139 0 35).toInt ∧ (I139 0 35).toInt ≤ (I139 0 34).toInt ∧ (I139 0 34).toInt ≤ (I139 0 33).toInt ∧ (I139 0 33).toInt ≤ 500 ∧ ((I139 0 36).toInt = 0 ∨ (I139 0 35).toInt + 1 ≤ (I139 0 34).toInt); rw [q0, q1, q2, q3]; first | omega | decide)
          have k151 : (I139 0 35).toInt = (I113 0 35).toInt := by rw [fI139 0 35 (by decide), eI131, z_up_n (by decide)]
          have k152 : (I139 0 34).toInt = (I113 0 34).toInt := by rw [fI139 0 34 (by decide), eI131, z_up_n (by decide)]
          have k153 : (I139 0 36).toInt = (I113 0 36).toInt := by rw [fI139 0 36 (by decide), eI131, z_up_n (by decide)]
          have k154 : (I139 0 42).toInt = (I113 0 42).toInt := by rw [fI139 0 42 (by decide), eI131, z_up_n (by decide)]
          have k155 : (I139 0 39).toInt = (I113 0 39).toInt := by rw [fI139 0 39 (by decide), eI131, z_up_n (by decide)]
          have k156 : (I139 0 15).toInt = (I113 0 15).toInt := by rw [fI139 0 15 (by decide), eI131, z_up_n (by decide)]
          have k157 : (I139 0 40).toInt = (I113 0 40).toInt := by rw [fI139 0 40 (by decide), eI131, z_up_n (by decide)]
          obtain ⟨hp, hJ158⟩ := hp
          have h159 := hp
          have hE160 : zm_E gt gv gp ge gh gm n0 gI I139 J141 (.inr (tq + 1, (1, 0, -1, 0) :: (0, fa, ((n0 : Int) + ((NN).length : Int)), 3) :: FS, fo, fg, NN ++ [(fs, fx, fg)])) := zm_E_begin hE135 h159 z_l1 fI139 (by decide) hJ158
          have h161 := zm_E_W hE160
          have h162 := zm_E_D hE160
          refine lv_goto (tgt := 175) hx hb dX12_sums_162 (by decide) ?_
          exact z_vret hx hb hr hK hS (Nat.le_of_ble_eq_true rfl) (Nat.le_of_ble_eq_true rfl) hlocks dX12_sums_175 (shM, ad, I139, J141, PM ad) hW ⟨I139, J141, rfl, ⟨(by show 0 ≤ (I139 0 31).toInt ∧ (I139 0 31).toInt ≤ 500; exact k142), (by show 0 ≤ (I139 0 33).toInt ∧ (I139 0 33).toInt ≤ 500; exact k143), (by show 0 ≤ (I139 0 34).toInt ∧ (I139 0 34).toInt ≤ 500; exact k144), (by show 0 ≤ (I139 0 35).toInt ∧ (I139 0 35).toInt ≤ 500; exact k145)⟩, ⟨(by show 0 ≤ (I139 0 36).toInt ∧ (I139 0 36).toInt ≤ 4; exact k146), (by show 0 ≤ (I139 0 42).toInt ∧ (I139 0 42).toInt ≤ 1; exact k147)⟩, ⟨(by show 0 ≤ (I139 0 47).toInt ∧ (I139 0 47).toInt ≤ 119; exact hI139md.1), (by show 0 ≤ (I139 0 39).toInt ∧ (I139 0 39).toInt ≤ 100; exact hI139md.2)⟩, (by show 0 ≤ (I139 0 40).toInt ∧ (I139 0 40).toInt ≤ 6199; exact k148), (by show 0 ≤ (I139 0 15).toInt ∧ (I139 0 15).toInt ≤ 6100; exact k149), (z_Nd_fr a133 fI139 (by decide)), (by show 0 ≤ (I139 0 35).toInt ∧ (I139 0 35).toInt ≤ (I139 0 34).toInt ∧ (I139 0 34).toInt ≤ (I139 0 33).toInt ∧ (I139 0 33).toInt ≤ 500 ∧ ((I139 0 36).toInt = 0 ∨ (I139 0 35).toInt + 1 ≤ (I139 0 34).toInt); first | omega | decide), f140, ⟨((Classical.em ((I139 0 42).toInt = 0)).elim (fun hw9 => Or.inr ⟨a1.toNatClampNeg + 2, by have w1 := z_fw_0np (a := va.toInt) (o := vo.toInt) (by omega) (by omega); have w2 := z_fo_0n (a := va.toInt); have w3 := z_fw_0np (a := va.toInt) (o := x30.toInt) (by omega) (by omega); have w4 := z_fo_0n (a := va.toInt); have w5 := z_fw_10 (a := 0) (o := -1) (by omega); have w6 := z_rk_0; have w7 := z_rk_1; exact z_PUSH (d := a1.toNatClampNeg) (w := 0) (a := va.toInt) (o := x30.toInt) (s := 3) (wi := 1) hPS (fun i hi => ⟨by rw [eI131, z_up_n (by decide), fI113 26 i (z_wr_c (by decide)), eI37, z_up_n (by decide), fI6 26 i (z_wr_c (by decide))], by rw [eI131, z_up_n (by decide), fI113 27 i (z_wr_c (by decide)), eI37, z_up_n (by decide), fI6 27 i (z_wr_c (by decide))], by rw [eI131, z_up_n (by decide), fI113 28 i (z_wr_c (by decide)), eI37, z_up_k (by omega), fI6 28 i (z_wr_c (by decide))], by rw [eI131, z_up_k (by omega), fI113 29 i (z_wr_c (by decide)), eI37, z_up_n (by decide), fI6 29 i (z_wr_c (by decide))]⟩) (by rw [show I131 26 a1.toNatClampNeg = vw from (by rw [eI131, z_up_n (by decide), fI113 26 a1.toNatClampNeg (z_wr_c (by decide)), eI37, z_up_n (by decide), fI6 26 a1.toNatClampNeg (z_wr_c (by decide))]; exact evw.symm)]; exact hvw) (by rw [show I131 27 a1.toNatClampNeg = va from (by rw [eI131, z_up_n (by decide), fI113 27 a1.toNatClampNeg (z_wr_c (by decide)), eI37, z_up_n (by decide), fI6 27 a1.toNatClampNeg (z_wr_c (by decide))]; exact eva.symm)]) (by rw [show I131 28 a1.toNatClampNeg = x30 from (by rw [eI131, z_up_n (by decide), fI113 28 a1.toNatClampNeg (z_wr_c (by decide)), eI37, z_up_s])]) (by rw [show I131 29 a1.toNatClampNeg = 3 from (by rw [eI131, z_up_s])]; exact z_l3) (by unfold z_fv; omega) hwd (by rw [eI131, z_up_n (by decide)]; omega) h159 z_l1 (by omega) (by omega) (by omega) (by omega) (by omega) (by omega) (by omega) (by omega)⟩) Or.inl), (by have hz9 : zp_st gt gv (n0 : Int) (.inr (tq, (0, fa, fx, fs) :: FS, fo, fg, NN)) = .inr (tq + 1, (1, 0, -1, 0) :: (0, fa, ((n0 : Int) + ((NN).length : Int)), 3) :: FS, fo, fg, NN ++ [(fs, fx, fg)]) := (by first | (simp [zp_st, zp_op, zp_cm, zp_cb, (show ¬ fa = 0 by omega), (show ¬ fx < 0 by omega), ht103, ht108]; done) | (exfalso; omega)); rw [hz9]; exact hE160)⟩⟩
        · have z163 := z_l45
          have ht164 : ¬ gt (tq) = 45 := fun q => h105 (by have q9 := (zm_E_sg (show zp_sg 45 by unfold zp_sg; omega) hE40).mpr q; exact ⟨q9.1, by omega⟩)
          refine lv_if_eq (tgt := 102) hx hb dX12_sums_95 (by decide) (fun c165 => ?_) (fun c165 => absurd (by decide) c165)
          refine lv_iconst (v := 0) hx hb dX12_sums_102 (by decide) ?_
          refine lv_goto (tgt := 133) hx hb dX12_sums_103 (by decide) ?_
          refine lv_istore_n (lv' := [(3, .int 0), (0, .ref (ad 0)), (1, .int a1), (2, .int 1)]) hx hb dX12_sums_133 rfl hl (by decide) rfl (fun ls hl => ?_)
          refine lv_iload_n hx hb dX12_sums_134 rfl (lv_at hl 0 rfl) ?_
          refine lv_if_le (tgt := 165) hx hb dX12_sums_135 (by decide) (fun c166 => ?_) (fun c166 => absurd (by decide) c166)
          refine lv_aload_n hx hb dX12_sums_165 rfl (lv_at hl 1 rfl) ?_
          refine lv_aload_n hx hb dX12_sums_166 rfl (lv_at hl 1 rfl) ?_
          refine z_get (T := TX12) (N := 96) (ci := 12) (i := 0) (v := .ref (ad 28)) hx hb hts zj_X12_sums_X12 hown hK hW rfl rfl 45 (by decide) (hts (.fieldLink RX12 97 "PetrolBoardModel" "one" "[I") (me_s (me_l (me_l (List.mem_of_getElem? (i := 1) rfl))))) (fun _ h => h) rfl dX12_sums_167 ?_
          refine lv_iload_n hx hb dX12_sums_170 rfl (lv_at hl 2 rfl) ?_
          refine z_iald (i := 28) hx hb hK hW rfl (z_ix rfl (by omega) (by omega)) dX12_sums_171 ?_
          refine z_topi (v := x30) (by rw [eI37, z_up_s]) ?_
          refine z_cv hW hS hA (va_runV (As := [.int x30]) (rest := []) ⟨hx, hb, hml, hown, hts⟩ (sx_X12_ends_x l G ad I37 J8 ⟨(by show 0 ≤ (I37 0 47).toInt ∧ (I37 0 47).toInt ≤ 119; rw [eI37, z_up_n (by decide)]; exact k15), (by show 0 ≤ (I37 0 39).toInt ∧ (I37 0 39).toInt ≤ 100; rw [eI37, z_up_n (by decide)]; exact k16)⟩ (by show 0 ≤ (I37 0 40).toInt ∧ (I37 0 40).toInt ≤ 6199; rw [eI37, z_up_n (by decide)]; exact k17) x30 (by first | omega | decide) (by have q0 : (I37 0 47) = (I6 0 47) := (by rw [eI37, z_up_n (by decide)]); show 1 ≤ (I37 0 47).toInt; rw [q0]; omega) _) (cwV 1 hts gX12_sums_X12_ends rfl rfl rfl (by decide +kernel) ⟨Nat.le_of_ble_eq_true rfl, Nat.le_of_ble_eq_true rfl⟩) (z_preV (i := 0) hK hW rfl rfl) rfl rfl hl.1 rfl (lv_room (Nat.le_of_ble_eq_true rfl)) dX12_sums_172 ⟨Nat.le_of_ble_eq_true rfl, Nat.le_of_ble_eq_true rfl⟩) (fun u1 H locs hp hW hS => ?_)
          obtain ⟨I167, J169, e9, hI167md, hI167mg, fI167, hp⟩ := hp
          rw [e9] at hW
          have f168 := z_fr_sub (L := L_X12_sums_1_x) f38 fI167 (by decide)
          have k170 : 0 ≤ (I167 0 31).toInt ∧ (I167 0 31).toInt ≤ 500 := by rw [fI167 0 31 (by decide)]; exact (by show 0 ≤ (I37 0 31).toInt ∧ (I37 0 31).toInt ≤ 500; rw [eI37, z_up_n (by decide)]; exact k9)
          have k171 : 0 ≤ (I167 0 33).toInt ∧ (I167 0 33).toInt ≤ 500 := by rw [fI167 0 33 (by decide)]; exact (by show 0 ≤ (I37 0 33).toInt ∧ (I37 0 33).toInt ≤ 500; rw [eI37, z_up_n (by decide)]; exact k10)
          have k172 : 0 ≤ (I167 0 34).toInt ∧ (I167 0 34).toInt ≤ 500 := by rw [fI167 0 34 (by decide)]; exact (by show 0 ≤ (I37 0 34).toInt ∧ (I37 0 34).toInt ≤ 500; rw [eI37, z_up_n (by decide)]; exact k11)
          have k173 : 0 ≤ (I167 0 35).toInt ∧ (I167 0 35).toInt ≤ 500 := by rw [fI167 0 35 (by decide)]; exact (by show 0 ≤ (I37 0 35).toInt ∧ (I37 0 35).toInt ≤ 500; rw [eI37, z_up_n (by decide)]; exact k12)
          have k174 : 0 ≤ (I167 0 36).toInt ∧ (I167 0 36).toInt ≤ 4 := by rw [fI167 0 36 (by decide)]; exact (by show 0 ≤ (I37 0 36).toInt ∧ (I37 0 36).toInt ≤ 4; rw [eI37, z_up_n (by decide)]; exact k13)
          have k175 : 0 ≤ (I167 0 42).toInt ∧ (I167 0 42).toInt ≤ 1 := by rw [fI167 0 42 (by decide)]; exact (by show 0 ≤ (I37 0 42).toInt ∧ (I37 0 42).toInt ≤ 1; rw [eI37, z_up_n (by decide)]; exact k14)
          have k176 : 0 ≤ (I167 0 15).toInt ∧ (I167 0 15).toInt ≤ 6100 := by rw [fI167 0 15 (by decide)]; exact (by show 0 ≤ (I37 0 15).toInt ∧ (I37 0 15).toInt ≤ 6100; rw [eI37, z_up_n (by decide)]; exact hI6mn)
          have k177 : 0 ≤ (I167 0 35).toInt ∧ (I167 0 35).toInt ≤ (I167 0 34).toInt ∧ (I167 0 34).toInt ≤ (I167 0 33).toInt ∧ (I167 0 33).toInt ≤ 500 ∧ ((I167 0 36).toInt = 0 ∨ (I167 0 35).toInt + 1 ≤ (I167 0 34).toInt) := (by have q0 : (I167 0 35) = (I6 0 35) := (by rw [fI167 0 35 (by decide), eI37, z_up_n (by decide)]); have q1 : (I167 0 34) = (I6 0 34) := (by rw [fI167 0 34 (by decide), eI37, z_up_n (by decide)]); have q2 : (I167 0 33) = (I6 0 33) := (by rw [fI167 0 33 (by decide), eI37, z_up_n (by decide)]); have q3 : (I167 0 36) = (I6 0 36) := (by rw [fI167 0 36 (by decide), eI37, z_up_n (by decide)]); show 0 ≤ (I167 0 35).toInt ∧ (I167 0 35).toInt ≤ (I167 0 34).toInt ∧ (I167 0 34).toInt ≤ (I167 0 33).toInt ∧ (I167 0 33).toInt ≤ 500 ∧ ((I167 0 36).toInt = 0 ∨ (I167 0 35).toInt + 1 ≤ (I167 0 34).toInt); rw [q0, q1, q2, q3]; first | omega | decide)
          have k178 : (I167 0 35).toInt = (I6 0 35).toInt := by rw [fI167 0 35 (by decide), eI37, z_up_n (by decide)]
          have k179 : (I167 0 34).toInt = (I6 0 34).toInt := by rw [fI167 0 34 (by decide), eI37, z_up_n (by decide)]
          have k180 : (I167 0 36).toInt = (I6 0 36).toInt := by rw [fI167 0 36 (by decide), eI37, z_up_n (by decide)]
          have k181 : (I167 0 42).toInt = (I6 0 42).toInt := by rw [fI167 0 42 (by decide), eI37, z_up_n (by decide)]
          have k182 : (I167 0 39).toInt = (I6 0 39).toInt := by rw [fI167 0 39 (by decide), eI37, z_up_n (by decide)]
          have k183 : (I167 0 15).toInt = (I6 0 15).toInt := by rw [fI167 0 15 (by decide), eI37, z_up_n (by decide)]
          obtain ⟨hp, h184, hJ185⟩ := hp
          have h186 := hp
          have h187 := hp
          rw [show (I37 0 47) = (I6 0 47) from by rw [eI37, z_up_n (by decide)]] at h187
          have hE188 : zm_E gt gv gp ge gh gm n0 gI I167 J169 (.inr (tq, FS, fo, ((n0 : Int) + ((NN).length : Int)), NN ++ [(fs, fx, fg)])) := zm_E_ends hE40 h186 h184 (by omega) fI167 (by decide) hJ185
          have h189 := zm_E_W hE188
          have h190 := zm_E_D hE188
          exact z_vret hx hb hr hK hS (Nat.le_of_ble_eq_true rfl) (Nat.le_of_ble_eq_true rfl) hlocks dX12_sums_175 (shM, ad, I167, J169, PM ad) hW ⟨I167, J169, rfl, ⟨(by show 0 ≤ (I167 0 31).toInt ∧ (I167 0 31).toInt ≤ 500; exact k170), (by show 0 ≤ (I167 0 33).toInt ∧ (I167 0 33).toInt ≤ 500; exact k171), (by show 0 ≤ (I167 0 34).toInt ∧ (I167 0 34).toInt ≤ 500; exact k172), (by show 0 ≤ (I167 0 35).toInt ∧ (I167 0 35).toInt ≤ 500; exact k173)⟩, ⟨(by show 0 ≤ (I167 0 36).toInt ∧ (I167 0 36).toInt ≤ 4; exact k174), (by show 0 ≤ (I167 0 42).toInt ∧ (I167 0 42).toInt ≤ 1; exact k175)⟩, ⟨(by show 0 ≤ (I167 0 47).toInt ∧ (I167 0 47).toInt ≤ 119; exact hI167md.1), (by show 0 ≤ (I167 0 39).toInt ∧ (I167 0 39).toInt ≤ 100; exact hI167md.2)⟩, (by show 0 ≤ (I167 0 40).toInt ∧ (I167 0 40).toInt ≤ 6199; exact hI167mg), (by show 0 ≤ (I167 0 15).toInt ∧ (I167 0 15).toInt ≤ 6100; exact k176), (z_Nd_fr a39 fI167 (by decide)), (by show 0 ≤ (I167 0 35).toInt ∧ (I167 0 35).toInt ≤ (I167 0 34).toInt ∧ (I167 0 34).toInt ≤ (I167 0 33).toInt ∧ (I167 0 33).toInt ≤ 500 ∧ ((I167 0 36).toInt = 0 ∨ (I167 0 35).toInt + 1 ≤ (I167 0 34).toInt); first | omega | decide), f168, ⟨((Classical.em ((I167 0 42).toInt = 0)).elim (fun hw9 => Or.inr ⟨a1.toNatClampNeg, by have w1 := z_fw_0np (a := va.toInt) (o := vo.toInt) (by omega) (by omega); have w2 := z_fo_0n (a := va.toInt); exact z_POP (d := a1.toNatClampNeg) hPS (fun i hi => ⟨by rw [fI167 26 i (z_wr_c (by decide)), eI37, z_up_n (by decide), fI6 26 i (z_wr_c (by decide))], by rw [fI167 27 i (z_wr_c (by decide)), eI37, z_up_n (by decide), fI6 27 i (z_wr_c (by decide))], by rw [fI167 28 i (z_wr_c (by decide)), eI37, z_up_k (by omega), fI6 28 i (z_wr_c (by decide))], by rw [fI167 29 i (z_wr_c (by decide)), eI37, z_up_n (by decide), fI6 29 i (z_wr_c (by decide))]⟩) (by omega) (by omega) (by omega) (by omega) (by omega) (by omega)⟩) Or.inl), (by have hz9 : zp_st gt gv (n0 : Int) (.inr (tq, (0, fa, fx, fs) :: FS, fo, fg, NN)) = .inr (tq, FS, fo, ((n0 : Int) + ((NN).length : Int)), NN ++ [(fs, fx, fg)]) := (by first | (simp [zp_st, zp_op, zp_cm, zp_cb, (show ¬ fa = 0 by omega), (show ¬ fx < 0 by omega), ht103, ht164]; done) | (exfalso; omega)); rw [hz9]; exact hE188)⟩⟩
    · have g191 := z_f_nge rfl z_l0 c3
      refine lv_aload_n hx hb dX12_sums_44 rfl (lv_at hl 0 rfl) ?_
      have r192 : 0 ≤ (I 0 40).toInt ∧ (I 0 40).toInt ≤ 6199 := hmg
      refine z_get (T := TX12) (N := 96) (ci := 12) (i := 0) (v := .int (I 0 40)) hx hb hts zj_X12_sums_X12 hown hK hW rfl rfl 40 (by decide) (hts (.fieldLink RX12 343 "PetrolBoardModel" "got" "I") (me_s (me_l (me_l (List.mem_of_getElem? (i := 2) rfl))))) (fun _ h => h) rfl dX12_sums_45 ?_
      refine lv_goto (tgt := 71) hx hb dX12_sums_48 (by decide) ?_
      refine z_iast (i := 28) hx hb hK hW hS rfl (z_ix rfl (by omega) (by omega)) dX12_sums_71 (fun H locs hz1 hW hS => ?_)
      obtain ⟨I193, eI193⟩ : ∃ K : z_I, K = z_up I 28 a1.toNatClampNeg (I 0 40) := ⟨_, rfl⟩
      rw [← eI193] at hW
      have f194 := z_fr_a z_fr_0 (show z_wa L_X12_sums_1_x 28 = true by decide) eI193
      have a195 := z_Nd_n hNd (by decide) eI193
      have hE196 : zm_E gt gv gp ge gh gm n0 gI I193 J (.inr (tq, (0, fa, fg, fs) :: FS, fo, fg, NN)) := zm_E_top hE eI193 hdk (Or.inr (Or.inl ⟨rfl, by omega, rfl, rfl, rfl⟩))
      have h197 := zm_E_W hE196
      have h198 := zm_E_D hE196
      refine lv_iload_n hx hb dX12_sums_72 rfl (lv_at hl 2 rfl) ?_
      refine lv_if_eq (tgt := 106) hx hb dX12_sums_73 (by decide) (fun c199 => absurd c199 (by decide)) (fun c199 => ?_)
      refine lv_aload_n hx hb dX12_sums_76 rfl (lv_at hl 0 rfl) ?_
      refine lv_bipush (v := 43) hx hb dX12_sums_77 (by decide) ?_
      refine z_ci hW hS hA (va_runV (As := [.int 43]) (rest := []) ⟨hx, hb, hml, hown, hts⟩ (sx_X12_isSign_x l G ad I193 J ⟨(by show 0 ≤ (I193 0 36).toInt ∧ (I193 0 36).toInt ≤ 4; rw [eI193, z_up_n (by decide)]; exact hmt.1), (by show 0 ≤ (I193 0 42).toInt ∧ (I193 0 42).toInt ≤ 1; rw [eI193, z_up_n (by decide)]; exact hmt.2)⟩ 43 _) (cwV 1 hts gX12_sums_X12_isSign rfl rfl rfl (by decide +kernel) ⟨Nat.le_of_ble_eq_true rfl, Nat.le_of_ble_eq_true rfl⟩) (z_preV (i := 0) hK hW rfl rfl) rfl rfl hl.1 rfl (lv_room (Nat.le_of_ble_eq_true rfl)) dX12_sums_79 ⟨Nat.le_of_ble_eq_true rfl, Nat.le_of_ble_eq_true rfl⟩) (fun r u1 H locs hp hW hS => ?_)
      obtain ⟨e9, hp⟩ := hp
      rw [e9] at hW
      rcases hp with ⟨rfl, h200, h201⟩ | ⟨rfl, h200⟩
      · have z202 := z_l43
        have ht203 : gt (tq) = 43 := (zm_E_sg (show zp_sg 43 by unfold zp_sg; omega) hE196).mp ⟨h200, by omega⟩
        have h204 := h200
        rw [show (I193 0 36) = (I 0 36) from by rw [eI193, z_up_n (by decide)]] at h204
        have h205 : (I 0 35).toInt + 1 ≤ (I 0 34).toInt := by omega
        refine lv_if_eq (tgt := 89) hx hb dX12_sums_82 (by decide) (fun c206 => absurd c206 (by decide)) (fun c206 => ?_)
        refine lv_iconst (v := 2) hx hb dX12_sums_85 (by decide) ?_
        refine lv_goto (tgt := 133) hx hb dX12_sums_86 (by decide) ?_
        refine lv_istore_n (lv' := [(3, .int 2), (0, .ref (ad 0)), (1, .int a1), (2, .int 1)]) hx hb dX12_sums_133 rfl hl (by decide) rfl (fun ls hl => ?_)
        refine lv_iload_n hx hb dX12_sums_134 rfl (lv_at hl 0 rfl) ?_
        refine lv_if_le (tgt := 165) hx hb dX12_sums_135 (by decide) (fun c207 => absurd c207 (by decide)) (fun c207 => ?_)
        refine lv_aload_n hx hb dX12_sums_138 rfl (lv_at hl 1 rfl) ?_
        refine z_cv hW hS hA (va_runV (As := []) (rest := []) ⟨hx, hb, hml, hown, hts⟩ (sx_X12_next_x l G ad I193 J ⟨(by show 0 ≤ (I193 0 31).toInt ∧ (I193 0 31).toInt ≤ 500; rw [eI193, z_up_n (by decide)]; exact hmp.1), (by show 0 ≤ (I193 0 33).toInt ∧ (I193 0 33).toInt ≤ 500; rw [eI193, z_up_n (by decide)]; exact hmp.2.1), (by show 0 ≤ (I193 0 34).toInt ∧ (I193 0 34).toInt ≤ 500; rw [eI193, z_up_n (by decide)]; exact hmp.2.2.1), (by show 0 ≤ (I193 0 35).toInt ∧ (I193 0 35).toInt ≤ 500; rw [eI193, z_up_n (by decide)]; exact hmp.2.2.2)⟩ ⟨(by show 0 ≤ (I193 0 36).toInt ∧ (I193 0 36).toInt ≤ 4; rw [eI193, z_up_n (by decide)]; exact hmt.1), (by show 0 ≤ (I193 0 42).toInt ∧ (I193 0 42).toInt ≤ 1; rw [eI193, z_up_n (by decide)]; exact hmt.2)⟩ (by have q0 : (I193 0 34) = (I 0 34) := (by rw [eI193, z_up_n (by decide)]); have q1 : (I193 0 33) = (I 0 33) := (by rw [eI193, z_up_n (by decide)]); show 0 ≤ (I193 0 34).toInt ∧ (I193 0 34).toInt ≤ (I193 0 33).toInt ∧ (I193 0 33).toInt ≤ 500; rw [q0, q1]; first | omega | decide)  _) (cwV 0 hts gX12_sums_X12_next rfl rfl rfl (by decide +kernel) ⟨Nat.le_of_ble_eq_true rfl, Nat.le_of_ble_eq_true rfl⟩) (z_preV (i := 0) hK hW rfl rfl) rfl rfl hl.1 rfl (lv_room (Nat.le_of_ble_eq_true rfl)) dX12_sums_139 ⟨Nat.le_of_ble_eq_true rfl, Nat.le_of_ble_eq_true rfl⟩) (fun u1 H locs hp hW hS => ?_)
        obtain ⟨I208, J210, e9, hI208mp, hI208mt, hI208rp, fI208, hp⟩ := hp
        rw [e9] at hW
        have f209 := z_fr_sub (L := L_X12_sums_1_x) f194 fI208 (by decide)
        have k211 : 0 ≤ (I208 0 47).toInt ∧ (I208 0 47).toInt ≤ 119 := by rw [fI208 0 47 (by decide)]; exact (by show 0 ≤ (I193 0 47).toInt ∧ (I193 0 47).toInt ≤ 119; rw [eI193, z_up_n (by decide)]; exact hmd.1)
        have k212 : 0 ≤ (I208 0 39).toInt ∧ (I208 0 39).toInt ≤ 100 := by rw [fI208 0 39 (by decide)]; exact (by show 0 ≤ (I193 0 39).toInt ∧ (I193 0 39).toInt ≤ 100; rw [eI193, z_up_n (by decide)]; exact hmd.2)
        have k213 : 0 ≤ (I208 0 40).toInt ∧ (I208 0 40).toInt ≤ 6199 := by rw [fI208 0 40 (by decide)]; exact (by show 0 ≤ (I193 0 40).toInt ∧ (I193 0 40).toInt ≤ 6199; rw [eI193, z_up_n (by decide)]; exact hmg)
        have k214 : 0 ≤ (I208 0 15).toInt ∧ (I208 0 15).toInt ≤ 6100 := by rw [fI208 0 15 (by decide)]; exact (by show 0 ≤ (I193 0 15).toInt ∧ (I193 0 15).toInt ≤ 6100; rw [eI193, z_up_n (by decide)]; exact hmn)
        have k215 : 0 ≤ (I208 0 35).toInt ∧ (I208 0 35).toInt ≤ (I208 0 34).toInt ∧ (I208 0 34).toInt ≤ (I208 0 33).toInt ∧ (I208 0 33).toInt ≤ 500 ∧ ((I208 0 36).toInt = 0 ∨ (I208 0 35).toInt + 1 ≤ (I208 0 34).toInt) := hI208rp
        have k216 : (I208 0 42).toInt = (I 0 42).toInt := by rw [fI208 0 42 (by decide), eI193, z_up_n (by decide)]
        have k217 : (I208 0 47).toInt = (I 0 47).toInt := by rw [fI208 0 47 (by decide), eI193, z_up_n (by decide)]
        have k218 : (I208 0 39).toInt = (I 0 39).toInt := by rw [fI208 0 39 (by decide), eI193, z_up_n (by decide)]
        have k219 : (I208 0 15).toInt = (I 0 15).toInt := by rw [fI208 0 15 (by decide), eI193, z_up_n (by decide)]
        have k220 : (I208 0 40).toInt = (I 0 40).toInt := by rw [fI208 0 40 (by decide), eI193, z_up_n (by decide)]
        obtain ⟨hp, hp221⟩ := hp
        have h222 := hp
        rw [show (I193 0 34) = (I 0 34) from by rw [eI193, z_up_n (by decide)]] at h222
        have hE223 : zm_E gt gv gp ge gh gm n0 gI I208 J210 (.inr (tq + 1, (0, fa, fg, fs) :: FS, fo, fg, NN)) := zm_E_next hSM hE196 (by omega) hp221 fI208 (by decide)
        have h224 := zm_E_W hE223
        have h225 := zm_E_D hE223
        refine lv_aload_n hx hb dX12_sums_142 rfl (lv_at hl 1 rfl) ?_
        refine z_get (T := TX12) (N := 96) (ci := 12) (i := 0) (v := .ref (ad 29)) hx hb hts zj_X12_sums_X12 hown hK hW rfl rfl 46 (by decide) (hts (.fieldLink RX12 100 "PetrolBoardModel" "sort" "[I") (me_s (me_l (me_l (List.mem_of_getElem? (i := 3) rfl))))) (fun _ h => h) rfl dX12_sums_143 ?_
        refine lv_iload_n hx hb dX12_sums_146 rfl (lv_at hl 2 rfl) ?_
        refine lv_iload_n hx hb dX12_sums_147 rfl (lv_at hl 0 rfl) ?_
        refine z_iast (i := 29) hx hb hK hW hS rfl (z_ix rfl (by omega) (by omega)) dX12_sums_148 (fun H locs hz1 hW hS => ?_)
        obtain ⟨I226, eI226⟩ : ∃ K : z_I, K = z_up I208 29 a1.toNatClampNeg 2 := ⟨_, rfl⟩
        rw [← eI226] at hW
        have f227 := z_fr_a f209 (show z_wa L_X12_sums_1_x 29 = true by decide) eI226
        have a228 := z_Nd_n (z_Nd_fr a195 fI208 (by decide)) (by decide) eI226
        have z229 := z_l2
        have hE230 : zm_E gt gv gp ge gh gm n0 gI I226 J210 (.inr (tq + 1, (0, fa, fg, 2) :: FS, fo, fg, NN)) := zm_E_top hE223 eI226 hdk (Or.inr (Or.inr ⟨rfl, by omega, rfl, rfl, rfl⟩))
        have h231 := zm_E_W hE230
        have h232 := zm_E_D hE230
        refine lv_aload_n hx hb dX12_sums_149 rfl (lv_at hl 1 rfl) ?_
        refine lv_iload_n hx hb dX12_sums_150 rfl (lv_at hl 3 rfl) ?_
        refine lv_if_eq (tgt := 158) hx hb dX12_sums_151 (by decide) (fun c233 => absurd c233 (by decide)) (fun c233 => ?_)
        refine lv_iconst (v := 1) hx hb dX12_sums_154 (by decide) ?_
        refine lv_goto (tgt := 159) hx hb dX12_sums_155 (by decide) ?_
        refine z_cv hW hS hA (va_runV (As := [.int 1]) (rest := []) ⟨hx, hb, hml, hown, hts⟩ (sx_X12_begin_x l G ad I226 J210 ⟨(by show 0 ≤ (I226 0 47).toInt ∧ (I226 0 47).toInt ≤ 119; rw [eI226, z_up_n (by decide)]; exact k211), (by show 0 ≤ (I226 0 39).toInt ∧ (I226 0 39).toInt ≤ 100; rw [eI226, z_up_n (by decide)]; exact k212)⟩ 1 (by have q0 : (I226 0 47) = (I208 0 47) := (by rw [eI226, z_up_n (by decide)]); show (I226 0 47).toInt ≤ 118; rw [q0]; omega) _) (cwV 1 hts gX12_sums_X12_begin rfl rfl rfl (by decide +kernel) ⟨Nat.le_of_ble_eq_true rfl, Nat.le_of_ble_eq_true rfl⟩) (z_preV (i := 0) hK hW rfl rfl) rfl rfl hl.1 rfl (lv_room (Nat.le_of_ble_eq_true rfl)) dX12_sums_159 ⟨Nat.le_of_ble_eq_true rfl, Nat.le_of_ble_eq_true rfl⟩) (fun u1 H locs hp hW hS => ?_)
        obtain ⟨I234, J236, e9, hI234md, fI234, hp⟩ := hp
        rw [e9] at hW
        have f235 := z_fr_sub (L := L_X12_sums_1_x) f227 fI234 (by decide)
        have k237 : 0 ≤ (I234 0 31).toInt ∧ (I234 0 31).toInt ≤ 500 := by rw [fI234 0 31 (by decide)]; exact (by show 0 ≤ (I226 0 31).toInt ∧ (I226 0 31).toInt ≤ 500; rw [eI226, z_up_n (by decide)]; exact hI208mp.1)
        have k238 : 0 ≤ (I234 0 33).toInt ∧ (I234 0 33).toInt ≤ 500 := by rw [fI234 0 33 (by decide)]; exact (by show 0 ≤ (I226 0 33).toInt ∧ (I226 0 33).toInt ≤ 500; rw [eI226, z_up_n (by decide)]; exact hI208mp.2.1)
        have k239 : 0 ≤ (I234 0 34).toInt ∧ (I234 0 34).toInt ≤ 500 := by rw [fI234 0 34 (by decide)]; exact (by show 0 ≤ (I226 0 34).toInt ∧ (I226 0 34).toInt ≤ 500; rw [eI226, z_up_n (by decide)]; exact hI208mp.2.2.1)
        have k240 : 0 ≤ (I234 0 35).toInt ∧ (I234 0 35).toInt ≤ 500 := by rw [fI234 0 35 (by decide)]; exact (by show 0 ≤ (I226 0 35).toInt ∧ (I226 0 35).toInt ≤ 500; rw [eI226, z_up_n (by decide)]; exact hI208mp.2.2.2)
        have k241 : 0 ≤ (I234 0 36).toInt ∧ (I234 0 36).toInt ≤ 4 := by rw [fI234 0 36 (by decide)]; exact (by show 0 ≤ (I226 0 36).toInt ∧ (I226 0 36).toInt ≤ 4; rw [eI226, z_up_n (by decide)]; exact hI208mt.1)
        have k242 : 0 ≤ (I234 0 42).toInt ∧ (I234 0 42).toInt ≤ 1 := by rw [fI234 0 42 (by decide)]; exact (by show 0 ≤ (I226 0 42).toInt ∧ (I226 0 42).toInt ≤ 1; rw [eI226, z_up_n (by decide)]; exact hI208mt.2)
        have k243 : 0 ≤ (I234 0 40).toInt ∧ (I234 0 40).toInt ≤ 6199 := by rw [fI234 0 40 (by decide)]; exact (by show 0 ≤ (I226 0 40).toInt ∧ (I226 0 40).toInt ≤ 6199; rw [eI226, z_up_n (by decide)]; exact k213)
        have k244 : 0 ≤ (I234 0 15).toInt ∧ (I234 0 15).toInt ≤ 6100 := by rw [fI234 0 15 (by decide)]; exact (by show 0 ≤ (I226 0 15).toInt ∧ (I226 0 15).toInt ≤ 6100; rw [eI226, z_up_n (by decide)]; exact k214)
        have k245 : 0 ≤ (I234 0 35).toInt ∧ (I234 0 35).toInt ≤ (I234 0 34).toInt ∧ (I234 0 34).toInt ≤ (I234 0 33).toInt ∧ (I234 0 33).toInt ≤ 500 ∧ ((I234 0 36).toInt = 0 ∨ (I234 0 35).toInt + 1 ≤ (I234 0 34).toInt) := (by have q0 : (I234 0 35) = (I208 0 35) := (by rw [fI234 0 35 (by decide), eI226, z_up_n (by decide)]); have q1 : (I234 0 34) = (I208 0 34) := (by rw [fI234 0 34 (by decide), eI226, z_up_n (by decide)]); have q2 : (I234 0 33) = (I208 0 33) := (by rw [fI234 0 33 (by decide), eI226, z_up_n (by decide)]); have q3 : (I234 0 36) = (I208 0 36) := (by rw [fI234 0 36 (by decide), eI226, z_up_n (by decide)]); show 0 ≤ (I234 0 35).toInt ∧ (I234 0 35).toInt ≤ (I234 0 34).toInt ∧ (I234 0 34).toInt ≤ (I234 0 33).toInt ∧ (I234 0 33).toInt ≤ 500 ∧ ((I234 0 36).toInt = 0 ∨ (I234 0 35).toInt + 1 ≤ (I234 0 34).toInt); rw [q0, q1, q2, q3]; first | omega | decide)
        have k246 : (I234 0 35).toInt = (I208 0 35).toInt := by rw [fI234 0 35 (by decide), eI226, z_up_n (by decide)]
        have k247 : (I234 0 34).toInt = (I208 0 34).toInt := by rw [fI234 0 34 (by decide), eI226, z_up_n (by decide)]
        have k248 : (I234 0 36).toInt = (I208 0 36).toInt := by rw [fI234 0 36 (by decide), eI226, z_up_n (by decide)]
        have k249 : (I234 0 42).toInt = (I208 0 42).toInt := by rw [fI234 0 42 (by decide), eI226, z_up_n (by decide)]
        have k250 : (I234 0 39).toInt = (I208 0 39).toInt := by rw [fI234 0 39 (by decide), eI226, z_up_n (by decide)]
        have k251 : (I234 0 15).toInt = (I208 0 15).toInt := by rw [fI234 0 15 (by decide), eI226, z_up_n (by decide)]
        have k252 : (I234 0 40).toInt = (I208 0 40).toInt := by rw [fI234 0 40 (by decide), eI226, z_up_n (by decide)]
        obtain ⟨hp, hJ253⟩ := hp
        have h254 := hp
        have hE255 : zm_E gt gv gp ge gh gm n0 gI I234 J236 (.inr (tq + 1, (1, 0, -1, 0) :: (0, fa, fg, 2) :: FS, fo, fg, NN)) := zm_E_begin hE230 h254 z_l1 fI234 (by decide) hJ253
        have h256 := zm_E_W hE255
        have h257 := zm_E_D hE255
        refine lv_goto (tgt := 175) hx hb dX12_sums_162 (by decide) ?_
        exact z_vret hx hb hr hK hS (Nat.le_of_ble_eq_true rfl) (Nat.le_of_ble_eq_true rfl) hlocks dX12_sums_175 (shM, ad, I234, J236, PM ad) hW ⟨I234, J236, rfl, ⟨(by show 0 ≤ (I234 0 31).toInt ∧ (I234 0 31).toInt ≤ 500; exact k237), (by show 0 ≤ (I234 0 33).toInt ∧ (I234 0 33).toInt ≤ 500; exact k238), (by show 0 ≤ (I234 0 34).toInt ∧ (I234 0 34).toInt ≤ 500; exact k239), (by show 0 ≤ (I234 0 35).toInt ∧ (I234 0 35).toInt ≤ 500; exact k240)⟩, ⟨(by show 0 ≤ (I234 0 36).toInt ∧ (I234 0 36).toInt ≤ 4; exact k241), (by show 0 ≤ (I234 0 42).toInt ∧ (I234 0 42).toInt ≤ 1; exact k242)⟩, ⟨(by show 0 ≤ (I234 0 47).toInt ∧ (I234 0 47).toInt ≤ 119; exact hI234md.1), (by show 0 ≤ (I234 0 39).toInt ∧ (I234 0 39).toInt ≤ 100; exact hI234md.2)⟩, (by show 0 ≤ (I234 0 40).toInt ∧ (I234 0 40).toInt ≤ 6199; exact k243), (by show 0 ≤ (I234 0 15).toInt ∧ (I234 0 15).toInt ≤ 6100; exact k244), (z_Nd_fr a228 fI234 (by decide)), (by show 0 ≤ (I234 0 35).toInt ∧ (I234 0 35).toInt ≤ (I234 0 34).toInt ∧ (I234 0 34).toInt ≤ (I234 0 33).toInt ∧ (I234 0 33).toInt ≤ 500 ∧ ((I234 0 36).toInt = 0 ∨ (I234 0 35).toInt + 1 ≤ (I234 0 34).toInt); first | omega | decide), f235, ⟨((Classical.em ((I234 0 42).toInt = 0)).elim (fun hw9 => Or.inr ⟨a1.toNatClampNeg + 2, by have w1 := z_fw_0nm (a := va.toInt) (o := vo.toInt) (by omega) (by omega); have w2 := z_fo_0n (a := va.toInt); have w3 := z_fw_0np (a := va.toInt) (o := (I 0 40).toInt) (by omega) (by omega); have w4 := z_fo_0n (a := va.toInt); have w5 := z_fw_10 (a := 0) (o := -1) (by omega); have w6 := z_rk_0; have w7 := z_rk_1; exact z_PUSH (d := a1.toNatClampNeg) (w := 0) (a := va.toInt) (o := (I 0 40).toInt) (s := 2) (wi := 1) hPS (fun i hi => ⟨by rw [eI226, z_up_n (by decide), fI208 26 i (z_wr_c (by decide)), eI193, z_up_n (by decide)], by rw [eI226, z_up_n (by decide), fI208 27 i (z_wr_c (by decide)), eI193, z_up_n (by decide)], by rw [eI226, z_up_n (by decide), fI208 28 i (z_wr_c (by decide)), eI193, z_up_k (by omega)], by rw [eI226, z_up_k (by omega), fI208 29 i (z_wr_c (by decide)), eI193, z_up_n (by decide)]⟩) (by rw [show I226 26 a1.toNatClampNeg = vw from (by rw [eI226, z_up_n (by decide), fI208 26 a1.toNatClampNeg (z_wr_c (by decide)), eI193, z_up_n (by decide)]; exact evw.symm)]; exact hvw) (by rw [show I226 27 a1.toNatClampNeg = va from (by rw [eI226, z_up_n (by decide), fI208 27 a1.toNatClampNeg (z_wr_c (by decide)), eI193, z_up_n (by decide)]; exact eva.symm)]) (by rw [show I226 28 a1.toNatClampNeg = (I 0 40) from (by rw [eI226, z_up_n (by decide), fI208 28 a1.toNatClampNeg (z_wr_c (by decide)), eI193, z_up_s])]) (by rw [show I226 29 a1.toNatClampNeg = 2 from (by rw [eI226, z_up_s])]; exact z_l2) (by unfold z_fv; omega) hwd (by rw [eI226, z_up_n (by decide)]; omega) h254 z_l1 (by omega) (by omega) (by omega) (by omega) (by omega) (by omega) (by omega) (by omega)⟩) Or.inl), (by have hz9 : zp_st gt gv (n0 : Int) (.inr (tq, (0, fa, fx, fs) :: FS, fo, fg, NN)) = .inr (tq + 1, (1, 0, -1, 0) :: (0, fa, fg, 2) :: FS, fo, fg, NN) := (by first | (simp [zp_st, zp_op, zp_cm, zp_cb, (show ¬ fa = 0 by omega), (show fx < 0 by omega), ht203]; done) | (exfalso; omega)); rw [hz9]; exact hE255)⟩⟩
      · have z258 := z_l43
        have ht259 : ¬ gt (tq) = 43 := fun q => h200 (by have q9 := (zm_E_sg (show zp_sg 43 by unfold zp_sg; omega) hE196).mpr q; exact ⟨q9.1, by omega⟩)
        refine lv_if_eq (tgt := 89) hx hb dX12_sums_82 (by decide) (fun c260 => ?_) (fun c260 => absurd (by decide) c260)
        refine lv_aload_n hx hb dX12_sums_89 rfl (lv_at hl 0 rfl) ?_
        refine lv_bipush (v := 45) hx hb dX12_sums_90 (by decide) ?_
        refine z_ci hW hS hA (va_runV (As := [.int 45]) (rest := []) ⟨hx, hb, hml, hown, hts⟩ (sx_X12_isSign_x l G ad I193 J ⟨(by show 0 ≤ (I193 0 36).toInt ∧ (I193 0 36).toInt ≤ 4; rw [eI193, z_up_n (by decide)]; exact hmt.1), (by show 0 ≤ (I193 0 42).toInt ∧ (I193 0 42).toInt ≤ 1; rw [eI193, z_up_n (by decide)]; exact hmt.2)⟩ 45 _) (cwV 1 hts gX12_sums_X12_isSign rfl rfl rfl (by decide +kernel) ⟨Nat.le_of_ble_eq_true rfl, Nat.le_of_ble_eq_true rfl⟩) (z_preV (i := 0) hK hW rfl rfl) rfl rfl hl.1 rfl (lv_room (Nat.le_of_ble_eq_true rfl)) dX12_sums_92 ⟨Nat.le_of_ble_eq_true rfl, Nat.le_of_ble_eq_true rfl⟩) (fun r u1 H locs hp hW hS => ?_)
        obtain ⟨e9, hp⟩ := hp
        rw [e9] at hW
        rcases hp with ⟨rfl, h261, h262⟩ | ⟨rfl, h261⟩
        · have z263 := z_l45
          have ht264 : gt (tq) = 45 := (zm_E_sg (show zp_sg 45 by unfold zp_sg; omega) hE196).mp ⟨h261, by omega⟩
          have h265 := h261
          rw [show (I193 0 36) = (I 0 36) from by rw [eI193, z_up_n (by decide)]] at h265
          have h266 : (I 0 35).toInt + 1 ≤ (I 0 34).toInt := by omega
          refine lv_if_eq (tgt := 102) hx hb dX12_sums_95 (by decide) (fun c267 => absurd c267 (by decide)) (fun c267 => ?_)
          refine lv_iconst (v := 3) hx hb dX12_sums_98 (by decide) ?_
          refine lv_goto (tgt := 133) hx hb dX12_sums_99 (by decide) ?_
          refine lv_istore_n (lv' := [(3, .int 3), (0, .ref (ad 0)), (1, .int a1), (2, .int 1)]) hx hb dX12_sums_133 rfl hl (by decide) rfl (fun ls hl => ?_)
          refine lv_iload_n hx hb dX12_sums_134 rfl (lv_at hl 0 rfl) ?_
          refine lv_if_le (tgt := 165) hx hb dX12_sums_135 (by decide) (fun c268 => absurd c268 (by decide)) (fun c268 => ?_)
          refine lv_aload_n hx hb dX12_sums_138 rfl (lv_at hl 1 rfl) ?_
          refine z_cv hW hS hA (va_runV (As := []) (rest := []) ⟨hx, hb, hml, hown, hts⟩ (sx_X12_next_x l G ad I193 J ⟨(by show 0 ≤ (I193 0 31).toInt ∧ (I193 0 31).toInt ≤ 500; rw [eI193, z_up_n (by decide)]; exact hmp.1), (by show 0 ≤ (I193 0 33).toInt ∧ (I193 0 33).toInt ≤ 500; rw [eI193, z_up_n (by decide)]; exact hmp.2.1), (by show 0 ≤ (I193 0 34).toInt ∧ (I193 0 34).toInt ≤ 500; rw [eI193, z_up_n (by decide)]; exact hmp.2.2.1), (by show 0 ≤ (I193 0 35).toInt ∧ (I193 0 35).toInt ≤ 500; rw [eI193, z_up_n (by decide)]; exact hmp.2.2.2)⟩ ⟨(by show 0 ≤ (I193 0 36).toInt ∧ (I193 0 36).toInt ≤ 4; rw [eI193, z_up_n (by decide)]; exact hmt.1), (by show 0 ≤ (I193 0 42).toInt ∧ (I193 0 42).toInt ≤ 1; rw [eI193, z_up_n (by decide)]; exact hmt.2)⟩ (by have q0 : (I193 0 34) = (I 0 34) := (by rw [eI193, z_up_n (by decide)]); have q1 : (I193 0 33) = (I 0 33) := (by rw [eI193, z_up_n (by decide)]); show 0 ≤ (I193 0 34).toInt ∧ (I193 0 34).toInt ≤ (I193 0 33).toInt ∧ (I193 0 33).toInt ≤ 500; rw [q0, q1]; first | omega | decide)  _) (cwV 0 hts gX12_sums_X12_next rfl rfl rfl (by decide +kernel) ⟨Nat.le_of_ble_eq_true rfl, Nat.le_of_ble_eq_true rfl⟩) (z_preV (i := 0) hK hW rfl rfl) rfl rfl hl.1 rfl (lv_room (Nat.le_of_ble_eq_true rfl)) dX12_sums_139 ⟨Nat.le_of_ble_eq_true rfl, Nat.le_of_ble_eq_true rfl⟩) (fun u1 H locs hp hW hS => ?_)
          obtain ⟨I269, J271, e9, hI269mp, hI269mt, hI269rp, fI269, hp⟩ := hp
          rw [e9] at hW
          have f270 := z_fr_sub (L := L_X12_sums_1_x) f194 fI269 (by decide)
          have k272 : 0 ≤ (I269 0 47).toInt ∧ (I269 0 47).toInt ≤ 119 := by rw [fI269 0 47 (by decide)]; exact (by show 0 ≤ (I193 0 47).toInt ∧ (I193 0 47).toInt ≤ 119; rw [eI193, z_up_n (by decide)]; exact hmd.1)
          have k273 : 0 ≤ (I269 0 39).toInt ∧ (I269 0 39).toInt ≤ 100 := by rw [fI269 0 39 (by decide)]; exact (by show 0 ≤ (I193 0 39).toInt ∧ (I193 0 39).toInt ≤ 100; rw [eI193, z_up_n (by decide)]; exact hmd.2)
          have k274 : 0 ≤ (I269 0 40).toInt ∧ (I269 0 40).toInt ≤ 6199 := by rw [fI269 0 40 (by decide)]; exact (by show 0 ≤ (I193 0 40).toInt ∧ (I193 0 40).toInt ≤ 6199; rw [eI193, z_up_n (by decide)]; exact hmg)
          have k275 : 0 ≤ (I269 0 15).toInt ∧ (I269 0 15).toInt ≤ 6100 := by rw [fI269 0 15 (by decide)]; exact (by show 0 ≤ (I193 0 15).toInt ∧ (I193 0 15).toInt ≤ 6100; rw [eI193, z_up_n (by decide)]; exact hmn)
          have k276 : 0 ≤ (I269 0 35).toInt ∧ (I269 0 35).toInt ≤ (I269 0 34).toInt ∧ (I269 0 34).toInt ≤ (I269 0 33).toInt ∧ (I269 0 33).toInt ≤ 500 ∧ ((I269 0 36).toInt = 0 ∨ (I269 0 35).toInt + 1 ≤ (I269 0 34).toInt) := hI269rp
          have k277 : (I269 0 42).toInt = (I 0 42).toInt := by rw [fI269 0 42 (by decide), eI193, z_up_n (by decide)]
          have k278 : (I269 0 47).toInt = (I 0 47).toInt := by rw [fI269 0 47 (by decide), eI193, z_up_n (by decide)]
          have k279 : (I269 0 39).toInt = (I 0 39).toInt := by rw [fI269 0 39 (by decide), eI193, z_up_n (by decide)]
          have k280 : (I269 0 15).toInt = (I 0 15).toInt := by rw [fI269 0 15 (by decide), eI193, z_up_n (by decide)]
          have k281 : (I269 0 40).toInt = (I 0 40).toInt := by rw [fI269 0 40 (by decide), eI193, z_up_n (by decide)]
          obtain ⟨hp, hp282⟩ := hp
          have h283 := hp
          rw [show (I193 0 34) = (I 0 34) from by rw [eI193, z_up_n (by decide)]] at h283
          have hE284 : zm_E gt gv gp ge gh gm n0 gI I269 J271 (.inr (tq + 1, (0, fa, fg, fs) :: FS, fo, fg, NN)) := zm_E_next hSM hE196 (by omega) hp282 fI269 (by decide)
          have h285 := zm_E_W hE284
          have h286 := zm_E_D hE284
          refine lv_aload_n hx hb dX12_sums_142 rfl (lv_at hl 1 rfl) ?_
          refine z_get (T := TX12) (N := 96) (ci := 12) (i := 0) (v := .ref (ad 29)) hx hb hts zj_X12_sums_X12 hown hK hW rfl rfl 46 (by decide) (hts (.fieldLink RX12 100 "PetrolBoardModel" "sort" "[I") (me_s (me_l (me_l (List.mem_of_getElem? (i := 3) rfl))))) (fun _ h => h) rfl dX12_sums_143 ?_
          refine lv_iload_n hx hb dX12_sums_146 rfl (lv_at hl 2 rfl) ?_
          refine lv_iload_n hx hb dX12_sums_147 rfl (lv_at hl 0 rfl) ?_
          refine z_iast (i := 29) hx hb hK hW hS rfl (z_ix rfl (by omega) (by omega)) dX12_sums_148 (fun H locs hz1 hW hS => ?_)
          obtain ⟨I287, eI287⟩ : ∃ K : z_I, K = z_up I269 29 a1.toNatClampNeg 3 := ⟨_, rfl⟩
          rw [← eI287] at hW
          have f288 := z_fr_a f270 (show z_wa L_X12_sums_1_x 29 = true by decide) eI287
          have a289 := z_Nd_n (z_Nd_fr a195 fI269 (by decide)) (by decide) eI287
          have z290 := z_l3
          have hE291 : zm_E gt gv gp ge gh gm n0 gI I287 J271 (.inr (tq + 1, (0, fa, fg, 3) :: FS, fo, fg, NN)) := zm_E_top hE284 eI287 hdk (Or.inr (Or.inr ⟨rfl, by omega, rfl, rfl, rfl⟩))
          have h292 := zm_E_W hE291
          have h293 := zm_E_D hE291
          refine lv_aload_n hx hb dX12_sums_149 rfl (lv_at hl 1 rfl) ?_
          refine lv_iload_n hx hb dX12_sums_150 rfl (lv_at hl 3 rfl) ?_
          refine lv_if_eq (tgt := 158) hx hb dX12_sums_151 (by decide) (fun c294 => absurd c294 (by decide)) (fun c294 => ?_)
          refine lv_iconst (v := 1) hx hb dX12_sums_154 (by decide) ?_
          refine lv_goto (tgt := 159) hx hb dX12_sums_155 (by decide) ?_
          refine z_cv hW hS hA (va_runV (As := [.int 1]) (rest := []) ⟨hx, hb, hml, hown, hts⟩ (sx_X12_begin_x l G ad I287 J271 ⟨(by show 0 ≤ (I287 0 47).toInt ∧ (I287 0 47).toInt ≤ 119; rw [eI287, z_up_n (by decide)]; exact k272), (by show 0 ≤ (I287 0 39).toInt ∧ (I287 0 39).toInt ≤ 100; rw [eI287, z_up_n (by decide)]; exact k273)⟩ 1 (by have q0 : (I287 0 47) = (I269 0 47) := (by rw [eI287, z_up_n (by decide)]); show (I287 0 47).toInt ≤ 118; rw [q0]; omega) _) (cwV 1 hts gX12_sums_X12_begin rfl rfl rfl (by decide +kernel) ⟨Nat.le_of_ble_eq_true rfl, Nat.le_of_ble_eq_true rfl⟩) (z_preV (i := 0) hK hW rfl rfl) rfl rfl hl.1 rfl (lv_room (Nat.le_of_ble_eq_true rfl)) dX12_sums_159 ⟨Nat.le_of_ble_eq_true rfl, Nat.le_of_ble_eq_true rfl⟩) (fun u1 H locs hp hW hS => ?_)
          obtain ⟨I295, J297, e9, hI295md, fI295, hp⟩ := hp
          rw [e9] at hW
          have f296 := z_fr_sub (L := L_X12_sums_1_x) f288 fI295 (by decide)
          have k298 : 0 ≤ (I295 0 31).toInt ∧ (I295 0 31).toInt ≤ 500 := by rw [fI295 0 31 (by decide)]; exact (by show 0 ≤ (I287 0 31).toInt ∧ (I287 0 31).toInt ≤ 500; rw [eI287, z_up_n (by decide)]; exact hI269mp.1)
          have k299 : 0 ≤ (I295 0 33).toInt ∧ (I295 0 33).toInt ≤ 500 := by rw [fI295 0 33 (by decide)]; exact (by show 0 ≤ (I287 0 33).toInt ∧ (I287 0 33).toInt ≤ 500; rw [eI287, z_up_n (by decide)]; exact hI269mp.2.1)
          have k300 : 0 ≤ (I295 0 34).toInt ∧ (I295 0 34).toInt ≤ 500 := by rw [fI295 0 34 (by decide)]; exact (by show 0 ≤ (I287 0 34).toInt ∧ (I287 0 34).toInt ≤ 500; rw [eI287, z_up_n (by decide)]; exact hI269mp.2.2.1)
          have k301 : 0 ≤ (I295 0 35).toInt ∧ (I295 0 35).toInt ≤ 500 := by rw [fI295 0 35 (by decide)]; exact (by show 0 ≤ (I287 0 35).toInt ∧ (I287 0 35).toInt ≤ 500; rw [eI287, z_up_n (by decide)]; exact hI269mp.2.2.2)
          have k302 : 0 ≤ (I295 0 36).toInt ∧ (I295 0 36).toInt ≤ 4 := by rw [fI295 0 36 (by decide)]; exact (by show 0 ≤ (I287 0 36).toInt ∧ (I287 0 36).toInt ≤ 4; rw [eI287, z_up_n (by decide)]; exact hI269mt.1)
          have k303 : 0 ≤ (I295 0 42).toInt ∧ (I295 0 42).toInt ≤ 1 := by rw [fI295 0 42 (by decide)]; exact (by show 0 ≤ (I287 0 42).toInt ∧ (I287 0 42).toInt ≤ 1; rw [eI287, z_up_n (by decide)]; exact hI269mt.2)
          have k304 : 0 ≤ (I295 0 40).toInt ∧ (I295 0 40).toInt ≤ 6199 := by rw [fI295 0 40 (by decide)]; exact (by show 0 ≤ (I287 0 40).toInt ∧ (I287 0 40).toInt ≤ 6199; rw [eI287, z_up_n (by decide)]; exact k274)
          have k305 : 0 ≤ (I295 0 15).toInt ∧ (I295 0 15).toInt ≤ 6100 := by rw [fI295 0 15 (by decide)]; exact (by show 0 ≤ (I287 0 15).toInt ∧ (I287 0 15).toInt ≤ 6100; rw [eI287, z_up_n (by decide)]; exact k275)
          have k306 : 0 ≤ (I295 0 35).toInt ∧ (I295 0 35).toInt ≤ (I295 0 34).toInt ∧ (I295 0 34).toInt ≤ (I295 0 33).toInt ∧ (I295 0 33).toInt ≤ 500 ∧ ((I295 0 36).toInt = 0 ∨ (I295 0 35).toInt + 1 ≤ (I295 0 34).toInt) := (by have q0 : (I295 0 35) = (I269 0 35) := (by rw [fI295 0 35 (by decide), eI287, z_up_n (by decide)]); have q1 : (I295 0 34) = (I269 0 34) := (by rw [fI295 0 34 (by decide), eI287, z_up_n (by decide)]); have q2 : (I295 0 33) = (I269 0 33) := (by rw [fI295 0 33 (by decide), eI287, z_up_n (by decide)]); have q3 : (I295 0 36) = (I269 0 36) := (by rw [fI295 0 36 (by decide), eI287, z_up_n (by decide)]); show 0 ≤ (I295 0 35).toInt ∧ (I295 0 35).toInt ≤ (I295 0 34).toInt ∧ (I295 0 34).toInt ≤ (I295 0 33).toInt ∧ (I295 0 33).toInt ≤ 500 ∧ ((I295 0 36).toInt = 0 ∨ (I295 0 35).toInt + 1 ≤ (I295 0 34).toInt); rw [q0, q1, q2, q3]; first | omega | decide)
          have k307 : (I295 0 35).toInt = (I269 0 35).toInt := by rw [fI295 0 35 (by decide), eI287, z_up_n (by decide)]
          have k308 : (I295 0 34).toInt = (I269 0 34).toInt := by rw [fI295 0 34 (by decide), eI287, z_up_n (by decide)]
          have k309 : (I295 0 36).toInt = (I269 0 36).toInt := by rw [fI295 0 36 (by decide), eI287, z_up_n (by decide)]
          have k310 : (I295 0 42).toInt = (I269 0 42).toInt := by rw [fI295 0 42 (by decide), eI287, z_up_n (by decide)]
          have k311 : (I295 0 39).toInt = (I269 0 39).toInt := by rw [fI295 0 39 (by decide), eI287, z_up_n (by decide)]
          have k312 : (I295 0 15).toInt = (I269 0 15).toInt := by rw [fI295 0 15 (by decide), eI287, z_up_n (by decide)]
          have k313 : (I295 0 40).toInt = (I269 0 40).toInt := by rw [fI295 0 40 (by decide), eI287, z_up_n (by decide)]
          obtain ⟨hp, hJ314⟩ := hp
          have h315 := hp
          have hE316 : zm_E gt gv gp ge gh gm n0 gI I295 J297 (.inr (tq + 1, (1, 0, -1, 0) :: (0, fa, fg, 3) :: FS, fo, fg, NN)) := zm_E_begin hE291 h315 z_l1 fI295 (by decide) hJ314
          have h317 := zm_E_W hE316
          have h318 := zm_E_D hE316
          refine lv_goto (tgt := 175) hx hb dX12_sums_162 (by decide) ?_
          exact z_vret hx hb hr hK hS (Nat.le_of_ble_eq_true rfl) (Nat.le_of_ble_eq_true rfl) hlocks dX12_sums_175 (shM, ad, I295, J297, PM ad) hW ⟨I295, J297, rfl, ⟨(by show 0 ≤ (I295 0 31).toInt ∧ (I295 0 31).toInt ≤ 500; exact k298), (by show 0 ≤ (I295 0 33).toInt ∧ (I295 0 33).toInt ≤ 500; exact k299), (by show 0 ≤ (I295 0 34).toInt ∧ (I295 0 34).toInt ≤ 500; exact k300), (by show 0 ≤ (I295 0 35).toInt ∧ (I295 0 35).toInt ≤ 500; exact k301)⟩, ⟨(by show 0 ≤ (I295 0 36).toInt ∧ (I295 0 36).toInt ≤ 4; exact k302), (by show 0 ≤ (I295 0 42).toInt ∧ (I295 0 42).toInt ≤ 1; exact k303)⟩, ⟨(by show 0 ≤ (I295 0 47).toInt ∧ (I295 0 47).toInt ≤ 119; exact hI295md.1), (by show 0 ≤ (I295 0 39).toInt ∧ (I295 0 39).toInt ≤ 100; exact hI295md.2)⟩, (by show 0 ≤ (I295 0 40).toInt ∧ (I295 0 40).toInt ≤ 6199; exact k304), (by show 0 ≤ (I295 0 15).toInt ∧ (I295 0 15).toInt ≤ 6100; exact k305), (z_Nd_fr a289 fI295 (by decide)), (by show 0 ≤ (I295 0 35).toInt ∧ (I295 0 35).toInt ≤ (I295 0 34).toInt ∧ (I295 0 34).toInt ≤ (I295 0 33).toInt ∧ (I295 0 33).toInt ≤ 500 ∧ ((I295 0 36).toInt = 0 ∨ (I295 0 35).toInt + 1 ≤ (I295 0 34).toInt); first | omega | decide), f296, ⟨((Classical.em ((I295 0 42).toInt = 0)).elim (fun hw9 => Or.inr ⟨a1.toNatClampNeg + 2, by have w1 := z_fw_0nm (a := va.toInt) (o := vo.toInt) (by omega) (by omega); have w2 := z_fo_0n (a := va.toInt); have w3 := z_fw_0np (a := va.toInt) (o := (I 0 40).toInt) (by omega) (by omega); have w4 := z_fo_0n (a := va.toInt); have w5 := z_fw_10 (a := 0) (o := -1) (by omega); have w6 := z_rk_0; have w7 := z_rk_1; exact z_PUSH (d := a1.toNatClampNeg) (w := 0) (a := va.toInt) (o := (I 0 40).toInt) (s := 3) (wi := 1) hPS (fun i hi => ⟨by rw [eI287, z_up_n (by decide), fI269 26 i (z_wr_c (by decide)), eI193, z_up_n (by decide)], by rw [eI287, z_up_n (by decide), fI269 27 i (z_wr_c (by decide)), eI193, z_up_n (by decide)], by rw [eI287, z_up_n (by decide), fI269 28 i (z_wr_c (by decide)), eI193, z_up_k (by omega)], by rw [eI287, z_up_k (by omega), fI269 29 i (z_wr_c (by decide)), eI193, z_up_n (by decide)]⟩) (by rw [show I287 26 a1.toNatClampNeg = vw from (by rw [eI287, z_up_n (by decide), fI269 26 a1.toNatClampNeg (z_wr_c (by decide)), eI193, z_up_n (by decide)]; exact evw.symm)]; exact hvw) (by rw [show I287 27 a1.toNatClampNeg = va from (by rw [eI287, z_up_n (by decide), fI269 27 a1.toNatClampNeg (z_wr_c (by decide)), eI193, z_up_n (by decide)]; exact eva.symm)]) (by rw [show I287 28 a1.toNatClampNeg = (I 0 40) from (by rw [eI287, z_up_n (by decide), fI269 28 a1.toNatClampNeg (z_wr_c (by decide)), eI193, z_up_s])]) (by rw [show I287 29 a1.toNatClampNeg = 3 from (by rw [eI287, z_up_s])]; exact z_l3) (by unfold z_fv; omega) hwd (by rw [eI287, z_up_n (by decide)]; omega) h315 z_l1 (by omega) (by omega) (by omega) (by omega) (by omega) (by omega) (by omega) (by omega)⟩) Or.inl), (by have hz9 : zp_st gt gv (n0 : Int) (.inr (tq, (0, fa, fx, fs) :: FS, fo, fg, NN)) = .inr (tq + 1, (1, 0, -1, 0) :: (0, fa, fg, 3) :: FS, fo, fg, NN) := (by first | (simp [zp_st, zp_op, zp_cm, zp_cb, (show ¬ fa = 0 by omega), (show fx < 0 by omega), ht259, ht264]; done) | (exfalso; omega)); rw [hz9]; exact hE316)⟩⟩
        · have z319 := z_l45
          have ht320 : ¬ gt (tq) = 45 := fun q => h261 (by have q9 := (zm_E_sg (show zp_sg 45 by unfold zp_sg; omega) hE196).mpr q; exact ⟨q9.1, by omega⟩)
          refine lv_if_eq (tgt := 102) hx hb dX12_sums_95 (by decide) (fun c321 => ?_) (fun c321 => absurd (by decide) c321)
          refine lv_iconst (v := 0) hx hb dX12_sums_102 (by decide) ?_
          refine lv_goto (tgt := 133) hx hb dX12_sums_103 (by decide) ?_
          refine lv_istore_n (lv' := [(3, .int 0), (0, .ref (ad 0)), (1, .int a1), (2, .int 1)]) hx hb dX12_sums_133 rfl hl (by decide) rfl (fun ls hl => ?_)
          refine lv_iload_n hx hb dX12_sums_134 rfl (lv_at hl 0 rfl) ?_
          refine lv_if_le (tgt := 165) hx hb dX12_sums_135 (by decide) (fun c322 => ?_) (fun c322 => absurd (by decide) c322)
          refine lv_aload_n hx hb dX12_sums_165 rfl (lv_at hl 1 rfl) ?_
          refine lv_aload_n hx hb dX12_sums_166 rfl (lv_at hl 1 rfl) ?_
          refine z_get (T := TX12) (N := 96) (ci := 12) (i := 0) (v := .ref (ad 28)) hx hb hts zj_X12_sums_X12 hown hK hW rfl rfl 45 (by decide) (hts (.fieldLink RX12 97 "PetrolBoardModel" "one" "[I") (me_s (me_l (me_l (List.mem_of_getElem? (i := 1) rfl))))) (fun _ h => h) rfl dX12_sums_167 ?_
          refine lv_iload_n hx hb dX12_sums_170 rfl (lv_at hl 2 rfl) ?_
          refine z_iald (i := 28) hx hb hK hW rfl (z_ix rfl (by omega) (by omega)) dX12_sums_171 ?_
          refine z_topi (v := (I 0 40)) (by rw [eI193, z_up_s]) ?_
          refine z_cv hW hS hA (va_runV (As := [.int (I 0 40)]) (rest := []) ⟨hx, hb, hml, hown, hts⟩ (sx_X12_ends_x l G ad I193 J ⟨(by show 0 ≤ (I193 0 47).toInt ∧ (I193 0 47).toInt ≤ 119; rw [eI193, z_up_n (by decide)]; exact hmd.1), (by show 0 ≤ (I193 0 39).toInt ∧ (I193 0 39).toInt ≤ 100; rw [eI193, z_up_n (by decide)]; exact hmd.2)⟩ (by show 0 ≤ (I193 0 40).toInt ∧ (I193 0 40).toInt ≤ 6199; rw [eI193, z_up_n (by decide)]; exact hmg) (I 0 40) (by first | omega | decide) (by have q0 : (I193 0 47) = (I 0 47) := (by rw [eI193, z_up_n (by decide)]); show 1 ≤ (I193 0 47).toInt; rw [q0]; omega) _) (cwV 1 hts gX12_sums_X12_ends rfl rfl rfl (by decide +kernel) ⟨Nat.le_of_ble_eq_true rfl, Nat.le_of_ble_eq_true rfl⟩) (z_preV (i := 0) hK hW rfl rfl) rfl rfl hl.1 rfl (lv_room (Nat.le_of_ble_eq_true rfl)) dX12_sums_172 ⟨Nat.le_of_ble_eq_true rfl, Nat.le_of_ble_eq_true rfl⟩) (fun u1 H locs hp hW hS => ?_)
          obtain ⟨I323, J325, e9, hI323md, hI323mg, fI323, hp⟩ := hp
          rw [e9] at hW
          have f324 := z_fr_sub (L := L_X12_sums_1_x) f194 fI323 (by decide)
          have k326 : 0 ≤ (I323 0 31).toInt ∧ (I323 0 31).toInt ≤ 500 := by rw [fI323 0 31 (by decide)]; exact (by show 0 ≤ (I193 0 31).toInt ∧ (I193 0 31).toInt ≤ 500; rw [eI193, z_up_n (by decide)]; exact hmp.1)
          have k327 : 0 ≤ (I323 0 33).toInt ∧ (I323 0 33).toInt ≤ 500 := by rw [fI323 0 33 (by decide)]; exact (by show 0 ≤ (I193 0 33).toInt ∧ (I193 0 33).toInt ≤ 500; rw [eI193, z_up_n (by decide)]; exact hmp.2.1)
          have k328 : 0 ≤ (I323 0 34).toInt ∧ (I323 0 34).toInt ≤ 500 := by rw [fI323 0 34 (by decide)]; exact (by show 0 ≤ (I193 0 34).toInt ∧ (I193 0 34).toInt ≤ 500; rw [eI193, z_up_n (by decide)]; exact hmp.2.2.1)
          have k329 : 0 ≤ (I323 0 35).toInt ∧ (I323 0 35).toInt ≤ 500 := by rw [fI323 0 35 (by decide)]; exact (by show 0 ≤ (I193 0 35).toInt ∧ (I193 0 35).toInt ≤ 500; rw [eI193, z_up_n (by decide)]; exact hmp.2.2.2)
          have k330 : 0 ≤ (I323 0 36).toInt ∧ (I323 0 36).toInt ≤ 4 := by rw [fI323 0 36 (by decide)]; exact (by show 0 ≤ (I193 0 36).toInt ∧ (I193 0 36).toInt ≤ 4; rw [eI193, z_up_n (by decide)]; exact hmt.1)
          have k331 : 0 ≤ (I323 0 42).toInt ∧ (I323 0 42).toInt ≤ 1 := by rw [fI323 0 42 (by decide)]; exact (by show 0 ≤ (I193 0 42).toInt ∧ (I193 0 42).toInt ≤ 1; rw [eI193, z_up_n (by decide)]; exact hmt.2)
          have k332 : 0 ≤ (I323 0 15).toInt ∧ (I323 0 15).toInt ≤ 6100 := by rw [fI323 0 15 (by decide)]; exact (by show 0 ≤ (I193 0 15).toInt ∧ (I193 0 15).toInt ≤ 6100; rw [eI193, z_up_n (by decide)]; exact hmn)
          have k333 : 0 ≤ (I323 0 35).toInt ∧ (I323 0 35).toInt ≤ (I323 0 34).toInt ∧ (I323 0 34).toInt ≤ (I323 0 33).toInt ∧ (I323 0 33).toInt ≤ 500 ∧ ((I323 0 36).toInt = 0 ∨ (I323 0 35).toInt + 1 ≤ (I323 0 34).toInt) := (by have q0 : (I323 0 35) = (I 0 35) := (by rw [fI323 0 35 (by decide), eI193, z_up_n (by decide)]); have q1 : (I323 0 34) = (I 0 34) := (by rw [fI323 0 34 (by decide), eI193, z_up_n (by decide)]); have q2 : (I323 0 33) = (I 0 33) := (by rw [fI323 0 33 (by decide), eI193, z_up_n (by decide)]); have q3 : (I323 0 36) = (I 0 36) := (by rw [fI323 0 36 (by decide), eI193, z_up_n (by decide)]); show 0 ≤ (I323 0 35).toInt ∧ (I323 0 35).toInt ≤ (I323 0 34).toInt ∧ (I323 0 34).toInt ≤ (I323 0 33).toInt ∧ (I323 0 33).toInt ≤ 500 ∧ ((I323 0 36).toInt = 0 ∨ (I323 0 35).toInt + 1 ≤ (I323 0 34).toInt); rw [q0, q1, q2, q3]; first | omega | decide)
          have k334 : (I323 0 35).toInt = (I 0 35).toInt := by rw [fI323 0 35 (by decide), eI193, z_up_n (by decide)]
          have k335 : (I323 0 34).toInt = (I 0 34).toInt := by rw [fI323 0 34 (by decide), eI193, z_up_n (by decide)]
          have k336 : (I323 0 36).toInt = (I 0 36).toInt := by rw [fI323 0 36 (by decide), eI193, z_up_n (by decide)]
          have k337 : (I323 0 42).toInt = (I 0 42).toInt := by rw [fI323 0 42 (by decide), eI193, z_up_n (by decide)]
          have k338 : (I323 0 39).toInt = (I 0 39).toInt := by rw [fI323 0 39 (by decide), eI193, z_up_n (by decide)]
          have k339 : (I323 0 15).toInt = (I 0 15).toInt := by rw [fI323 0 15 (by decide), eI193, z_up_n (by decide)]
          obtain ⟨hp, h340, hJ341⟩ := hp
          have h342 := hp
          have h343 := hp
          rw [show (I193 0 47) = (I 0 47) from by rw [eI193, z_up_n (by decide)]] at h343
          have hE344 : zm_E gt gv gp ge gh gm n0 gI I323 J325 (.inr (tq, FS, fo, fg, NN)) := zm_E_ends hE196 h342 h340 (by omega) fI323 (by decide) hJ341
          have h345 := zm_E_W hE344
          have h346 := zm_E_D hE344
          exact z_vret hx hb hr hK hS (Nat.le_of_ble_eq_true rfl) (Nat.le_of_ble_eq_true rfl) hlocks dX12_sums_175 (shM, ad, I323, J325, PM ad) hW ⟨I323, J325, rfl, ⟨(by show 0 ≤ (I323 0 31).toInt ∧ (I323 0 31).toInt ≤ 500; exact k326), (by show 0 ≤ (I323 0 33).toInt ∧ (I323 0 33).toInt ≤ 500; exact k327), (by show 0 ≤ (I323 0 34).toInt ∧ (I323 0 34).toInt ≤ 500; exact k328), (by show 0 ≤ (I323 0 35).toInt ∧ (I323 0 35).toInt ≤ 500; exact k329)⟩, ⟨(by show 0 ≤ (I323 0 36).toInt ∧ (I323 0 36).toInt ≤ 4; exact k330), (by show 0 ≤ (I323 0 42).toInt ∧ (I323 0 42).toInt ≤ 1; exact k331)⟩, ⟨(by show 0 ≤ (I323 0 47).toInt ∧ (I323 0 47).toInt ≤ 119; exact hI323md.1), (by show 0 ≤ (I323 0 39).toInt ∧ (I323 0 39).toInt ≤ 100; exact hI323md.2)⟩, (by show 0 ≤ (I323 0 40).toInt ∧ (I323 0 40).toInt ≤ 6199; exact hI323mg), (by show 0 ≤ (I323 0 15).toInt ∧ (I323 0 15).toInt ≤ 6100; exact k332), (z_Nd_fr a195 fI323 (by decide)), (by show 0 ≤ (I323 0 35).toInt ∧ (I323 0 35).toInt ≤ (I323 0 34).toInt ∧ (I323 0 34).toInt ≤ (I323 0 33).toInt ∧ (I323 0 33).toInt ≤ 500 ∧ ((I323 0 36).toInt = 0 ∨ (I323 0 35).toInt + 1 ≤ (I323 0 34).toInt); first | omega | decide), f324, ⟨((Classical.em ((I323 0 42).toInt = 0)).elim (fun hw9 => Or.inr ⟨a1.toNatClampNeg, by have w1 := z_fw_0nm (a := va.toInt) (o := vo.toInt) (by omega) (by omega); have w2 := z_fo_0n (a := va.toInt); exact z_POP (d := a1.toNatClampNeg) hPS (fun i hi => ⟨by rw [fI323 26 i (z_wr_c (by decide)), eI193, z_up_n (by decide)], by rw [fI323 27 i (z_wr_c (by decide)), eI193, z_up_n (by decide)], by rw [fI323 28 i (z_wr_c (by decide)), eI193, z_up_k (by omega)], by rw [fI323 29 i (z_wr_c (by decide)), eI193, z_up_n (by decide)]⟩) (by omega) (by omega) (by omega) (by omega) (by omega) (by omega)⟩) Or.inl), (by have hz9 : zp_st gt gv (n0 : Int) (.inr (tq, (0, fa, fx, fs) :: FS, fo, fg, NN)) = .inr (tq, FS, fo, fg, NN) := (by first | (simp [zp_st, zp_op, zp_cm, zp_cb, (show ¬ fa = 0 by omega), (show fx < 0 by omega), ht259, ht320]; done) | (exfalso; omega)); rw [hz9]; exact hE344)⟩⟩
  · have g347 := z_f_eq rfl z_l0 c1
    refine lv_aload_n hx hb dX12_sums_9 rfl (lv_at hl 0 rfl) ?_
    refine z_get (T := TX12) (N := 96) (ci := 12) (i := 0) (v := .ref (ad 27)) hx hb hts zj_X12_sums_X12 hown hK hW rfl rfl 44 (by decide) (hts (.fieldLink RX12 94 "PetrolBoardModel" "at" "[I") (me_s (me_l (me_l (List.mem_of_getElem? (i := 0) rfl))))) (fun _ h => h) rfl dX12_sums_10 ?_
    refine lv_iload_n hx hb dX12_sums_13 rfl (lv_at hl 1 rfl) ?_
    refine lv_iconst (v := 1) hx hb dX12_sums_14 (by decide) ?_
    refine z_iast (i := 27) hx hb hK hW hS rfl (z_ix rfl (by omega) (by omega)) dX12_sums_15 (fun H locs hz1 hW hS => ?_)
    obtain ⟨I348, eI348⟩ : ∃ K : z_I, K = z_up I 27 a1.toNatClampNeg 1 := ⟨_, rfl⟩
    rw [← eI348] at hW
    have f349 := z_fr_a z_fr_0 (show z_wa L_X12_sums_1_x 27 = true by decide) eI348
    have a350 := z_Nd_n hNd (by decide) eI348
    have z351 := z_l1
    have hE352 : zm_E gt gv gp ge gh gm n0 gI I348 J (.inr (tq, (0, 1, fx, fs) :: FS, fo, fg, NN)) := zm_E_top hE eI348 hdk (Or.inl ⟨rfl, by omega, rfl, rfl, rfl⟩)
    have h353 := zm_E_W hE352
    have h354 := zm_E_D hE352
    refine lv_aload_n hx hb dX12_sums_16 rfl (lv_at hl 0 rfl) ?_
    refine lv_iload_n hx hb dX12_sums_17 rfl (lv_at hl 2 rfl) ?_
    refine lv_if_eq (tgt := 25) hx hb dX12_sums_18 (by decide) (fun c355 => absurd c355 (by decide)) (fun c355 => ?_)
    refine lv_iconst (v := 1) hx hb dX12_sums_21 (by decide) ?_
    refine lv_goto (tgt := 26) hx hb dX12_sums_22 (by decide) ?_
    refine z_cv hW hS hA (va_runV (As := [.int 1]) (rest := []) ⟨hx, hb, hml, hown, hts⟩ (sx_X12_begin_x l G ad I348 J ⟨(by show 0 ≤ (I348 0 47).toInt ∧ (I348 0 47).toInt ≤ 119; rw [eI348, z_up_n (by decide)]; exact hmd.1), (by show 0 ≤ (I348 0 39).toInt ∧ (I348 0 39).toInt ≤ 100; rw [eI348, z_up_n (by decide)]; exact hmd.2)⟩ 1 (by have q0 : (I348 0 47) = (I 0 47) := (by rw [eI348, z_up_n (by decide)]); show (I348 0 47).toInt ≤ 118; rw [q0]; omega) _) (cwV 1 hts gX12_sums_X12_begin rfl rfl rfl (by decide +kernel) ⟨Nat.le_of_ble_eq_true rfl, Nat.le_of_ble_eq_true rfl⟩) (z_preV (i := 0) hK hW rfl rfl) rfl rfl hl.1 rfl (lv_room (Nat.le_of_ble_eq_true rfl)) dX12_sums_26 ⟨Nat.le_of_ble_eq_true rfl, Nat.le_of_ble_eq_true rfl⟩) (fun u1 H locs hp hW hS => ?_)
    obtain ⟨I356, J358, e9, hI356md, fI356, hp⟩ := hp
    rw [e9] at hW
    have f357 := z_fr_sub (L := L_X12_sums_1_x) f349 fI356 (by decide)
    have k359 : 0 ≤ (I356 0 31).toInt ∧ (I356 0 31).toInt ≤ 500 := by rw [fI356 0 31 (by decide)]; exact (by show 0 ≤ (I348 0 31).toInt ∧ (I348 0 31).toInt ≤ 500; rw [eI348, z_up_n (by decide)]; exact hmp.1)
    have k360 : 0 ≤ (I356 0 33).toInt ∧ (I356 0 33).toInt ≤ 500 := by rw [fI356 0 33 (by decide)]; exact (by show 0 ≤ (I348 0 33).toInt ∧ (I348 0 33).toInt ≤ 500; rw [eI348, z_up_n (by decide)]; exact hmp.2.1)
    have k361 : 0 ≤ (I356 0 34).toInt ∧ (I356 0 34).toInt ≤ 500 := by rw [fI356 0 34 (by decide)]; exact (by show 0 ≤ (I348 0 34).toInt ∧ (I348 0 34).toInt ≤ 500; rw [eI348, z_up_n (by decide)]; exact hmp.2.2.1)
    have k362 : 0 ≤ (I356 0 35).toInt ∧ (I356 0 35).toInt ≤ 500 := by rw [fI356 0 35 (by decide)]; exact (by show 0 ≤ (I348 0 35).toInt ∧ (I348 0 35).toInt ≤ 500; rw [eI348, z_up_n (by decide)]; exact hmp.2.2.2)
    have k363 : 0 ≤ (I356 0 36).toInt ∧ (I356 0 36).toInt ≤ 4 := by rw [fI356 0 36 (by decide)]; exact (by show 0 ≤ (I348 0 36).toInt ∧ (I348 0 36).toInt ≤ 4; rw [eI348, z_up_n (by decide)]; exact hmt.1)
    have k364 : 0 ≤ (I356 0 42).toInt ∧ (I356 0 42).toInt ≤ 1 := by rw [fI356 0 42 (by decide)]; exact (by show 0 ≤ (I348 0 42).toInt ∧ (I348 0 42).toInt ≤ 1; rw [eI348, z_up_n (by decide)]; exact hmt.2)
    have k365 : 0 ≤ (I356 0 40).toInt ∧ (I356 0 40).toInt ≤ 6199 := by rw [fI356 0 40 (by decide)]; exact (by show 0 ≤ (I348 0 40).toInt ∧ (I348 0 40).toInt ≤ 6199; rw [eI348, z_up_n (by decide)]; exact hmg)
    have k366 : 0 ≤ (I356 0 15).toInt ∧ (I356 0 15).toInt ≤ 6100 := by rw [fI356 0 15 (by decide)]; exact (by show 0 ≤ (I348 0 15).toInt ∧ (I348 0 15).toInt ≤ 6100; rw [eI348, z_up_n (by decide)]; exact hmn)
    have k367 : 0 ≤ (I356 0 35).toInt ∧ (I356 0 35).toInt ≤ (I356 0 34).toInt ∧ (I356 0 34).toInt ≤ (I356 0 33).toInt ∧ (I356 0 33).toInt ≤ 500 ∧ ((I356 0 36).toInt = 0 ∨ (I356 0 35).toInt + 1 ≤ (I356 0 34).toInt) := (by have q0 : (I356 0 35) = (I 0 35) := (by rw [fI356 0 35 (by decide), eI348, z_up_n (by decide)]); have q1 : (I356 0 34) = (I 0 34) := (by rw [fI356 0 34 (by decide), eI348, z_up_n (by decide)]); have q2 : (I356 0 33) = (I 0 33) := (by rw [fI356 0 33 (by decide), eI348, z_up_n (by decide)]); have q3 : (I356 0 36) = (I 0 36) := (by rw [fI356 0 36 (by decide), eI348, z_up_n (by decide)]); show 0 ≤ (I356 0 35).toInt ∧ (I356 0 35).toInt ≤ (I356 0 34).toInt ∧ (I356 0 34).toInt ≤ (I356 0 33).toInt ∧ (I356 0 33).toInt ≤ 500 ∧ ((I356 0 36).toInt = 0 ∨ (I356 0 35).toInt + 1 ≤ (I356 0 34).toInt); rw [q0, q1, q2, q3]; first | omega | decide)
    have k368 : (I356 0 35).toInt = (I 0 35).toInt := by rw [fI356 0 35 (by decide), eI348, z_up_n (by decide)]
    have k369 : (I356 0 34).toInt = (I 0 34).toInt := by rw [fI356 0 34 (by decide), eI348, z_up_n (by decide)]
    have k370 : (I356 0 36).toInt = (I 0 36).toInt := by rw [fI356 0 36 (by decide), eI348, z_up_n (by decide)]
    have k371 : (I356 0 42).toInt = (I 0 42).toInt := by rw [fI356 0 42 (by decide), eI348, z_up_n (by decide)]
    have k372 : (I356 0 39).toInt = (I 0 39).toInt := by rw [fI356 0 39 (by decide), eI348, z_up_n (by decide)]
    have k373 : (I356 0 15).toInt = (I 0 15).toInt := by rw [fI356 0 15 (by decide), eI348, z_up_n (by decide)]
    have k374 : (I356 0 40).toInt = (I 0 40).toInt := by rw [fI356 0 40 (by decide), eI348, z_up_n (by decide)]
    obtain ⟨hp, hJ375⟩ := hp
    have h376 := hp
    have hE377 : zm_E gt gv gp ge gh gm n0 gI I356 J358 (.inr (tq, (1, 0, -1, 0) :: (0, 1, fx, fs) :: FS, fo, fg, NN)) := zm_E_begin hE352 h376 z_l1 fI356 (by decide) hJ375
    have h378 := zm_E_W hE377
    have h379 := zm_E_D hE377
    exact z_vret hx hb hr hK hS (Nat.le_of_ble_eq_true rfl) (Nat.le_of_ble_eq_true rfl) hlocks dX12_sums_29 (shM, ad, I356, J358, PM ad) hW ⟨I356, J358, rfl, ⟨(by show 0 ≤ (I356 0 31).toInt ∧ (I356 0 31).toInt ≤ 500; exact k359), (by show 0 ≤ (I356 0 33).toInt ∧ (I356 0 33).toInt ≤ 500; exact k360), (by show 0 ≤ (I356 0 34).toInt ∧ (I356 0 34).toInt ≤ 500; exact k361), (by show 0 ≤ (I356 0 35).toInt ∧ (I356 0 35).toInt ≤ 500; exact k362)⟩, ⟨(by show 0 ≤ (I356 0 36).toInt ∧ (I356 0 36).toInt ≤ 4; exact k363), (by show 0 ≤ (I356 0 42).toInt ∧ (I356 0 42).toInt ≤ 1; exact k364)⟩, ⟨(by show 0 ≤ (I356 0 47).toInt ∧ (I356 0 47).toInt ≤ 119; exact hI356md.1), (by show 0 ≤ (I356 0 39).toInt ∧ (I356 0 39).toInt ≤ 100; exact hI356md.2)⟩, (by show 0 ≤ (I356 0 40).toInt ∧ (I356 0 40).toInt ≤ 6199; exact k365), (by show 0 ≤ (I356 0 15).toInt ∧ (I356 0 15).toInt ≤ 6100; exact k366), (z_Nd_fr a350 fI356 (by decide)), (by show 0 ≤ (I356 0 35).toInt ∧ (I356 0 35).toInt ≤ (I356 0 34).toInt ∧ (I356 0 34).toInt ≤ (I356 0 33).toInt ∧ (I356 0 33).toInt ≤ 500 ∧ ((I356 0 36).toInt = 0 ∨ (I356 0 35).toInt + 1 ≤ (I356 0 34).toInt); first | omega | decide), f357, ⟨((Classical.em ((I356 0 42).toInt = 0)).elim (fun hw9 => Or.inr ⟨a1.toNatClampNeg + 2, by have w1 := z_fw_00 (a := va.toInt) (o := vo.toInt) (by omega); have w2 := z_fo_0n (a := va.toInt); have w3 := z_fw_0nm (a := 1) (o := vo.toInt) (by omega) (by omega); have w4 := z_fo_0n (a := 1); have w5 := z_fw_10 (a := 0) (o := -1) (by omega); have w6 := z_rk_0; have w7 := z_rk_1; exact z_PUSH (d := a1.toNatClampNeg) (w := 0) (a := 1) (o := vo.toInt) (s := vs.toInt) (wi := 1) hPS (fun i hi => ⟨by rw [eI348, z_up_n (by decide)], by rw [eI348, z_up_k (by omega)], by rw [eI348, z_up_n (by decide)], by rw [eI348, z_up_n (by decide)]⟩) (by rw [show I348 26 a1.toNatClampNeg = vw from (by rw [eI348, z_up_n (by decide)]; exact evw.symm)]; exact hvw) (by rw [show I348 27 a1.toNatClampNeg = 1 from (by rw [eI348, z_up_s])]; exact z_l1) (by rw [show I348 28 a1.toNatClampNeg = vo from (by rw [eI348, z_up_n (by decide)]; exact evo.symm)]) (by rw [show I348 29 a1.toNatClampNeg = vs from (by rw [eI348, z_up_n (by decide)]; exact evs.symm)]) (by unfold z_fv; omega) hwd (by rw [eI348, z_up_n (by decide)]; omega) h376 z_l1 (by omega) (by omega) (by omega) (by omega) (by omega) (by omega) (by omega) (by omega)⟩) Or.inl), (by have hz9 : zp_st gt gv (n0 : Int) (.inr (tq, (0, fa, fx, fs) :: FS, fo, fg, NN)) = .inr (tq, (1, 0, -1, 0) :: (0, 1, fx, fs) :: FS, fo, fg, NN) := (by first | (simp [zp_st, zp_op, zp_cm, zp_cb, (show fa = 0 by omega)]; done) | (exfalso; omega)); rw [hz9]; exact hE377)⟩⟩
noncomputable def L_X12_sums_0_x : z_L := [(0, 35), (0, 36), (0, 37), (0, 38), (0, 34), (0, 42), (0, 32), (0, 39), (21, 999), (22, 999), (23, 999), (0, 15), (26, 999), (27, 999), (28, 999), (29, 999), (0, 47), (0, 40)]
set_option maxHeartbeats 8000000 in
set_option maxRecDepth 100000 in
theorem sx_X12_sums_0_x (l : Launch) (G : z_G) (ad : Nat → Nat) (I : z_I) (J : z_J) (hmp : z_imp I) (hmt : z_imt I) (hmd : z_imd I) (hmg : z_img I) (hmn : z_imn I) (hNd : z_Nd I) (hrp : z_irp I) (B : Int) (gt gv : Nat → Int) (gp ge : Nat → Nat) (gh : Nat → Int) (gm n0 : Nat) (gI : z_I) (tq : Nat) (FS : List zp_F) (fa fx fs fo fg : Int) (NN : List zp_N) (a1 : Int32) (q1 : 0 ≤ a1.toInt ∧ a1.toInt ≤ 33) (hwd : (I 26 a1.toNatClampNeg).toInt = 1) (hPS : z_PS I (a1.toNatClampNeg + 1) B) (hE : zm_E gt gv gp ge gh gm n0 gI I J (.inr (tq, (1, fa, fx, fs) :: FS, fo, fg, NN))) (hdk : a1.toNatClampNeg = FS.length) (hSM : zp_SM gh gt gv gp ge gm) : z_Mv l yX12_sums wsX12_sums { frames := 3, cells := 0, slots := 0, locals := 55 } [.ref (ad 0), .int a1, .int 0] G (shM, ad, I, J, PM ad) (fun u1 => ∃ (I1 : z_I) (J1 : z_J), u1 = (shM, ad, I1, J1, PM ad) ∧ z_imp I1 ∧ z_imt I1 ∧ z_imd I1 ∧ z_img I1 ∧ z_imn I1 ∧ z_Nd I1 ∧ z_irp I1 ∧ z_fr L_X12_sums_0_x I1 I ∧ ((¬ (I1 0 42).toInt = 0 ∨ ∃ n, z_PS I1 n (B - 1)) ∧ zm_E gt gv gp ge gh gm n0 gI I1 J1 (zp_st gt gv (n0 : Int) (.inr (tq, (1, fa, fx, fs) :: FS, fo, fg, NN))))) 0 0 := by
  intro sz
  refine z_headQ (cc := cX12_sums) (maxL := 4) (ret := none) (by decide) rfl (Nat.le_of_ble_eq_true rfl) ?_
  intro p e s m below meth c0 ls hIn hK hsz hW hl
  obtain ⟨hx, hb, hr, hml, hown, hts, hlocks, hname⟩ := hIn
  subst hsz
  have hown : s.vm.findClass RX12 = some m.cls := hown
  have hA : ∀ q : Nat, s.heap.size ≤ q → z_A (shM, ad, I, J, PM ad) s.heap.size q := fun q h => Or.inr h
  generalize hAe : z_A (shM, ad, I, J, PM ad) s.heap.size = A at *
  have hS : va_S A s.heap s.heap [] := va_S.rf
  have hl : lv_has ls 4 [(0, .ref (ad 0)), (1, .int a1), (2, .int 0)] := hl
  obtain ⟨va, eva⟩ : ∃ y, y = I 27 a1.toNatClampNeg := ⟨_, rfl⟩
  obtain ⟨vo, evo⟩ : ∃ y, y = I 28 a1.toNatClampNeg := ⟨_, rfl⟩
  obtain ⟨vs, evs⟩ : ∃ y, y = I 29 a1.toNatClampNeg := ⟨_, rfl⟩
  have hT := z_top hPS
  unfold z_fv at hT
  rw [hwd, ← eva, ← evo, ← evs] at hT
  obtain ⟨t1, t2, t3, t4, t5, t6, t7, t8, t9, t10, t11, t12, t13, t14, t15, t16, t17, t18, t19, t20, t21⟩ := hT
  have hk9 := z_clt (x := a1) rfl q1.1
  have hcw := z_fwc_1 va.toInt vo.toInt
  have hcf := z_foc_1 va.toInt
  obtain ⟨vw, evw⟩ : ∃ y, y = I 26 a1.toNatClampNeg := ⟨_, rfl⟩
  have hvw : vw.toInt = 1 := by rw [evw]; exact hwd
  have hE1 := zm_E_W hE
  have hE2 := zm_E_D hE
  have hE4 := zm_E_nu hE
  have hE5 := zm_E_w1 hE
  have hE3 := zm_E_F hE
  rw [← hdk, ← eva, ← evo, ← evs] at hE3
  have krp : 0 ≤ (I 0 35).toInt ∧ (I 0 35).toInt ≤ (I 0 34).toInt ∧ (I 0 34).toInt ≤ (I 0 33).toInt ∧ (I 0 33).toInt ≤ 500 ∧ ((I 0 36).toInt = 0 ∨ (I 0 35).toInt + 1 ≤ (I 0 34).toInt) := hrp
  refine lv_aload_n hx hb dX12_sums_0 rfl (lv_at hl 0 rfl) ?_
  refine z_get (T := TX12) (N := 96) (ci := 12) (i := 0) (v := .ref (ad 27)) hx hb hts zj_X12_sums_X12 hown hK hW rfl rfl 44 (by decide) (hts (.fieldLink RX12 94 "PetrolBoardModel" "at" "[I") (me_s (me_l (me_l (List.mem_of_getElem? (i := 0) rfl))))) (fun _ h => h) rfl dX12_sums_1 ?_
  refine lv_iload_n hx hb dX12_sums_4 rfl (lv_at hl 1 rfl) ?_
  refine z_iald (i := 27) hx hb hK hW rfl (z_ix rfl (by omega) (by omega)) dX12_sums_5 ?_
  refine z_topi (v := va) eva.symm ?_
  refine lv_if_ne (tgt := 30) hx hb dX12_sums_6 (by decide) (fun c1 => ?_) (fun c1 => ?_)
  · have g2 := z_f_ne rfl z_l0 c1
    refine lv_aload_n hx hb dX12_sums_30 rfl (lv_at hl 0 rfl) ?_
    refine z_get (T := TX12) (N := 96) (ci := 12) (i := 0) (v := .ref (ad 28)) hx hb hts zj_X12_sums_X12 hown hK hW rfl rfl 45 (by decide) (hts (.fieldLink RX12 97 "PetrolBoardModel" "one" "[I") (me_s (me_l (me_l (List.mem_of_getElem? (i := 1) rfl))))) (fun _ h => h) rfl dX12_sums_31 ?_
    refine lv_iload_n hx hb dX12_sums_34 rfl (lv_at hl 1 rfl) ?_
    refine lv_aload_n hx hb dX12_sums_35 rfl (lv_at hl 0 rfl) ?_
    refine z_get (T := TX12) (N := 96) (ci := 12) (i := 0) (v := .ref (ad 28)) hx hb hts zj_X12_sums_X12 hown hK hW rfl rfl 45 (by decide) (hts (.fieldLink RX12 97 "PetrolBoardModel" "one" "[I") (me_s (me_l (me_l (List.mem_of_getElem? (i := 1) rfl))))) (fun _ h => h) rfl dX12_sums_36 ?_
    refine lv_iload_n hx hb dX12_sums_39 rfl (lv_at hl 1 rfl) ?_
    refine z_iald (i := 28) hx hb hK hW rfl (z_ix rfl (by omega) (by omega)) dX12_sums_40 ?_
    refine z_topi (v := vo) evo.symm ?_
    refine lv_if_ge (tgt := 51) hx hb dX12_sums_41 (by decide) (fun c3 => ?_) (fun c3 => ?_)
    · have g4 := z_f_ge rfl z_l0 c3
      refine lv_aload_n hx hb dX12_sums_51 rfl (lv_at hl 0 rfl) ?_
      refine lv_aload_n hx hb dX12_sums_52 rfl (lv_at hl 0 rfl) ?_
      refine z_get (T := TX12) (N := 96) (ci := 12) (i := 0) (v := .ref (ad 29)) hx hb hts zj_X12_sums_X12 hown hK hW rfl rfl 46 (by decide) (hts (.fieldLink RX12 100 "PetrolBoardModel" "sort" "[I") (me_s (me_l (me_l (List.mem_of_getElem? (i := 3) rfl))))) (fun _ h => h) rfl dX12_sums_53 ?_
      refine lv_iload_n hx hb dX12_sums_56 rfl (lv_at hl 1 rfl) ?_
      refine z_iald (i := 29) hx hb hK hW rfl (z_ix rfl (by omega) (by omega)) dX12_sums_57 ?_
      refine z_topi (v := vs) evs.symm ?_
      refine lv_aload_n hx hb dX12_sums_58 rfl (lv_at hl 0 rfl) ?_
      refine z_get (T := TX12) (N := 96) (ci := 12) (i := 0) (v := .ref (ad 28)) hx hb hts zj_X12_sums_X12 hown hK hW rfl rfl 45 (by decide) (hts (.fieldLink RX12 97 "PetrolBoardModel" "one" "[I") (me_s (me_l (me_l (List.mem_of_getElem? (i := 1) rfl))))) (fun _ h => h) rfl dX12_sums_59 ?_
      refine lv_iload_n hx hb dX12_sums_62 rfl (lv_at hl 1 rfl) ?_
      refine z_iald (i := 28) hx hb hK hW rfl (z_ix rfl (by omega) (by omega)) dX12_sums_63 ?_
      refine z_topi (v := vo) evo.symm ?_
      refine lv_aload_n hx hb dX12_sums_64 rfl (lv_at hl 0 rfl) ?_
      have r5 : 0 ≤ (I 0 40).toInt ∧ (I 0 40).toInt ≤ 6199 := hmg
      refine z_get (T := TX12) (N := 96) (ci := 12) (i := 0) (v := .int (I 0 40)) hx hb hts zj_X12_sums_X12 hown hK hW rfl rfl 40 (by decide) (hts (.fieldLink RX12 343 "PetrolBoardModel" "got" "I") (me_s (me_l (me_l (List.mem_of_getElem? (i := 2) rfl))))) (fun _ h => h) rfl dX12_sums_65 ?_
      refine z_ci hW hS hA (va_runV (As := [.int vs, .int vo, .int (I 0 40)]) (rest := [.int a1, .ref (ad 28)]) ⟨hx, hb, hml, hown, hts⟩ (sx_X12_node_x l G ad I J (by show 0 ≤ (I 0 15).toInt ∧ (I 0 15).toInt ≤ 6100; exact hmn) hNd vs vo (I 0 40) (by show (I 0 15).toInt ≤ 6099; omega) (by first | omega | decide) (by first | omega | decide) (by first | omega | decide) _) (cwV 3 hts gX12_sums_X12_node rfl rfl rfl (by decide +kernel) ⟨Nat.le_of_ble_eq_true rfl, Nat.le_of_ble_eq_true rfl⟩) (z_preV (i := 0) hK hW rfl rfl) rfl rfl hl.1 rfl (lv_room (Nat.le_of_ble_eq_true rfl)) dX12_sums_68 ⟨Nat.le_of_ble_eq_true rfl, Nat.le_of_ble_eq_true rfl⟩) (fun r u1 H locs hp hW hS => ?_)
      obtain ⟨I6, J8, e9, hI6mn, hI6Nd, fI6, hp⟩ := hp
      rw [e9] at hW
      have f7 := z_fr_sub (L := L_X12_sums_0_x) z_fr_0 fI6 (by decide)
      have k9 : 0 ≤ (I6 0 31).toInt ∧ (I6 0 31).toInt ≤ 500 := by rw [fI6 0 31 (by decide)]; exact (by show 0 ≤ (I 0 31).toInt ∧ (I 0 31).toInt ≤ 500; exact hmp.1)
      have k10 : 0 ≤ (I6 0 33).toInt ∧ (I6 0 33).toInt ≤ 500 := by rw [fI6 0 33 (by decide)]; exact (by show 0 ≤ (I 0 33).toInt ∧ (I 0 33).toInt ≤ 500; exact hmp.2.1)
      have k11 : 0 ≤ (I6 0 34).toInt ∧ (I6 0 34).toInt ≤ 500 := by rw [fI6 0 34 (by decide)]; exact (by show 0 ≤ (I 0 34).toInt ∧ (I 0 34).toInt ≤ 500; exact hmp.2.2.1)
      have k12 : 0 ≤ (I6 0 35).toInt ∧ (I6 0 35).toInt ≤ 500 := by rw [fI6 0 35 (by decide)]; exact (by show 0 ≤ (I 0 35).toInt ∧ (I 0 35).toInt ≤ 500; exact hmp.2.2.2)
      have k13 : 0 ≤ (I6 0 36).toInt ∧ (I6 0 36).toInt ≤ 4 := by rw [fI6 0 36 (by decide)]; exact (by show 0 ≤ (I 0 36).toInt ∧ (I 0 36).toInt ≤ 4; exact hmt.1)
      have k14 : 0 ≤ (I6 0 42).toInt ∧ (I6 0 42).toInt ≤ 1 := by rw [fI6 0 42 (by decide)]; exact (by show 0 ≤ (I 0 42).toInt ∧ (I 0 42).toInt ≤ 1; exact hmt.2)
      have k15 : 0 ≤ (I6 0 47).toInt ∧ (I6 0 47).toInt ≤ 119 := by rw [fI6 0 47 (by decide)]; exact (by show 0 ≤ (I 0 47).toInt ∧ (I 0 47).toInt ≤ 119; exact hmd.1)
      have k16 : 0 ≤ (I6 0 39).toInt ∧ (I6 0 39).toInt ≤ 100 := by rw [fI6 0 39 (by decide)]; exact (by show 0 ≤ (I 0 39).toInt ∧ (I 0 39).toInt ≤ 100; exact hmd.2)
      have k17 : 0 ≤ (I6 0 40).toInt ∧ (I6 0 40).toInt ≤ 6199 := by rw [fI6 0 40 (by decide)]; exact (by show 0 ≤ (I 0 40).toInt ∧ (I 0 40).toInt ≤ 6199; exact hmg)
      have k18 : 0 ≤ (I6 0 35).toInt ∧ (I6 0 35).toInt ≤ (I6 0 34).toInt ∧ (I6 0 34).toInt ≤ (I6 0 33).toInt ∧ (I6 0 33).toInt ≤ 500 ∧ ((I6 0 36).toInt = 0 ∨ (I6 0 35).toInt + 1 ≤ (I6 0 34).toInt) := (by have q0 : (I6 0 35) = (I 0 35) := (by rw [fI6 0 35 (by decide)]); have q1 : (I6 0 34) = (I 0 34) := (by rw [fI6 0 34 (by decide)]); have q2 : (I6 0 33) = (I 0 33) := (by rw [fI6 0 33 (by decide)]); have q3 : (I6 0 36) = (I 0 36) := (by rw [fI6 0 36 (by decide)]); show 0 ≤ (I6 0 35).toInt ∧ (I6 0 35).toInt ≤ (I6 0 34).toInt ∧ (I6 0 34).toInt ≤ (I6 0 33).toInt ∧ (I6 0 33).toInt ≤ 500 ∧ ((I6 0 36).toInt = 0 ∨ (I6 0 35).toInt + 1 ≤ (I6 0 34).toInt); rw [q0, q1, q2, q3]; first | omega | decide)
      have k19 : (I6 0 35).toInt = (I 0 35).toInt := by rw [fI6 0 35 (by decide)]
      have k20 : (I6 0 34).toInt = (I 0 34).toInt := by rw [fI6 0 34 (by decide)]
      have k21 : (I6 0 36).toInt = (I 0 36).toInt := by rw [fI6 0 36 (by decide)]
      have k22 : (I6 0 42).toInt = (I 0 42).toInt := by rw [fI6 0 42 (by decide)]
      have k23 : (I6 0 47).toInt = (I 0 47).toInt := by rw [fI6 0 47 (by decide)]
      have k24 : (I6 0 39).toInt = (I 0 39).toInt := by rw [fI6 0 39 (by decide)]
      have k25 : (I6 0 40).toInt = (I 0 40).toInt := by rw [fI6 0 40 (by decide)]
      refine lv_topi (fun x30 ex30 => ?_)
      rw [← ex30] at hp
      obtain ⟨h26, h27, h28, hJ29⟩ := hp
      have h31 : 0 ≤ x30.toInt ∧ x30.toInt ≤ 6100 := (by have q9 : 0 ≤ (I 0 15).toInt ∧ (I 0 15).toInt ≤ 6100 := (by show 0 ≤ (I 0 15).toInt ∧ (I 0 15).toInt ≤ 6100; exact hmn); omega)
      have h32 := h26
      have h33 := h27
      have hE34 : zm_E gt gv gp ge gh gm n0 gI I6 J8 (.inr (tq, (1, fa, fx, fs) :: FS, fo, fg, NN ++ [(fs, fx, fg)])) := zm_E_node hE h28 (by omega) (by omega) (by omega) fI6 (by decide) hJ29
      have h35 := zm_E_W hE34
      have h36 := zm_E_D hE34
      refine z_iast (i := 28) hx hb hK hW hS rfl (z_ix rfl (by omega) (by omega)) dX12_sums_71 (fun H locs hz1 hW hS => ?_)
      obtain ⟨I37, eI37⟩ : ∃ K : z_I, K = z_up I6 28 a1.toNatClampNeg x30 := ⟨_, rfl⟩
      rw [← eI37] at hW
      have f38 := z_fr_a f7 (show z_wa L_X12_sums_0_x 28 = true by decide) eI37
      have a39 := z_Nd_n hI6Nd (by decide) eI37
      have hE40 : zm_E gt gv gp ge gh gm n0 gI I37 J8 (.inr (tq, (1, fa, ((n0 : Int) + ((NN).length : Int)), fs) :: FS, fo, fg, NN ++ [(fs, fx, fg)])) := zm_E_top hE34 eI37 hdk (Or.inr (Or.inl ⟨rfl, by omega, rfl, rfl, rfl⟩))
      have h41 := zm_E_W hE40
      have h42 := zm_E_D hE40
      refine lv_iload_n hx hb dX12_sums_72 rfl (lv_at hl 2 rfl) ?_
      refine lv_if_eq (tgt := 106) hx hb dX12_sums_73 (by decide) (fun c43 => ?_) (fun c43 => absurd (by decide) c43)
      refine lv_aload_n hx hb dX12_sums_106 rfl (lv_at hl 0 rfl) ?_
      refine lv_bipush (v := 42) hx hb dX12_sums_107 (by decide) ?_
      refine z_ci hW hS hA (va_runV (As := [.int 42]) (rest := []) ⟨hx, hb, hml, hown, hts⟩ (sx_X12_isSign_x l G ad I37 J8 ⟨(by show 0 ≤ (I37 0 36).toInt ∧ (I37 0 36).toInt ≤ 4; rw [eI37, z_up_n (by decide)]; exact k13), (by show 0 ≤ (I37 0 42).toInt ∧ (I37 0 42).toInt ≤ 1; rw [eI37, z_up_n (by decide)]; exact k14)⟩ 42 _) (cwV 1 hts gX12_sums_X12_isSign rfl rfl rfl (by decide +kernel) ⟨Nat.le_of_ble_eq_true rfl, Nat.le_of_ble_eq_true rfl⟩) (z_preV (i := 0) hK hW rfl rfl) rfl rfl hl.1 rfl (lv_room (Nat.le_of_ble_eq_true rfl)) dX12_sums_109 ⟨Nat.le_of_ble_eq_true rfl, Nat.le_of_ble_eq_true rfl⟩) (fun r u1 H locs hp hW hS => ?_)
      obtain ⟨e9, hp⟩ := hp
      rw [e9] at hW
      rcases hp with ⟨rfl, h44, h45⟩ | ⟨rfl, h44⟩
      · have z46 := z_l42
        have ht47 : gt (tq) = 42 := (zm_E_sg (show zp_sg 42 by unfold zp_sg; omega) hE40).mp ⟨h44, by omega⟩
        have h48 := h44
        rw [show (I37 0 36) = (I6 0 36) from by rw [eI37, z_up_n (by decide)]] at h48
        have h49 : (I6 0 35).toInt + 1 ≤ (I6 0 34).toInt := by omega
        refine lv_if_eq (tgt := 119) hx hb dX12_sums_112 (by decide) (fun c50 => absurd c50 (by decide)) (fun c50 => ?_)
        refine lv_iconst (v := 4) hx hb dX12_sums_115 (by decide) ?_
        refine lv_goto (tgt := 133) hx hb dX12_sums_116 (by decide) ?_
        refine lv_istore_n (lv' := [(3, .int 4), (0, .ref (ad 0)), (1, .int a1), (2, .int 0)]) hx hb dX12_sums_133 rfl hl (by decide) rfl (fun ls hl => ?_)
        refine lv_iload_n hx hb dX12_sums_134 rfl (lv_at hl 0 rfl) ?_
        refine lv_if_le (tgt := 165) hx hb dX12_sums_135 (by decide) (fun c51 => absurd c51 (by decide)) (fun c51 => ?_)
        refine lv_aload_n hx hb dX12_sums_138 rfl (lv_at hl 1 rfl) ?_
        refine z_cv hW hS hA (va_runV (As := []) (rest := []) ⟨hx, hb, hml, hown, hts⟩ (sx_X12_next_x l G ad I37 J8 ⟨(by show 0 ≤ (I37 0 31).toInt ∧ (I37 0 31).toInt ≤ 500; rw [eI37, z_up_n (by decide)]; exact k9), (by show 0 ≤ (I37 0 33).toInt ∧ (I37 0 33).toInt ≤ 500; rw [eI37, z_up_n (by decide)]; exact k10), (by show 0 ≤ (I37 0 34).toInt ∧ (I37 0 34).toInt ≤ 500; rw [eI37, z_up_n (by decide)]; exact k11), (by show 0 ≤ (I37 0 35).toInt ∧ (I37 0 35).toInt ≤ 500; rw [eI37, z_up_n (by decide)]; exact k12)⟩ ⟨(by show 0 ≤ (I37 0 36).toInt ∧ (I37 0 36).toInt ≤ 4; rw [eI37, z_up_n (by decide)]; exact k13), (by show 0 ≤ (I37 0 42).toInt ∧ (I37 0 42).toInt ≤ 1; rw [eI37, z_up_n (by decide)]; exact k14)⟩ (by have q0 : (I37 0 34) = (I6 0 34) := (by rw [eI37, z_up_n (by decide)]); have q1 : (I37 0 33) = (I6 0 33) := (by rw [eI37, z_up_n (by decide)]); show 0 ≤ (I37 0 34).toInt ∧ (I37 0 34).toInt ≤ (I37 0 33).toInt ∧ (I37 0 33).toInt ≤ 500; rw [q0, q1]; first | omega | decide)  _) (cwV 0 hts gX12_sums_X12_next rfl rfl rfl (by decide +kernel) ⟨Nat.le_of_ble_eq_true rfl, Nat.le_of_ble_eq_true rfl⟩) (z_preV (i := 0) hK hW rfl rfl) rfl rfl hl.1 rfl (lv_room (Nat.le_of_ble_eq_true rfl)) dX12_sums_139 ⟨Nat.le_of_ble_eq_true rfl, Nat.le_of_ble_eq_true rfl⟩) (fun u1 H locs hp hW hS => ?_)
        obtain ⟨I52, J54, e9, hI52mp, hI52mt, hI52rp, fI52, hp⟩ := hp
        rw [e9] at hW
        have f53 := z_fr_sub (L := L_X12_sums_0_x) f38 fI52 (by decide)
        have k55 : 0 ≤ (I52 0 47).toInt ∧ (I52 0 47).toInt ≤ 119 := by rw [fI52 0 47 (by decide)]; exact (by show 0 ≤ (I37 0 47).toInt ∧ (I37 0 47).toInt ≤ 119; rw [eI37, z_up_n (by decide)]; exact k15)
        have k56 : 0 ≤ (I52 0 39).toInt ∧ (I52 0 39).toInt ≤ 100 := by rw [fI52 0 39 (by decide)]; exact (by show 0 ≤ (I37 0 39).toInt ∧ (I37 0 39).toInt ≤ 100; rw [eI37, z_up_n (by decide)]; exact k16)
        have k57 : 0 ≤ (I52 0 40).toInt ∧ (I52 0 40).toInt ≤ 6199 := by rw [fI52 0 40 (by decide)]; exact (by show 0 ≤ (I37 0 40).toInt ∧ (I37 0 40).toInt ≤ 6199; rw [eI37, z_up_n (by decide)]; exact k17)
        have k58 : 0 ≤ (I52 0 15).toInt ∧ (I52 0 15).toInt ≤ 6100 := by rw [fI52 0 15 (by decide)]; exact (by show 0 ≤ (I37 0 15).toInt ∧ (I37 0 15).toInt ≤ 6100; rw [eI37, z_up_n (by decide)]; exact hI6mn)
        have k59 : 0 ≤ (I52 0 35).toInt ∧ (I52 0 35).toInt ≤ (I52 0 34).toInt ∧ (I52 0 34).toInt ≤ (I52 0 33).toInt ∧ (I52 0 33).toInt ≤ 500 ∧ ((I52 0 36).toInt = 0 ∨ (I52 0 35).toInt + 1 ≤ (I52 0 34).toInt) := hI52rp
        have k60 : (I52 0 42).toInt = (I6 0 42).toInt := by rw [fI52 0 42 (by decide), eI37, z_up_n (by decide)]
        have k61 : (I52 0 47).toInt = (I6 0 47).toInt := by rw [fI52 0 47 (by decide), eI37, z_up_n (by decide)]
        have k62 : (I52 0 39).toInt = (I6 0 39).toInt := by rw [fI52 0 39 (by decide), eI37, z_up_n (by decide)]
        have k63 : (I52 0 15).toInt = (I6 0 15).toInt := by rw [fI52 0 15 (by decide), eI37, z_up_n (by decide)]
        have k64 : (I52 0 40).toInt = (I6 0 40).toInt := by rw [fI52 0 40 (by decide), eI37, z_up_n (by decide)]
        obtain ⟨hp, hp65⟩ := hp
        have h66 := hp
        rw [show (I37 0 34) = (I6 0 34) from by rw [eI37, z_up_n (by decide)]] at h66
        have hE67 : zm_E gt gv gp ge gh gm n0 gI I52 J54 (.inr (tq + 1, (1, fa, ((n0 : Int) + ((NN).length : Int)), fs) :: FS, fo, fg, NN ++ [(fs, fx, fg)])) := zm_E_next hSM hE40 (by omega) hp65 fI52 (by decide)
        have h68 := zm_E_W hE67
        have h69 := zm_E_D hE67
        refine lv_aload_n hx hb dX12_sums_142 rfl (lv_at hl 1 rfl) ?_
        refine z_get (T := TX12) (N := 96) (ci := 12) (i := 0) (v := .ref (ad 29)) hx hb hts zj_X12_sums_X12 hown hK hW rfl rfl 46 (by decide) (hts (.fieldLink RX12 100 "PetrolBoardModel" "sort" "[I") (me_s (me_l (me_l (List.mem_of_getElem? (i := 3) rfl))))) (fun _ h => h) rfl dX12_sums_143 ?_
        refine lv_iload_n hx hb dX12_sums_146 rfl (lv_at hl 2 rfl) ?_
        refine lv_iload_n hx hb dX12_sums_147 rfl (lv_at hl 0 rfl) ?_
        refine z_iast (i := 29) hx hb hK hW hS rfl (z_ix rfl (by omega) (by omega)) dX12_sums_148 (fun H locs hz1 hW hS => ?_)
        obtain ⟨I70, eI70⟩ : ∃ K : z_I, K = z_up I52 29 a1.toNatClampNeg 4 := ⟨_, rfl⟩
        rw [← eI70] at hW
        have f71 := z_fr_a f53 (show z_wa L_X12_sums_0_x 29 = true by decide) eI70
        have a72 := z_Nd_n (z_Nd_fr a39 fI52 (by decide)) (by decide) eI70
        have z73 := z_l4
        have hE74 : zm_E gt gv gp ge gh gm n0 gI I70 J54 (.inr (tq + 1, (1, fa, ((n0 : Int) + ((NN).length : Int)), 4) :: FS, fo, fg, NN ++ [(fs, fx, fg)])) := zm_E_top hE67 eI70 hdk (Or.inr (Or.inr ⟨rfl, by omega, rfl, rfl, rfl⟩))
        have h75 := zm_E_W hE74
        have h76 := zm_E_D hE74
        refine lv_aload_n hx hb dX12_sums_149 rfl (lv_at hl 1 rfl) ?_
        refine lv_iload_n hx hb dX12_sums_150 rfl (lv_at hl 3 rfl) ?_
        refine lv_if_eq (tgt := 158) hx hb dX12_sums_151 (by decide) (fun c77 => ?_) (fun c77 => absurd (by decide) c77)
        refine lv_iconst (v := 2) hx hb dX12_sums_158 (by decide) ?_
        refine z_cv hW hS hA (va_runV (As := [.int 2]) (rest := []) ⟨hx, hb, hml, hown, hts⟩ (sx_X12_begin_x l G ad I70 J54 ⟨(by show 0 ≤ (I70 0 47).toInt ∧ (I70 0 47).toInt ≤ 119; rw [eI70, z_up_n (by decide)]; exact k55), (by show 0 ≤ (I70 0 39).toInt ∧ (I70 0 39).toInt ≤ 100; rw [eI70, z_up_n (by decide)]; exact k56)⟩ 2 (by have q0 : (I70 0 47) = (I52 0 47) := (by rw [eI70, z_up_n (by decide)]); show (I70 0 47).toInt ≤ 118; rw [q0]; omega) _) (cwV 1 hts gX12_sums_X12_begin rfl rfl rfl (by decide +kernel) ⟨Nat.le_of_ble_eq_true rfl, Nat.le_of_ble_eq_true rfl⟩) (z_preV (i := 0) hK hW rfl rfl) rfl rfl hl.1 rfl (lv_room (Nat.le_of_ble_eq_true rfl)) dX12_sums_159 ⟨Nat.le_of_ble_eq_true rfl, Nat.le_of_ble_eq_true rfl⟩) (fun u1 H locs hp hW hS => ?_)
        obtain ⟨I78, J80, e9, hI78md, fI78, hp⟩ := hp
        rw [e9] at hW
        have f79 := z_fr_sub (L := L_X12_sums_0_x) f71 fI78 (by decide)
        have k81 : 0 ≤ (I78 0 31).toInt ∧ (I78 0 31).toInt ≤ 500 := by rw [fI78 0 31 (by decide)]; exact (by show 0 ≤ (I70 0 31).toInt ∧ (I70 0 31).toInt ≤ 500; rw [eI70, z_up_n (by decide)]; exact hI52mp.1)
        have k82 : 0 ≤ (I78 0 33).toInt ∧ (I78 0 33).toInt ≤ 500 := by rw [fI78 0 33 (by decide)]; exact (by show 0 ≤ (I70 0 33).toInt ∧ (I70 0 33).toInt ≤ 500; rw [eI70, z_up_n (by decide)]; exact hI52mp.2.1)
        have k83 : 0 ≤ (I78 0 34).toInt ∧ (I78 0 34).toInt ≤ 500 := by rw [fI78 0 34 (by decide)]; exact (by show 0 ≤ (I70 0 34).toInt ∧ (I70 0 34).toInt ≤ 500; rw [eI70, z_up_n (by decide)]; exact hI52mp.2.2.1)
        have k84 : 0 ≤ (I78 0 35).toInt ∧ (I78 0 35).toInt ≤ 500 := by rw [fI78 0 35 (by decide)]; exact (by show 0 ≤ (I70 0 35).toInt ∧ (I70 0 35).toInt ≤ 500; rw [eI70, z_up_n (by decide)]; exact hI52mp.2.2.2)
        have k85 : 0 ≤ (I78 0 36).toInt ∧ (I78 0 36).toInt ≤ 4 := by rw [fI78 0 36 (by decide)]; exact (by show 0 ≤ (I70 0 36).toInt ∧ (I70 0 36).toInt ≤ 4; rw [eI70, z_up_n (by decide)]; exact hI52mt.1)
        have k86 : 0 ≤ (I78 0 42).toInt ∧ (I78 0 42).toInt ≤ 1 := by rw [fI78 0 42 (by decide)]; exact (by show 0 ≤ (I70 0 42).toInt ∧ (I70 0 42).toInt ≤ 1; rw [eI70, z_up_n (by decide)]; exact hI52mt.2)
        have k87 : 0 ≤ (I78 0 40).toInt ∧ (I78 0 40).toInt ≤ 6199 := by rw [fI78 0 40 (by decide)]; exact (by show 0 ≤ (I70 0 40).toInt ∧ (I70 0 40).toInt ≤ 6199; rw [eI70, z_up_n (by decide)]; exact k57)
        have k88 : 0 ≤ (I78 0 15).toInt ∧ (I78 0 15).toInt ≤ 6100 := by rw [fI78 0 15 (by decide)]; exact (by show 0 ≤ (I70 0 15).toInt ∧ (I70 0 15).toInt ≤ 6100; rw [eI70, z_up_n (by decide)]; exact k58)
        have k89 : 0 ≤ (I78 0 35).toInt ∧ (I78 0 35).toInt ≤ (I78 0 34).toInt ∧ (I78 0 34).toInt ≤ (I78 0 33).toInt ∧ (I78 0 33).toInt ≤ 500 ∧ ((I78 0 36).toInt = 0 ∨ (I78 0 35).toInt + 1 ≤ (I78 0 34).toInt) := (by have q0 : (I78 0 35) = (I52 0 35) := (by rw [fI78 0 35 (by decide), eI70, z_up_n (by decide)]); have q1 : (I78 0 34) = (I52 0 34) := (by rw [fI78 0 34 (by decide), eI70, z_up_n (by decide)]); have q2 : (I78 0 33) = (I52 0 33) := (by rw [fI78 0 33 (by decide), eI70, z_up_n (by decide)]); have q3 : (I78 0 36) = (I52 0 36) := (by rw [fI78 0 36 (by decide), eI70, z_up_n (by decide)]); show 0 ≤ (I78 0 35).toInt ∧ (I78 0 35).toInt ≤ (I78 0 34).toInt ∧ (I78 0 34).toInt ≤ (I78 0 33).toInt ∧ (I78 0 33).toInt ≤ 500 ∧ ((I78 0 36).toInt = 0 ∨ (I78 0 35).toInt + 1 ≤ (I78 0 34).toInt); rw [q0, q1, q2, q3]; first | omega | decide)
        have k90 : (I78 0 35).toInt = (I52 0 35).toInt := by rw [fI78 0 35 (by decide), eI70, z_up_n (by decide)]
        have k91 : (I78 0 34).toInt = (I52 0 34).toInt := by rw [fI78 0 34 (by decide), eI70, z_up_n (by decide)]
        have k92 : (I78 0 36).toInt = (I52 0 36).toInt := by rw [fI78 0 36 (by decide), eI70, z_up_n (by decide)]
        have k93 : (I78 0 42).toInt = (I52 0 42).toInt := by rw [fI78 0 42 (by decide), eI70, z_up_n (by decide)]
        have k94 : (I78 0 39).toInt = (I52 0 39).toInt := by rw [fI78 0 39 (by decide), eI70, z_up_n (by decide)]
        have k95 : (I78 0 15).toInt = (I52 0 15).toInt := by rw [fI78 0 15 (by decide), eI70, z_up_n (by decide)]
        have k96 : (I78 0 40).toInt = (I52 0 40).toInt := by rw [fI78 0 40 (by decide), eI70, z_up_n (by decide)]
        obtain ⟨hp, hJ97⟩ := hp
        have h98 := hp
        have hE99 : zm_E gt gv gp ge gh gm n0 gI I78 J80 (.inr (tq + 1, (2, 0, -1, 0) :: (1, fa, ((n0 : Int) + ((NN).length : Int)), 4) :: FS, fo, fg, NN ++ [(fs, fx, fg)])) := zm_E_begin hE74 h98 z_l2 fI78 (by decide) hJ97
        have h100 := zm_E_W hE99
        have h101 := zm_E_D hE99
        refine lv_goto (tgt := 175) hx hb dX12_sums_162 (by decide) ?_
        exact z_vret hx hb hr hK hS (Nat.le_of_ble_eq_true rfl) (Nat.le_of_ble_eq_true rfl) hlocks dX12_sums_175 (shM, ad, I78, J80, PM ad) hW ⟨I78, J80, rfl, ⟨(by show 0 ≤ (I78 0 31).toInt ∧ (I78 0 31).toInt ≤ 500; exact k81), (by show 0 ≤ (I78 0 33).toInt ∧ (I78 0 33).toInt ≤ 500; exact k82), (by show 0 ≤ (I78 0 34).toInt ∧ (I78 0 34).toInt ≤ 500; exact k83), (by show 0 ≤ (I78 0 35).toInt ∧ (I78 0 35).toInt ≤ 500; exact k84)⟩, ⟨(by show 0 ≤ (I78 0 36).toInt ∧ (I78 0 36).toInt ≤ 4; exact k85), (by show 0 ≤ (I78 0 42).toInt ∧ (I78 0 42).toInt ≤ 1; exact k86)⟩, ⟨(by show 0 ≤ (I78 0 47).toInt ∧ (I78 0 47).toInt ≤ 119; exact hI78md.1), (by show 0 ≤ (I78 0 39).toInt ∧ (I78 0 39).toInt ≤ 100; exact hI78md.2)⟩, (by show 0 ≤ (I78 0 40).toInt ∧ (I78 0 40).toInt ≤ 6199; exact k87), (by show 0 ≤ (I78 0 15).toInt ∧ (I78 0 15).toInt ≤ 6100; exact k88), (z_Nd_fr a72 fI78 (by decide)), (by show 0 ≤ (I78 0 35).toInt ∧ (I78 0 35).toInt ≤ (I78 0 34).toInt ∧ (I78 0 34).toInt ≤ (I78 0 33).toInt ∧ (I78 0 33).toInt ≤ 500 ∧ ((I78 0 36).toInt = 0 ∨ (I78 0 35).toInt + 1 ≤ (I78 0 34).toInt); first | omega | decide), f79, ⟨((Classical.em ((I78 0 42).toInt = 0)).elim (fun hw9 => Or.inr ⟨a1.toNatClampNeg + 2, by have w1 := z_fw_1np (a := va.toInt) (o := vo.toInt) (by omega) (by omega); have w2 := z_fo_1n (a := va.toInt); have w3 := z_fw_1np (a := va.toInt) (o := x30.toInt) (by omega) (by omega); have w4 := z_fo_1n (a := va.toInt); have w5 := z_fw_20 (a := 0) (o := -1) (by omega); have w6 := z_rk_1; have w7 := z_rk_2; exact z_PUSH (d := a1.toNatClampNeg) (w := 1) (a := va.toInt) (o := x30.toInt) (s := 4) (wi := 2) hPS (fun i hi => ⟨by rw [eI70, z_up_n (by decide), fI52 26 i (z_wr_c (by decide)), eI37, z_up_n (by decide), fI6 26 i (z_wr_c (by decide))], by rw [eI70, z_up_n (by decide), fI52 27 i (z_wr_c (by decide)), eI37, z_up_n (by decide), fI6 27 i (z_wr_c (by decide))], by rw [eI70, z_up_n (by decide), fI52 28 i (z_wr_c (by decide)), eI37, z_up_k (by omega), fI6 28 i (z_wr_c (by decide))], by rw [eI70, z_up_k (by omega), fI52 29 i (z_wr_c (by decide)), eI37, z_up_n (by decide), fI6 29 i (z_wr_c (by decide))]⟩) (by rw [show I70 26 a1.toNatClampNeg = vw from (by rw [eI70, z_up_n (by decide), fI52 26 a1.toNatClampNeg (z_wr_c (by decide)), eI37, z_up_n (by decide), fI6 26 a1.toNatClampNeg (z_wr_c (by decide))]; exact evw.symm)]; exact hvw) (by rw [show I70 27 a1.toNatClampNeg = va from (by rw [eI70, z_up_n (by decide), fI52 27 a1.toNatClampNeg (z_wr_c (by decide)), eI37, z_up_n (by decide), fI6 27 a1.toNatClampNeg (z_wr_c (by decide))]; exact eva.symm)]) (by rw [show I70 28 a1.toNatClampNeg = x30 from (by rw [eI70, z_up_n (by decide), fI52 28 a1.toNatClampNeg (z_wr_c (by decide)), eI37, z_up_s])]) (by rw [show I70 29 a1.toNatClampNeg = 4 from (by rw [eI70, z_up_s])]; exact z_l4) (by unfold z_fv; omega) hwd (by rw [eI70, z_up_n (by decide)]; omega) h98 z_l2 (by omega) (by omega) (by omega) (by omega) (by omega) (by omega) (by omega) (by omega)⟩) Or.inl), (by have hz9 : zp_st gt gv (n0 : Int) (.inr (tq, (1, fa, fx, fs) :: FS, fo, fg, NN)) = .inr (tq + 1, (2, 0, -1, 0) :: (1, fa, ((n0 : Int) + ((NN).length : Int)), 4) :: FS, fo, fg, NN ++ [(fs, fx, fg)]) := (by first | (simp [zp_st, zp_op, zp_cm, zp_cb, (show ¬ fa = 0 by omega), (show ¬ fx < 0 by omega), ht47]; done) | (exfalso; omega)); rw [hz9]; exact hE99)⟩⟩
      · have z102 := z_l42
        have ht103 : ¬ gt (tq) = 42 := fun q => h44 (by have q9 := (zm_E_sg (show zp_sg 42 by unfold zp_sg; omega) hE40).mpr q; exact ⟨q9.1, by omega⟩)
        refine lv_if_eq (tgt := 119) hx hb dX12_sums_112 (by decide) (fun c104 => ?_) (fun c104 => absurd (by decide) c104)
        refine lv_aload_n hx hb dX12_sums_119 rfl (lv_at hl 0 rfl) ?_
        refine lv_bipush (v := 47) hx hb dX12_sums_120 (by decide) ?_
        refine z_ci hW hS hA (va_runV (As := [.int 47]) (rest := []) ⟨hx, hb, hml, hown, hts⟩ (sx_X12_isSign_x l G ad I37 J8 ⟨(by show 0 ≤ (I37 0 36).toInt ∧ (I37 0 36).toInt ≤ 4; rw [eI37, z_up_n (by decide)]; exact k13), (by show 0 ≤ (I37 0 42).toInt ∧ (I37 0 42).toInt ≤ 1; rw [eI37, z_up_n (by decide)]; exact k14)⟩ 47 _) (cwV 1 hts gX12_sums_X12_isSign rfl rfl rfl (by decide +kernel) ⟨Nat.le_of_ble_eq_true rfl, Nat.le_of_ble_eq_true rfl⟩) (z_preV (i := 0) hK hW rfl rfl) rfl rfl hl.1 rfl (lv_room (Nat.le_of_ble_eq_true rfl)) dX12_sums_122 ⟨Nat.le_of_ble_eq_true rfl, Nat.le_of_ble_eq_true rfl⟩) (fun r u1 H locs hp hW hS => ?_)
        obtain ⟨e9, hp⟩ := hp
        rw [e9] at hW
        rcases hp with ⟨rfl, h105, h106⟩ | ⟨rfl, h105⟩
        · have z107 := z_l47
          have ht108 : gt (tq) = 47 := (zm_E_sg (show zp_sg 47 by unfold zp_sg; omega) hE40).mp ⟨h105, by omega⟩
          have h109 := h105
          rw [show (I37 0 36) = (I6 0 36) from by rw [eI37, z_up_n (by decide)]] at h109
          have h110 : (I6 0 35).toInt + 1 ≤ (I6 0 34).toInt := by omega
          refine lv_if_eq (tgt := 132) hx hb dX12_sums_125 (by decide) (fun c111 => absurd c111 (by decide)) (fun c111 => ?_)
          refine lv_iconst (v := 5) hx hb dX12_sums_128 (by decide) ?_
          refine lv_goto (tgt := 133) hx hb dX12_sums_129 (by decide) ?_
          refine lv_istore_n (lv' := [(3, .int 5), (0, .ref (ad 0)), (1, .int a1), (2, .int 0)]) hx hb dX12_sums_133 rfl hl (by decide) rfl (fun ls hl => ?_)
          refine lv_iload_n hx hb dX12_sums_134 rfl (lv_at hl 0 rfl) ?_
          refine lv_if_le (tgt := 165) hx hb dX12_sums_135 (by decide) (fun c112 => absurd c112 (by decide)) (fun c112 => ?_)
          refine lv_aload_n hx hb dX12_sums_138 rfl (lv_at hl 1 rfl) ?_
          refine z_cv hW hS hA (va_runV (As := []) (rest := []) ⟨hx, hb, hml, hown, hts⟩ (sx_X12_next_x l G ad I37 J8 ⟨(by show 0 ≤ (I37 0 31).toInt ∧ (I37 0 31).toInt ≤ 500; rw [eI37, z_up_n (by decide)]; exact k9), (by show 0 ≤ (I37 0 33).toInt ∧ (I37 0 33).toInt ≤ 500; rw [eI37, z_up_n (by decide)]; exact k10), (by show 0 ≤ (I37 0 34).toInt ∧ (I37 0 34).toInt ≤ 500; rw [eI37, z_up_n (by decide)]; exact k11), (by show 0 ≤ (I37 0 35).toInt ∧ (I37 0 35).toInt ≤ 500; rw [eI37, z_up_n (by decide)]; exact k12)⟩ ⟨(by show 0 ≤ (I37 0 36).toInt ∧ (I37 0 36).toInt ≤ 4; rw [eI37, z_up_n (by decide)]; exact k13), (by show 0 ≤ (I37 0 42).toInt ∧ (I37 0 42).toInt ≤ 1; rw [eI37, z_up_n (by decide)]; exact k14)⟩ (by have q0 : (I37 0 34) = (I6 0 34) := (by rw [eI37, z_up_n (by decide)]); have q1 : (I37 0 33) = (I6 0 33) := (by rw [eI37, z_up_n (by decide)]); show 0 ≤ (I37 0 34).toInt ∧ (I37 0 34).toInt ≤ (I37 0 33).toInt ∧ (I37 0 33).toInt ≤ 500; rw [q0, q1]; first | omega | decide)  _) (cwV 0 hts gX12_sums_X12_next rfl rfl rfl (by decide +kernel) ⟨Nat.le_of_ble_eq_true rfl, Nat.le_of_ble_eq_true rfl⟩) (z_preV (i := 0) hK hW rfl rfl) rfl rfl hl.1 rfl (lv_room (Nat.le_of_ble_eq_true rfl)) dX12_sums_139 ⟨Nat.le_of_ble_eq_true rfl, Nat.le_of_ble_eq_true rfl⟩) (fun u1 H locs hp hW hS => ?_)
          obtain ⟨I113, J115, e9, hI113mp, hI113mt, hI113rp, fI113, hp⟩ := hp
          rw [e9] at hW
          have f114 := z_fr_sub (L := L_X12_sums_0_x) f38 fI113 (by decide)
          have k116 : 0 ≤ (I113 0 47).toInt ∧ (I113 0 47).toInt ≤ 119 := by rw [fI113 0 47 (by decide)]; exact (by show 0 ≤ (I37 0 47).toInt ∧ (I37 0 47).toInt ≤ 119; rw [eI37, z_up_n (by decide)]; exact k15)
          have k117 : 0 ≤ (I113 0 39).toInt ∧ (I113 0 39).toInt ≤ 100 := by rw [fI113 0 39 (by decide)]; exact (by show 0 ≤ (I37 0 39).toInt ∧ (I37 0 39).toInt ≤ 100; rw [eI37, z_up_n (by decide)]; exact k16)
          have k118 : 0 ≤ (I113 0 40).toInt ∧ (I113 0 40).toInt ≤ 6199 := by rw [fI113 0 40 (by decide)]; exact (by show 0 ≤ (I37 0 40).toInt ∧ (I37 0 40).toInt ≤ 6199; rw [eI37, z_up_n (by decide)]; exact k17)
          have k119 : 0 ≤ (I113 0 15).toInt ∧ (I113 0 15).toInt ≤ 6100 := by rw [fI113 0 15 (by decide)]; exact (by show 0 ≤ (I37 0 15).toInt ∧ (I37 0 15).toInt ≤ 6100; rw [eI37, z_up_n (by decide)]; exact hI6mn)
          have k120 : 0 ≤ (I113 0 35).toInt ∧ (I113 0 35).toInt ≤ (I113 0 34).toInt ∧ (I113 0 34).toInt ≤ (I113 0 33).toInt ∧ (I113 0 33).toInt ≤ 500 ∧ ((I113 0 36).toInt = 0 ∨ (I113 0 35).toInt + 1 ≤ (I113 0 34).toInt) := hI113rp
          have k121 : (I113 0 42).toInt = (I6 0 42).toInt := by rw [fI113 0 42 (by decide), eI37, z_up_n (by decide)]
          have k122 : (I113 0 47).toInt = (I6 0 47).toInt := by rw [fI113 0 47 (by decide), eI37, z_up_n (by decide)]
          have k123 : (I113 0 39).toInt = (I6 0 39).toInt := by rw [fI113 0 39 (by decide), eI37, z_up_n (by decide)]
          have k124 : (I113 0 15).toInt = (I6 0 15).toInt := by rw [fI113 0 15 (by decide), eI37, z_up_n (by decide)]
          have k125 : (I113 0 40).toInt = (I6 0 40).toInt := by rw [fI113 0 40 (by decide), eI37, z_up_n (by decide)]
          obtain ⟨hp, hp126⟩ := hp
          have h127 := hp
          rw [show (I37 0 34) = (I6 0 34) from by rw [eI37, z_up_n (by decide)]] at h127
          have hE128 : zm_E gt gv gp ge gh gm n0 gI I113 J115 (.inr (tq + 1, (1, fa, ((n0 : Int) + ((NN).length : Int)), fs) :: FS, fo, fg, NN ++ [(fs, fx, fg)])) := zm_E_next hSM hE40 (by omega) hp126 fI113 (by decide)
          have h129 := zm_E_W hE128
          have h130 := zm_E_D hE128
          refine lv_aload_n hx hb dX12_sums_142 rfl (lv_at hl 1 rfl) ?_
          refine z_get (T := TX12) (N := 96) (ci := 12) (i := 0) (v := .ref (ad 29)) hx hb hts zj_X12_sums_X12 hown hK hW rfl rfl 46 (by decide) (hts (.fieldLink RX12 100 "PetrolBoardModel" "sort" "[I") (me_s (me_l (me_l (List.mem_of_getElem? (i := 3) rfl))))) (fun _ h => h) rfl dX12_sums_143 ?_
          refine lv_iload_n hx hb dX12_sums_146 rfl (lv_at hl 2 rfl) ?_
          refine lv_iload_n hx hb dX12_sums_147 rfl (lv_at hl 0 rfl) ?_
          refine z_iast (i := 29) hx hb hK hW hS rfl (z_ix rfl (by omega) (by omega)) dX12_sums_148 (fun H locs hz1 hW hS => ?_)
          obtain ⟨I131, eI131⟩ : ∃ K : z_I, K = z_up I113 29 a1.toNatClampNeg 5 := ⟨_, rfl⟩
          rw [← eI131] at hW
          have f132 := z_fr_a f114 (show z_wa L_X12_sums_0_x 29 = true by decide) eI131
          have a133 := z_Nd_n (z_Nd_fr a39 fI113 (by decide)) (by decide) eI131
          have z134 := z_l5
          have hE135 : zm_E gt gv gp ge gh gm n0 gI I131 J115 (.inr (tq + 1, (1, fa, ((n0 : Int) + ((NN).length : Int)), 5) :: FS, fo, fg, NN ++ [(fs, fx, fg)])) := zm_E_top hE128 eI131 hdk (Or.inr (Or.inr ⟨rfl, by omega, rfl, rfl, rfl⟩))
          have h136 := zm_E_W hE135
          have h137 := zm_E_D hE135
          refine lv_aload_n hx hb dX12_sums_149 rfl (lv_at hl 1 rfl) ?_
          refine lv_iload_n hx hb dX12_sums_150 rfl (lv_at hl 3 rfl) ?_
          refine lv_if_eq (tgt := 158) hx hb dX12_sums_151 (by decide) (fun c138 => ?_) (fun c138 => absurd (by decide) c138)
          refine lv_iconst (v := 2) hx hb dX12_sums_158 (by decide) ?_
          refine z_cv hW hS hA (va_runV (As := [.int 2]) (rest := []) ⟨hx, hb, hml, hown, hts⟩ (sx_X12_begin_x l G ad I131 J115 ⟨(by show 0 ≤ (I131 0 47).toInt ∧ (I131 0 47).toInt ≤ 119; rw [eI131, z_up_n (by decide)]; exact k116), (by show 0 ≤ (I131 0 39).toInt ∧ (I131 0 39).toInt ≤ 100; rw [eI131, z_up_n (by decide)]; exact k117)⟩ 2 (by have q0 : (I131 0 47) = (I113 0 47) := (by rw [eI131, z_up_n (by decide)]); show (I131 0 47).toInt ≤ 118; rw [q0]; omega) _) (cwV 1 hts gX12_sums_X12_begin rfl rfl rfl (by decide +kernel) ⟨Nat.le_of_ble_eq_true rfl, Nat.le_of_ble_eq_true rfl⟩) (z_preV (i := 0) hK hW rfl rfl) rfl rfl hl.1 rfl (lv_room (Nat.le_of_ble_eq_true rfl)) dX12_sums_159 ⟨Nat.le_of_ble_eq_true rfl, Nat.le_of_ble_eq_true rfl⟩) (fun u1 H locs hp hW hS => ?_)
          obtain ⟨I139, J141, e9, hI139md, fI139, hp⟩ := hp
          rw [e9] at hW
          have f140 := z_fr_sub (L := L_X12_sums_0_x) f132 fI139 (by decide)
          have k142 : 0 ≤ (I139 0 31).toInt ∧ (I139 0 31).toInt ≤ 500 := by rw [fI139 0 31 (by decide)]; exact (by show 0 ≤ (I131 0 31).toInt ∧ (I131 0 31).toInt ≤ 500; rw [eI131, z_up_n (by decide)]; exact hI113mp.1)
          have k143 : 0 ≤ (I139 0 33).toInt ∧ (I139 0 33).toInt ≤ 500 := by rw [fI139 0 33 (by decide)]; exact (by show 0 ≤ (I131 0 33).toInt ∧ (I131 0 33).toInt ≤ 500; rw [eI131, z_up_n (by decide)]; exact hI113mp.2.1)
          have k144 : 0 ≤ (I139 0 34).toInt ∧ (I139 0 34).toInt ≤ 500 := by rw [fI139 0 34 (by decide)]; exact (by show 0 ≤ (I131 0 34).toInt ∧ (I131 0 34).toInt ≤ 500; rw [eI131, z_up_n (by decide)]; exact hI113mp.2.2.1)
          have k145 : 0 ≤ (I139 0 35).toInt ∧ (I139 0 35).toInt ≤ 500 := by rw [fI139 0 35 (by decide)]; exact (by show 0 ≤ (I131 0 35).toInt ∧ (I131 0 35).toInt ≤ 500; rw [eI131, z_up_n (by decide)]; exact hI113mp.2.2.2)
          have k146 : 0 ≤ (I139 0 36).toInt ∧ (I139 0 36).toInt ≤ 4 := by rw [fI139 0 36 (by decide)]; exact (by show 0 ≤ (I131 0 36).toInt ∧ (I131 0 36).toInt ≤ 4; rw [eI131, z_up_n (by decide)]; exact hI113mt.1)
          have k147 : 0 ≤ (I139 0 42).toInt ∧ (I139 0 42).toInt ≤ 1 := by rw [fI139 0 42 (by decide)]; exact (by show 0 ≤ (I131 0 42).toInt ∧ (I131 0 42).toInt ≤ 1; rw [eI131, z_up_n (by decide)]; exact hI113mt.2)
          have k148 : 0 ≤ (I139 0 40).toInt ∧ (I139 0 40).toInt ≤ 6199 := by rw [fI139 0 40 (by decide)]; exact (by show 0 ≤ (I131 0 40).toInt ∧ (I131 0 40).toInt ≤ 6199; rw [eI131, z_up_n (by decide)]; exact k118)
          have k149 : 0 ≤ (I139 0 15).toInt ∧ (I139 0 15).toInt ≤ 6100 := by rw [fI139 0 15 (by decide)]; exact (by show 0 ≤ (I131 0 15).toInt ∧ (I131 0 15).toInt ≤ 6100; rw [eI131, z_up_n (by decide)]; exact k119)
          have k150 : 0 ≤ (I139 0 35).toInt ∧ (I139 0 35).toInt ≤ (I139 0 34).toInt ∧ (I139 0 34).toInt ≤ (I139 0 33).toInt ∧ (I139 0 33).toInt ≤ 500 ∧ ((I139 0 36).toInt = 0 ∨ (I139 0 35).toInt + 1 ≤ (I139 0 34).toInt) := (by have q0 : (I139 0 35) = (I113 0 35) := (by rw [fI139 0 35 (by decide), eI131, z_up_n (by decide)]); have q1 : (I139 0 34) = (I113 0 34) := (by rw [fI139 0 34 (by decide), eI131, z_up_n (by decide)]); have q2 : (I139 0 33) = (I113 0 33) := (by rw [fI139 0 33 (by decide), eI131, z_up_n (by decide)]); have q3 : (I139 0 36) = (I113 0 36) := (by rw [fI139 0 36 (by decide), eI131, z_up_n (by decide)]); show 0 ≤ (I139 0 35).toInt ∧ (I139 0 35).toInt ≤ (I139 0 34).toInt ∧ (I139 0 34).toInt ≤ (I139 0 33).toInt ∧ (I139 0 33).toInt ≤ 500 ∧ ((I139 0 36).toInt = 0 ∨ (I139 0 35).toInt + 1 ≤ (I139 0 34).toInt); rw [q0, q1, q2, q3]; first | omega | decide)
          have k151 : (I139 0 35).toInt = (I113 0 35).toInt := by rw [fI139 0 35 (by decide), eI131, z_up_n (by decide)]
          have k152 : (I139 0 34).toInt = (I113 0 34).toInt := by rw [fI139 0 34 (by decide), eI131, z_up_n (by decide)]
          have k153 : (I139 0 36).toInt = (I113 0 36).toInt := by rw [fI139 0 36 (by decide), eI131, z_up_n (by decide)]
          have k154 : (I139 0 42).toInt = (I113 0 42).toInt := by rw [fI139 0 42 (by decide), eI131, z_up_n (by decide)]
          have k155 : (I139 0 39).toInt = (I113 0 39).toInt := by rw [fI139 0 39 (by decide), eI131, z_up_n (by decide)]
          have k156 : (I139 0 15).toInt = (I113 0 15).toInt := by rw [fI139 0 15 (by decide), eI131, z_up_n (by decide)]
          have k157 : (I139 0 40).toInt = (I113 0 40).toInt := by rw [fI139 0 40 (by decide), eI131, z_up_n (by decide)]
          obtain ⟨hp, hJ158⟩ := hp
          have h159 := hp
          have hE160 : zm_E gt gv gp ge gh gm n0 gI I139 J141 (.inr (tq + 1, (2, 0, -1, 0) :: (1, fa, ((n0 : Int) + ((NN).length : Int)), 5) :: FS, fo, fg, NN ++ [(fs, fx, fg)])) := zm_E_begin hE135 h159 z_l2 fI139 (by decide) hJ158
          have h161 := zm_E_W hE160
          have h162 := zm_E_D hE160
          refine lv_goto (tgt := 175) hx hb dX12_sums_162 (by decide) ?_
          exact z_vret hx hb hr hK hS (Nat.le_of_ble_eq_true rfl) (Nat.le_of_ble_eq_true rfl) hlocks dX12_sums_175 (shM, ad, I139, J141, PM ad) hW ⟨I139, J141, rfl, ⟨(by show 0 ≤ (I139 0 31).toInt ∧ (I139 0 31).toInt ≤ 500; exact k142), (by show 0 ≤ (I139 0 33).toInt ∧ (I139 0 33).toInt ≤ 500; exact k143), (by show 0 ≤ (I139 0 34).toInt ∧ (I139 0 34).toInt ≤ 500; exact k144), (by show 0 ≤ (I139 0 35).toInt ∧ (I139 0 35).toInt ≤ 500; exact k145)⟩, ⟨(by show 0 ≤ (I139 0 36).toInt ∧ (I139 0 36).toInt ≤ 4; exact k146), (by show 0 ≤ (I139 0 42).toInt ∧ (I139 0 42).toInt ≤ 1; exact k147)⟩, ⟨(by show 0 ≤ (I139 0 47).toInt ∧ (I139 0 47).toInt ≤ 119; exact hI139md.1), (by show 0 ≤ (I139 0 39).toInt ∧ (I139 0 39).toInt ≤ 100; exact hI139md.2)⟩, (by show 0 ≤ (I139 0 40).toInt ∧ (I139 0 40).toInt ≤ 6199; exact k148), (by show 0 ≤ (I139 0 15).toInt ∧ (I139 0 15).toInt ≤ 6100; exact k149), (z_Nd_fr a133 fI139 (by decide)), (by show 0 ≤ (I139 0 35).toInt ∧ (I139 0 35).toInt ≤ (I139 0 34).toInt ∧ (I139 0 34).toInt ≤ (I139 0 33).toInt ∧ (I139 0 33).toInt ≤ 500 ∧ ((I139 0 36).toInt = 0 ∨ (I139 0 35).toInt + 1 ≤ (I139 0 34).toInt); first | omega | decide), f140, ⟨((Classical.em ((I139 0 42).toInt = 0)).elim (fun hw9 => Or.inr ⟨a1.toNatClampNeg + 2, by have w1 := z_fw_1np (a := va.toInt) (o := vo.toInt) (by omega) (by omega); have w2 := z_fo_1n (a := va.toInt); have w3 := z_fw_1np (a := va.toInt) (o := x30.toInt) (by omega) (by omega); have w4 := z_fo_1n (a := va.toInt); have w5 := z_fw_20 (a := 0) (o := -1) (by omega); have w6 := z_rk_1; have w7 := z_rk_2; exact z_PUSH (d := a1.toNatClampNeg) (w := 1) (a := va.toInt) (o := x30.toInt) (s := 5) (wi := 2) hPS (fun i hi => ⟨by rw [eI131, z_up_n (by decide), fI113 26 i (z_wr_c (by decide)), eI37, z_up_n (by decide), fI6 26 i (z_wr_c (by decide))], by rw [eI131, z_up_n (by decide), fI113 27 i (z_wr_c (by decide)), eI37, z_up_n (by decide), fI6 27 i (z_wr_c (by decide))], by rw [eI131, z_up_n (by decide), fI113 28 i (z_wr_c (by decide)), eI37, z_up_k (by omega), fI6 28 i (z_wr_c (by decide))], by rw [eI131, z_up_k (by omega), fI113 29 i (z_wr_c (by decide)), eI37, z_up_n (by decide), fI6 29 i (z_wr_c (by decide))]⟩) (by rw [show I131 26 a1.toNatClampNeg = vw from (by rw [eI131, z_up_n (by decide), fI113 26 a1.toNatClampNeg (z_wr_c (by decide)), eI37, z_up_n (by decide), fI6 26 a1.toNatClampNeg (z_wr_c (by decide))]; exact evw.symm)]; exact hvw) (by rw [show I131 27 a1.toNatClampNeg = va from (by rw [eI131, z_up_n (by decide), fI113 27 a1.toNatClampNeg (z_wr_c (by decide)), eI37, z_up_n (by decide), fI6 27 a1.toNatClampNeg (z_wr_c (by decide))]; exact eva.symm)]) (by rw [show I131 28 a1.toNatClampNeg = x30 from (by rw [eI131, z_up_n (by decide), fI113 28 a1.toNatClampNeg (z_wr_c (by decide)), eI37, z_up_s])]) (by rw [show I131 29 a1.toNatClampNeg = 5 from (by rw [eI131, z_up_s])]; exact z_l5) (by unfold z_fv; omega) hwd (by rw [eI131, z_up_n (by decide)]; omega) h159 z_l2 (by omega) (by omega) (by omega) (by omega) (by omega) (by omega) (by omega) (by omega)⟩) Or.inl), (by have hz9 : zp_st gt gv (n0 : Int) (.inr (tq, (1, fa, fx, fs) :: FS, fo, fg, NN)) = .inr (tq + 1, (2, 0, -1, 0) :: (1, fa, ((n0 : Int) + ((NN).length : Int)), 5) :: FS, fo, fg, NN ++ [(fs, fx, fg)]) := (by first | (simp [zp_st, zp_op, zp_cm, zp_cb, (show ¬ fa = 0 by omega), (show ¬ fx < 0 by omega), ht103, ht108]; done) | (exfalso; omega)); rw [hz9]; exact hE160)⟩⟩
        · have z163 := z_l47
          have ht164 : ¬ gt (tq) = 47 := fun q => h105 (by have q9 := (zm_E_sg (show zp_sg 47 by unfold zp_sg; omega) hE40).mpr q; exact ⟨q9.1, by omega⟩)
          refine lv_if_eq (tgt := 132) hx hb dX12_sums_125 (by decide) (fun c165 => ?_) (fun c165 => absurd (by decide) c165)
          refine lv_iconst (v := 0) hx hb dX12_sums_132 (by decide) ?_
          refine lv_istore_n (lv' := [(3, .int 0), (0, .ref (ad 0)), (1, .int a1), (2, .int 0)]) hx hb dX12_sums_133 rfl hl (by decide) rfl (fun ls hl => ?_)
          refine lv_iload_n hx hb dX12_sums_134 rfl (lv_at hl 0 rfl) ?_
          refine lv_if_le (tgt := 165) hx hb dX12_sums_135 (by decide) (fun c166 => ?_) (fun c166 => absurd (by decide) c166)
          refine lv_aload_n hx hb dX12_sums_165 rfl (lv_at hl 1 rfl) ?_
          refine lv_aload_n hx hb dX12_sums_166 rfl (lv_at hl 1 rfl) ?_
          refine z_get (T := TX12) (N := 96) (ci := 12) (i := 0) (v := .ref (ad 28)) hx hb hts zj_X12_sums_X12 hown hK hW rfl rfl 45 (by decide) (hts (.fieldLink RX12 97 "PetrolBoardModel" "one" "[I") (me_s (me_l (me_l (List.mem_of_getElem? (i := 1) rfl))))) (fun _ h => h) rfl dX12_sums_167 ?_
          refine lv_iload_n hx hb dX12_sums_170 rfl (lv_at hl 2 rfl) ?_
          refine z_iald (i := 28) hx hb hK hW rfl (z_ix rfl (by omega) (by omega)) dX12_sums_171 ?_
          refine z_topi (v := x30) (by rw [eI37, z_up_s]) ?_
          refine z_cv hW hS hA (va_runV (As := [.int x30]) (rest := []) ⟨hx, hb, hml, hown, hts⟩ (sx_X12_ends_x l G ad I37 J8 ⟨(by show 0 ≤ (I37 0 47).toInt ∧ (I37 0 47).toInt ≤ 119; rw [eI37, z_up_n (by decide)]; exact k15), (by show 0 ≤ (I37 0 39).toInt ∧ (I37 0 39).toInt ≤ 100; rw [eI37, z_up_n (by decide)]; exact k16)⟩ (by show 0 ≤ (I37 0 40).toInt ∧ (I37 0 40).toInt ≤ 6199; rw [eI37, z_up_n (by decide)]; exact k17) x30 (by first | omega | decide) (by have q0 : (I37 0 47) = (I6 0 47) := (by rw [eI37, z_up_n (by decide)]); show 1 ≤ (I37 0 47).toInt; rw [q0]; omega) _) (cwV 1 hts gX12_sums_X12_ends rfl rfl rfl (by decide +kernel) ⟨Nat.le_of_ble_eq_true rfl, Nat.le_of_ble_eq_true rfl⟩) (z_preV (i := 0) hK hW rfl rfl) rfl rfl hl.1 rfl (lv_room (Nat.le_of_ble_eq_true rfl)) dX12_sums_172 ⟨Nat.le_of_ble_eq_true rfl, Nat.le_of_ble_eq_true rfl⟩) (fun u1 H locs hp hW hS => ?_)
          obtain ⟨I167, J169, e9, hI167md, hI167mg, fI167, hp⟩ := hp
          rw [e9] at hW
          have f168 := z_fr_sub (L := L_X12_sums_0_x) f38 fI167 (by decide)
          have k170 : 0 ≤ (I167 0 31).toInt ∧ (I167 0 31).toInt ≤ 500 := by rw [fI167 0 31 (by decide)]; exact (by show 0 ≤ (I37 0 31).toInt ∧ (I37 0 31).toInt ≤ 500; rw [eI37, z_up_n (by decide)]; exact k9)
          have k171 : 0 ≤ (I167 0 33).toInt ∧ (I167 0 33).toInt ≤ 500 := by rw [fI167 0 33 (by decide)]; exact (by show 0 ≤ (I37 0 33).toInt ∧ (I37 0 33).toInt ≤ 500; rw [eI37, z_up_n (by decide)]; exact k10)
          have k172 : 0 ≤ (I167 0 34).toInt ∧ (I167 0 34).toInt ≤ 500 := by rw [fI167 0 34 (by decide)]; exact (by show 0 ≤ (I37 0 34).toInt ∧ (I37 0 34).toInt ≤ 500; rw [eI37, z_up_n (by decide)]; exact k11)
          have k173 : 0 ≤ (I167 0 35).toInt ∧ (I167 0 35).toInt ≤ 500 := by rw [fI167 0 35 (by decide)]; exact (by show 0 ≤ (I37 0 35).toInt ∧ (I37 0 35).toInt ≤ 500; rw [eI37, z_up_n (by decide)]; exact k12)
          have k174 : 0 ≤ (I167 0 36).toInt ∧ (I167 0 36).toInt ≤ 4 := by rw [fI167 0 36 (by decide)]; exact (by show 0 ≤ (I37 0 36).toInt ∧ (I37 0 36).toInt ≤ 4; rw [eI37, z_up_n (by decide)]; exact k13)
          have k175 : 0 ≤ (I167 0 42).toInt ∧ (I167 0 42).toInt ≤ 1 := by rw [fI167 0 42 (by decide)]; exact (by show 0 ≤ (I37 0 42).toInt ∧ (I37 0 42).toInt ≤ 1; rw [eI37, z_up_n (by decide)]; exact k14)
          have k176 : 0 ≤ (I167 0 15).toInt ∧ (I167 0 15).toInt ≤ 6100 := by rw [fI167 0 15 (by decide)]; exact (by show 0 ≤ (I37 0 15).toInt ∧ (I37 0 15).toInt ≤ 6100; rw [eI37, z_up_n (by decide)]; exact hI6mn)
          have k177 : 0 ≤ (I167 0 35).toInt ∧ (I167 0 35).toInt ≤ (I167 0 34).toInt ∧ (I167 0 34).toInt ≤ (I167 0 33).toInt ∧ (I167 0 33).toInt ≤ 500 ∧ ((I167 0 36).toInt = 0 ∨ (I167 0 35).toInt + 1 ≤ (I167 0 34).toInt) := (by have q0 : (I167 0 35) = (I6 0 35) := (by rw [fI167 0 35 (by decide), eI37, z_up_n (by decide)]); have q1 : (I167 0 34) = (I6 0 34) := (by rw [fI167 0 34 (by decide), eI37, z_up_n (by decide)]); have q2 : (I167 0 33) = (I6 0 33) := (by rw [fI167 0 33 (by decide), eI37, z_up_n (by decide)]); have q3 : (I167 0 36) = (I6 0 36) := (by rw [fI167 0 36 (by decide), eI37, z_up_n (by decide)]); show 0 ≤ (I167 0 35).toInt ∧ (I167 0 35).toInt ≤ (I167 0 34).toInt ∧ (I167 0 34).toInt ≤ (I167 0 33).toInt ∧ (I167 0 33).toInt ≤ 500 ∧ ((I167 0 36).toInt = 0 ∨ (I167 0 35).toInt + 1 ≤ (I167 0 34).toInt); rw [q0, q1, q2, q3]; first | omega | decide)
          have k178 : (I167 0 35).toInt = (I6 0 35).toInt := by rw [fI167 0 35 (by decide), eI37, z_up_n (by decide)]
          have k179 : (I167 0 34).toInt = (I6 0 34).toInt := by rw [fI167 0 34 (by decide), eI37, z_up_n (by decide)]
          have k180 : (I167 0 36).toInt = (I6 0 36).toInt := by rw [fI167 0 36 (by decide), eI37, z_up_n (by decide)]
          have k181 : (I167 0 42).toInt = (I6 0 42).toInt := by rw [fI167 0 42 (by decide), eI37, z_up_n (by decide)]
          have k182 : (I167 0 39).toInt = (I6 0 39).toInt := by rw [fI167 0 39 (by decide), eI37, z_up_n (by decide)]
          have k183 : (I167 0 15).toInt = (I6 0 15).toInt := by rw [fI167 0 15 (by decide), eI37, z_up_n (by decide)]
          obtain ⟨hp, h184, hJ185⟩ := hp
          have h186 := hp
          have h187 := hp
          rw [show (I37 0 47) = (I6 0 47) from by rw [eI37, z_up_n (by decide)]] at h187
          have hE188 : zm_E gt gv gp ge gh gm n0 gI I167 J169 (.inr (tq, FS, fo, ((n0 : Int) + ((NN).length : Int)), NN ++ [(fs, fx, fg)])) := zm_E_ends hE40 h186 h184 (by omega) fI167 (by decide) hJ185
          have h189 := zm_E_W hE188
          have h190 := zm_E_D hE188
          exact z_vret hx hb hr hK hS (Nat.le_of_ble_eq_true rfl) (Nat.le_of_ble_eq_true rfl) hlocks dX12_sums_175 (shM, ad, I167, J169, PM ad) hW ⟨I167, J169, rfl, ⟨(by show 0 ≤ (I167 0 31).toInt ∧ (I167 0 31).toInt ≤ 500; exact k170), (by show 0 ≤ (I167 0 33).toInt ∧ (I167 0 33).toInt ≤ 500; exact k171), (by show 0 ≤ (I167 0 34).toInt ∧ (I167 0 34).toInt ≤ 500; exact k172), (by show 0 ≤ (I167 0 35).toInt ∧ (I167 0 35).toInt ≤ 500; exact k173)⟩, ⟨(by show 0 ≤ (I167 0 36).toInt ∧ (I167 0 36).toInt ≤ 4; exact k174), (by show 0 ≤ (I167 0 42).toInt ∧ (I167 0 42).toInt ≤ 1; exact k175)⟩, ⟨(by show 0 ≤ (I167 0 47).toInt ∧ (I167 0 47).toInt ≤ 119; exact hI167md.1), (by show 0 ≤ (I167 0 39).toInt ∧ (I167 0 39).toInt ≤ 100; exact hI167md.2)⟩, (by show 0 ≤ (I167 0 40).toInt ∧ (I167 0 40).toInt ≤ 6199; exact hI167mg), (by show 0 ≤ (I167 0 15).toInt ∧ (I167 0 15).toInt ≤ 6100; exact k176), (z_Nd_fr a39 fI167 (by decide)), (by show 0 ≤ (I167 0 35).toInt ∧ (I167 0 35).toInt ≤ (I167 0 34).toInt ∧ (I167 0 34).toInt ≤ (I167 0 33).toInt ∧ (I167 0 33).toInt ≤ 500 ∧ ((I167 0 36).toInt = 0 ∨ (I167 0 35).toInt + 1 ≤ (I167 0 34).toInt); first | omega | decide), f168, ⟨((Classical.em ((I167 0 42).toInt = 0)).elim (fun hw9 => Or.inr ⟨a1.toNatClampNeg, by have w1 := z_fw_1np (a := va.toInt) (o := vo.toInt) (by omega) (by omega); have w2 := z_fo_1n (a := va.toInt); exact z_POP (d := a1.toNatClampNeg) hPS (fun i hi => ⟨by rw [fI167 26 i (z_wr_c (by decide)), eI37, z_up_n (by decide), fI6 26 i (z_wr_c (by decide))], by rw [fI167 27 i (z_wr_c (by decide)), eI37, z_up_n (by decide), fI6 27 i (z_wr_c (by decide))], by rw [fI167 28 i (z_wr_c (by decide)), eI37, z_up_k (by omega), fI6 28 i (z_wr_c (by decide))], by rw [fI167 29 i (z_wr_c (by decide)), eI37, z_up_n (by decide), fI6 29 i (z_wr_c (by decide))]⟩) (by omega) (by omega) (by omega) (by omega) (by omega) (by omega)⟩) Or.inl), (by have hz9 : zp_st gt gv (n0 : Int) (.inr (tq, (1, fa, fx, fs) :: FS, fo, fg, NN)) = .inr (tq, FS, fo, ((n0 : Int) + ((NN).length : Int)), NN ++ [(fs, fx, fg)]) := (by first | (simp [zp_st, zp_op, zp_cm, zp_cb, (show ¬ fa = 0 by omega), (show ¬ fx < 0 by omega), ht103, ht164]; done) | (exfalso; omega)); rw [hz9]; exact hE188)⟩⟩
    · have g191 := z_f_nge rfl z_l0 c3
      refine lv_aload_n hx hb dX12_sums_44 rfl (lv_at hl 0 rfl) ?_
      have r192 : 0 ≤ (I 0 40).toInt ∧ (I 0 40).toInt ≤ 6199 := hmg
      refine z_get (T := TX12) (N := 96) (ci := 12) (i := 0) (v := .int (I 0 40)) hx hb hts zj_X12_sums_X12 hown hK hW rfl rfl 40 (by decide) (hts (.fieldLink RX12 343 "PetrolBoardModel" "got" "I") (me_s (me_l (me_l (List.mem_of_getElem? (i := 2) rfl))))) (fun _ h => h) rfl dX12_sums_45 ?_
      refine lv_goto (tgt := 71) hx hb dX12_sums_48 (by decide) ?_
      refine z_iast (i := 28) hx hb hK hW hS rfl (z_ix rfl (by omega) (by omega)) dX12_sums_71 (fun H locs hz1 hW hS => ?_)
      obtain ⟨I193, eI193⟩ : ∃ K : z_I, K = z_up I 28 a1.toNatClampNeg (I 0 40) := ⟨_, rfl⟩
      rw [← eI193] at hW
      have f194 := z_fr_a z_fr_0 (show z_wa L_X12_sums_0_x 28 = true by decide) eI193
      have a195 := z_Nd_n hNd (by decide) eI193
      have hE196 : zm_E gt gv gp ge gh gm n0 gI I193 J (.inr (tq, (1, fa, fg, fs) :: FS, fo, fg, NN)) := zm_E_top hE eI193 hdk (Or.inr (Or.inl ⟨rfl, by omega, rfl, rfl, rfl⟩))
      have h197 := zm_E_W hE196
      have h198 := zm_E_D hE196
      refine lv_iload_n hx hb dX12_sums_72 rfl (lv_at hl 2 rfl) ?_
      refine lv_if_eq (tgt := 106) hx hb dX12_sums_73 (by decide) (fun c199 => ?_) (fun c199 => absurd (by decide) c199)
      refine lv_aload_n hx hb dX12_sums_106 rfl (lv_at hl 0 rfl) ?_
      refine lv_bipush (v := 42) hx hb dX12_sums_107 (by decide) ?_
      refine z_ci hW hS hA (va_runV (As := [.int 42]) (rest := []) ⟨hx, hb, hml, hown, hts⟩ (sx_X12_isSign_x l G ad I193 J ⟨(by show 0 ≤ (I193 0 36).toInt ∧ (I193 0 36).toInt ≤ 4; rw [eI193, z_up_n (by decide)]; exact hmt.1), (by show 0 ≤ (I193 0 42).toInt ∧ (I193 0 42).toInt ≤ 1; rw [eI193, z_up_n (by decide)]; exact hmt.2)⟩ 42 _) (cwV 1 hts gX12_sums_X12_isSign rfl rfl rfl (by decide +kernel) ⟨Nat.le_of_ble_eq_true rfl, Nat.le_of_ble_eq_true rfl⟩) (z_preV (i := 0) hK hW rfl rfl) rfl rfl hl.1 rfl (lv_room (Nat.le_of_ble_eq_true rfl)) dX12_sums_109 ⟨Nat.le_of_ble_eq_true rfl, Nat.le_of_ble_eq_true rfl⟩) (fun r u1 H locs hp hW hS => ?_)
      obtain ⟨e9, hp⟩ := hp
      rw [e9] at hW
      rcases hp with ⟨rfl, h200, h201⟩ | ⟨rfl, h200⟩
      · have z202 := z_l42
        have ht203 : gt (tq) = 42 := (zm_E_sg (show zp_sg 42 by unfold zp_sg; omega) hE196).mp ⟨h200, by omega⟩
        have h204 := h200
        rw [show (I193 0 36) = (I 0 36) from by rw [eI193, z_up_n (by decide)]] at h204
        have h205 : (I 0 35).toInt + 1 ≤ (I 0 34).toInt := by omega
        refine lv_if_eq (tgt := 119) hx hb dX12_sums_112 (by decide) (fun c206 => absurd c206 (by decide)) (fun c206 => ?_)
        refine lv_iconst (v := 4) hx hb dX12_sums_115 (by decide) ?_
        refine lv_goto (tgt := 133) hx hb dX12_sums_116 (by decide) ?_
        refine lv_istore_n (lv' := [(3, .int 4), (0, .ref (ad 0)), (1, .int a1), (2, .int 0)]) hx hb dX12_sums_133 rfl hl (by decide) rfl (fun ls hl => ?_)
        refine lv_iload_n hx hb dX12_sums_134 rfl (lv_at hl 0 rfl) ?_
        refine lv_if_le (tgt := 165) hx hb dX12_sums_135 (by decide) (fun c207 => absurd c207 (by decide)) (fun c207 => ?_)
        refine lv_aload_n hx hb dX12_sums_138 rfl (lv_at hl 1 rfl) ?_
        refine z_cv hW hS hA (va_runV (As := []) (rest := []) ⟨hx, hb, hml, hown, hts⟩ (sx_X12_next_x l G ad I193 J ⟨(by show 0 ≤ (I193 0 31).toInt ∧ (I193 0 31).toInt ≤ 500; rw [eI193, z_up_n (by decide)]; exact hmp.1), (by show 0 ≤ (I193 0 33).toInt ∧ (I193 0 33).toInt ≤ 500; rw [eI193, z_up_n (by decide)]; exact hmp.2.1), (by show 0 ≤ (I193 0 34).toInt ∧ (I193 0 34).toInt ≤ 500; rw [eI193, z_up_n (by decide)]; exact hmp.2.2.1), (by show 0 ≤ (I193 0 35).toInt ∧ (I193 0 35).toInt ≤ 500; rw [eI193, z_up_n (by decide)]; exact hmp.2.2.2)⟩ ⟨(by show 0 ≤ (I193 0 36).toInt ∧ (I193 0 36).toInt ≤ 4; rw [eI193, z_up_n (by decide)]; exact hmt.1), (by show 0 ≤ (I193 0 42).toInt ∧ (I193 0 42).toInt ≤ 1; rw [eI193, z_up_n (by decide)]; exact hmt.2)⟩ (by have q0 : (I193 0 34) = (I 0 34) := (by rw [eI193, z_up_n (by decide)]); have q1 : (I193 0 33) = (I 0 33) := (by rw [eI193, z_up_n (by decide)]); show 0 ≤ (I193 0 34).toInt ∧ (I193 0 34).toInt ≤ (I193 0 33).toInt ∧ (I193 0 33).toInt ≤ 500; rw [q0, q1]; first | omega | decide)  _) (cwV 0 hts gX12_sums_X12_next rfl rfl rfl (by decide +kernel) ⟨Nat.le_of_ble_eq_true rfl, Nat.le_of_ble_eq_true rfl⟩) (z_preV (i := 0) hK hW rfl rfl) rfl rfl hl.1 rfl (lv_room (Nat.le_of_ble_eq_true rfl)) dX12_sums_139 ⟨Nat.le_of_ble_eq_true rfl, Nat.le_of_ble_eq_true rfl⟩) (fun u1 H locs hp hW hS => ?_)
        obtain ⟨I208, J210, e9, hI208mp, hI208mt, hI208rp, fI208, hp⟩ := hp
        rw [e9] at hW
        have f209 := z_fr_sub (L := L_X12_sums_0_x) f194 fI208 (by decide)
        have k211 : 0 ≤ (I208 0 47).toInt ∧ (I208 0 47).toInt ≤ 119 := by rw [fI208 0 47 (by decide)]; exact (by show 0 ≤ (I193 0 47).toInt ∧ (I193 0 47).toInt ≤ 119; rw [eI193, z_up_n (by decide)]; exact hmd.1)
        have k212 : 0 ≤ (I208 0 39).toInt ∧ (I208 0 39).toInt ≤ 100 := by rw [fI208 0 39 (by decide)]; exact (by show 0 ≤ (I193 0 39).toInt ∧ (I193 0 39).toInt ≤ 100; rw [eI193, z_up_n (by decide)]; exact hmd.2)
        have k213 : 0 ≤ (I208 0 40).toInt ∧ (I208 0 40).toInt ≤ 6199 := by rw [fI208 0 40 (by decide)]; exact (by show 0 ≤ (I193 0 40).toInt ∧ (I193 0 40).toInt ≤ 6199; rw [eI193, z_up_n (by decide)]; exact hmg)
        have k214 : 0 ≤ (I208 0 15).toInt ∧ (I208 0 15).toInt ≤ 6100 := by rw [fI208 0 15 (by decide)]; exact (by show 0 ≤ (I193 0 15).toInt ∧ (I193 0 15).toInt ≤ 6100; rw [eI193, z_up_n (by decide)]; exact hmn)
        have k215 : 0 ≤ (I208 0 35).toInt ∧ (I208 0 35).toInt ≤ (I208 0 34).toInt ∧ (I208 0 34).toInt ≤ (I208 0 33).toInt ∧ (I208 0 33).toInt ≤ 500 ∧ ((I208 0 36).toInt = 0 ∨ (I208 0 35).toInt + 1 ≤ (I208 0 34).toInt) := hI208rp
        have k216 : (I208 0 42).toInt = (I 0 42).toInt := by rw [fI208 0 42 (by decide), eI193, z_up_n (by decide)]
        have k217 : (I208 0 47).toInt = (I 0 47).toInt := by rw [fI208 0 47 (by decide), eI193, z_up_n (by decide)]
        have k218 : (I208 0 39).toInt = (I 0 39).toInt := by rw [fI208 0 39 (by decide), eI193, z_up_n (by decide)]
        have k219 : (I208 0 15).toInt = (I 0 15).toInt := by rw [fI208 0 15 (by decide), eI193, z_up_n (by decide)]
        have k220 : (I208 0 40).toInt = (I 0 40).toInt := by rw [fI208 0 40 (by decide), eI193, z_up_n (by decide)]
        obtain ⟨hp, hp221⟩ := hp
        have h222 := hp
        rw [show (I193 0 34) = (I 0 34) from by rw [eI193, z_up_n (by decide)]] at h222
        have hE223 : zm_E gt gv gp ge gh gm n0 gI I208 J210 (.inr (tq + 1, (1, fa, fg, fs) :: FS, fo, fg, NN)) := zm_E_next hSM hE196 (by omega) hp221 fI208 (by decide)
        have h224 := zm_E_W hE223
        have h225 := zm_E_D hE223
        refine lv_aload_n hx hb dX12_sums_142 rfl (lv_at hl 1 rfl) ?_
        refine z_get (T := TX12) (N := 96) (ci := 12) (i := 0) (v := .ref (ad 29)) hx hb hts zj_X12_sums_X12 hown hK hW rfl rfl 46 (by decide) (hts (.fieldLink RX12 100 "PetrolBoardModel" "sort" "[I") (me_s (me_l (me_l (List.mem_of_getElem? (i := 3) rfl))))) (fun _ h => h) rfl dX12_sums_143 ?_
        refine lv_iload_n hx hb dX12_sums_146 rfl (lv_at hl 2 rfl) ?_
        refine lv_iload_n hx hb dX12_sums_147 rfl (lv_at hl 0 rfl) ?_
        refine z_iast (i := 29) hx hb hK hW hS rfl (z_ix rfl (by omega) (by omega)) dX12_sums_148 (fun H locs hz1 hW hS => ?_)
        obtain ⟨I226, eI226⟩ : ∃ K : z_I, K = z_up I208 29 a1.toNatClampNeg 4 := ⟨_, rfl⟩
        rw [← eI226] at hW
        have f227 := z_fr_a f209 (show z_wa L_X12_sums_0_x 29 = true by decide) eI226
        have a228 := z_Nd_n (z_Nd_fr a195 fI208 (by decide)) (by decide) eI226
        have z229 := z_l4
        have hE230 : zm_E gt gv gp ge gh gm n0 gI I226 J210 (.inr (tq + 1, (1, fa, fg, 4) :: FS, fo, fg, NN)) := zm_E_top hE223 eI226 hdk (Or.inr (Or.inr ⟨rfl, by omega, rfl, rfl, rfl⟩))
        have h231 := zm_E_W hE230
        have h232 := zm_E_D hE230
        refine lv_aload_n hx hb dX12_sums_149 rfl (lv_at hl 1 rfl) ?_
        refine lv_iload_n hx hb dX12_sums_150 rfl (lv_at hl 3 rfl) ?_
        refine lv_if_eq (tgt := 158) hx hb dX12_sums_151 (by decide) (fun c233 => ?_) (fun c233 => absurd (by decide) c233)
        refine lv_iconst (v := 2) hx hb dX12_sums_158 (by decide) ?_
        refine z_cv hW hS hA (va_runV (As := [.int 2]) (rest := []) ⟨hx, hb, hml, hown, hts⟩ (sx_X12_begin_x l G ad I226 J210 ⟨(by show 0 ≤ (I226 0 47).toInt ∧ (I226 0 47).toInt ≤ 119; rw [eI226, z_up_n (by decide)]; exact k211), (by show 0 ≤ (I226 0 39).toInt ∧ (I226 0 39).toInt ≤ 100; rw [eI226, z_up_n (by decide)]; exact k212)⟩ 2 (by have q0 : (I226 0 47) = (I208 0 47) := (by rw [eI226, z_up_n (by decide)]); show (I226 0 47).toInt ≤ 118; rw [q0]; omega) _) (cwV 1 hts gX12_sums_X12_begin rfl rfl rfl (by decide +kernel) ⟨Nat.le_of_ble_eq_true rfl, Nat.le_of_ble_eq_true rfl⟩) (z_preV (i := 0) hK hW rfl rfl) rfl rfl hl.1 rfl (lv_room (Nat.le_of_ble_eq_true rfl)) dX12_sums_159 ⟨Nat.le_of_ble_eq_true rfl, Nat.le_of_ble_eq_true rfl⟩) (fun u1 H locs hp hW hS => ?_)
        obtain ⟨I234, J236, e9, hI234md, fI234, hp⟩ := hp
        rw [e9] at hW
        have f235 := z_fr_sub (L := L_X12_sums_0_x) f227 fI234 (by decide)
        have k237 : 0 ≤ (I234 0 31).toInt ∧ (I234 0 31).toInt ≤ 500 := by rw [fI234 0 31 (by decide)]; exact (by show 0 ≤ (I226 0 31).toInt ∧ (I226 0 31).toInt ≤ 500; rw [eI226, z_up_n (by decide)]; exact hI208mp.1)
        have k238 : 0 ≤ (I234 0 33).toInt ∧ (I234 0 33).toInt ≤ 500 := by rw [fI234 0 33 (by decide)]; exact (by show 0 ≤ (I226 0 33).toInt ∧ (I226 0 33).toInt ≤ 500; rw [eI226, z_up_n (by decide)]; exact hI208mp.2.1)
        have k239 : 0 ≤ (I234 0 34).toInt ∧ (I234 0 34).toInt ≤ 500 := by rw [fI234 0 34 (by decide)]; exact (by show 0 ≤ (I226 0 34).toInt ∧ (I226 0 34).toInt ≤ 500; rw [eI226, z_up_n (by decide)]; exact hI208mp.2.2.1)
        have k240 : 0 ≤ (I234 0 35).toInt ∧ (I234 0 35).toInt ≤ 500 := by rw [fI234 0 35 (by decide)]; exact (by show 0 ≤ (I226 0 35).toInt ∧ (I226 0 35).toInt ≤ 500; rw [eI226, z_up_n (by decide)]; exact hI208mp.2.2.2)
        have k241 : 0 ≤ (I234 0 36).toInt ∧ (I234 0 36).toInt ≤ 4 := by rw [fI234 0 36 (by decide)]; exact (by show 0 ≤ (I226 0 36).toInt ∧ (I226 0 36).toInt ≤ 4; rw [eI226, z_up_n (by decide)]; exact hI208mt.1)
        have k242 : 0 ≤ (I234 0 42).toInt ∧ (I234 0 42).toInt ≤ 1 := by rw [fI234 0 42 (by decide)]; exact (by show 0 ≤ (I226 0 42).toInt ∧ (I226 0 42).toInt ≤ 1; rw [eI226, z_up_n (by decide)]; exact hI208mt.2)
        have k243 : 0 ≤ (I234 0 40).toInt ∧ (I234 0 40).toInt ≤ 6199 := by rw [fI234 0 40 (by decide)]; exact (by show 0 ≤ (I226 0 40).toInt ∧ (I226 0 40).toInt ≤ 6199; rw [eI226, z_up_n (by decide)]; exact k213)
        have k244 : 0 ≤ (I234 0 15).toInt ∧ (I234 0 15).toInt ≤ 6100 := by rw [fI234 0 15 (by decide)]; exact (by show 0 ≤ (I226 0 15).toInt ∧ (I226 0 15).toInt ≤ 6100; rw [eI226, z_up_n (by decide)]; exact k214)
        have k245 : 0 ≤ (I234 0 35).toInt ∧ (I234 0 35).toInt ≤ (I234 0 34).toInt ∧ (I234 0 34).toInt ≤ (I234 0 33).toInt ∧ (I234 0 33).toInt ≤ 500 ∧ ((I234 0 36).toInt = 0 ∨ (I234 0 35).toInt + 1 ≤ (I234 0 34).toInt) := (by have q0 : (I234 0 35) = (I208 0 35) := (by rw [fI234 0 35 (by decide), eI226, z_up_n (by decide)]); have q1 : (I234 0 34) = (I208 0 34) := (by rw [fI234 0 34 (by decide), eI226, z_up_n (by decide)]); have q2 : (I234 0 33) = (I208 0 33) := (by rw [fI234 0 33 (by decide), eI226, z_up_n (by decide)]); have q3 : (I234 0 36) = (I208 0 36) := (by rw [fI234 0 36 (by decide), eI226, z_up_n (by decide)]); show 0 ≤ (I234 0 35).toInt ∧ (I234 0 35).toInt ≤ (I234 0 34).toInt ∧ (I234 0 34).toInt ≤ (I234 0 33).toInt ∧ (I234 0 33).toInt ≤ 500 ∧ ((I234 0 36).toInt = 0 ∨ (I234 0 35).toInt + 1 ≤ (I234 0 34).toInt); rw [q0, q1, q2, q3]; first | omega | decide)
        have k246 : (I234 0 35).toInt = (I208 0 35).toInt := by rw [fI234 0 35 (by decide), eI226, z_up_n (by decide)]
        have k247 : (I234 0 34).toInt = (I208 0 34).toInt := by rw [fI234 0 34 (by decide), eI226, z_up_n (by decide)]
        have k248 : (I234 0 36).toInt = (I208 0 36).toInt := by rw [fI234 0 36 (by decide), eI226, z_up_n (by decide)]
        have k249 : (I234 0 42).toInt = (I208 0 42).toInt := by rw [fI234 0 42 (by decide), eI226, z_up_n (by decide)]
        have k250 : (I234 0 39).toInt = (I208 0 39).toInt := by rw [fI234 0 39 (by decide), eI226, z_up_n (by decide)]
        have k251 : (I234 0 15).toInt = (I208 0 15).toInt := by rw [fI234 0 15 (by decide), eI226, z_up_n (by decide)]
        have k252 : (I234 0 40).toInt = (I208 0 40).toInt := by rw [fI234 0 40 (by decide), eI226, z_up_n (by decide)]
        obtain ⟨hp, hJ253⟩ := hp
        have h254 := hp
        have hE255 : zm_E gt gv gp ge gh gm n0 gI I234 J236 (.inr (tq + 1, (2, 0, -1, 0) :: (1, fa, fg, 4) :: FS, fo, fg, NN)) := zm_E_begin hE230 h254 z_l2 fI234 (by decide) hJ253
        have h256 := zm_E_W hE255
        have h257 := zm_E_D hE255
        refine lv_goto (tgt := 175) hx hb dX12_sums_162 (by decide) ?_
        exact z_vret hx hb hr hK hS (Nat.le_of_ble_eq_true rfl) (Nat.le_of_ble_eq_true rfl) hlocks dX12_sums_175 (shM, ad, I234, J236, PM ad) hW ⟨I234, J236, rfl, ⟨(by show 0 ≤ (I234 0 31).toInt ∧ (I234 0 31).toInt ≤ 500; exact k237), (by show 0 ≤ (I234 0 33).toInt ∧ (I234 0 33).toInt ≤ 500; exact k238), (by show 0 ≤ (I234 0 34).toInt ∧ (I234 0 34).toInt ≤ 500; exact k239), (by show 0 ≤ (I234 0 35).toInt ∧ (I234 0 35).toInt ≤ 500; exact k240)⟩, ⟨(by show 0 ≤ (I234 0 36).toInt ∧ (I234 0 36).toInt ≤ 4; exact k241), (by show 0 ≤ (I234 0 42).toInt ∧ (I234 0 42).toInt ≤ 1; exact k242)⟩, ⟨(by show 0 ≤ (I234 0 47).toInt ∧ (I234 0 47).toInt ≤ 119; exact hI234md.1), (by show 0 ≤ (I234 0 39).toInt ∧ (I234 0 39).toInt ≤ 100; exact hI234md.2)⟩, (by show 0 ≤ (I234 0 40).toInt ∧ (I234 0 40).toInt ≤ 6199; exact k243), (by show 0 ≤ (I234 0 15).toInt ∧ (I234 0 15).toInt ≤ 6100; exact k244), (z_Nd_fr a228 fI234 (by decide)), (by show 0 ≤ (I234 0 35).toInt ∧ (I234 0 35).toInt ≤ (I234 0 34).toInt ∧ (I234 0 34).toInt ≤ (I234 0 33).toInt ∧ (I234 0 33).toInt ≤ 500 ∧ ((I234 0 36).toInt = 0 ∨ (I234 0 35).toInt + 1 ≤ (I234 0 34).toInt); first | omega | decide), f235, ⟨((Classical.em ((I234 0 42).toInt = 0)).elim (fun hw9 => Or.inr ⟨a1.toNatClampNeg + 2, by have w1 := z_fw_1nm (a := va.toInt) (o := vo.toInt) (by omega) (by omega); have w2 := z_fo_1n (a := va.toInt); have w3 := z_fw_1np (a := va.toInt) (o := (I 0 40).toInt) (by omega) (by omega); have w4 := z_fo_1n (a := va.toInt); have w5 := z_fw_20 (a := 0) (o := -1) (by omega); have w6 := z_rk_1; have w7 := z_rk_2; exact z_PUSH (d := a1.toNatClampNeg) (w := 1) (a := va.toInt) (o := (I 0 40).toInt) (s := 4) (wi := 2) hPS (fun i hi => ⟨by rw [eI226, z_up_n (by decide), fI208 26 i (z_wr_c (by decide)), eI193, z_up_n (by decide)], by rw [eI226, z_up_n (by decide), fI208 27 i (z_wr_c (by decide)), eI193, z_up_n (by decide)], by rw [eI226, z_up_n (by decide), fI208 28 i (z_wr_c (by decide)), eI193, z_up_k (by omega)], by rw [eI226, z_up_k (by omega), fI208 29 i (z_wr_c (by decide)), eI193, z_up_n (by decide)]⟩) (by rw [show I226 26 a1.toNatClampNeg = vw from (by rw [eI226, z_up_n (by decide), fI208 26 a1.toNatClampNeg (z_wr_c (by decide)), eI193, z_up_n (by decide)]; exact evw.symm)]; exact hvw) (by rw [show I226 27 a1.toNatClampNeg = va from (by rw [eI226, z_up_n (by decide), fI208 27 a1.toNatClampNeg (z_wr_c (by decide)), eI193, z_up_n (by decide)]; exact eva.symm)]) (by rw [show I226 28 a1.toNatClampNeg = (I 0 40) from (by rw [eI226, z_up_n (by decide), fI208 28 a1.toNatClampNeg (z_wr_c (by decide)), eI193, z_up_s])]) (by rw [show I226 29 a1.toNatClampNeg = 4 from (by rw [eI226, z_up_s])]; exact z_l4) (by unfold z_fv; omega) hwd (by rw [eI226, z_up_n (by decide)]; omega) h254 z_l2 (by omega) (by omega) (by omega) (by omega) (by omega) (by omega) (by omega) (by omega)⟩) Or.inl), (by have hz9 : zp_st gt gv (n0 : Int) (.inr (tq, (1, fa, fx, fs) :: FS, fo, fg, NN)) = .inr (tq + 1, (2, 0, -1, 0) :: (1, fa, fg, 4) :: FS, fo, fg, NN) := (by first | (simp [zp_st, zp_op, zp_cm, zp_cb, (show ¬ fa = 0 by omega), (show fx < 0 by omega), ht203]; done) | (exfalso; omega)); rw [hz9]; exact hE255)⟩⟩
      · have z258 := z_l42
        have ht259 : ¬ gt (tq) = 42 := fun q => h200 (by have q9 := (zm_E_sg (show zp_sg 42 by unfold zp_sg; omega) hE196).mpr q; exact ⟨q9.1, by omega⟩)
        refine lv_if_eq (tgt := 119) hx hb dX12_sums_112 (by decide) (fun c260 => ?_) (fun c260 => absurd (by decide) c260)
        refine lv_aload_n hx hb dX12_sums_119 rfl (lv_at hl 0 rfl) ?_
        refine lv_bipush (v := 47) hx hb dX12_sums_120 (by decide) ?_
        refine z_ci hW hS hA (va_runV (As := [.int 47]) (rest := []) ⟨hx, hb, hml, hown, hts⟩ (sx_X12_isSign_x l G ad I193 J ⟨(by show 0 ≤ (I193 0 36).toInt ∧ (I193 0 36).toInt ≤ 4; rw [eI193, z_up_n (by decide)]; exact hmt.1), (by show 0 ≤ (I193 0 42).toInt ∧ (I193 0 42).toInt ≤ 1; rw [eI193, z_up_n (by decide)]; exact hmt.2)⟩ 47 _) (cwV 1 hts gX12_sums_X12_isSign rfl rfl rfl (by decide +kernel) ⟨Nat.le_of_ble_eq_true rfl, Nat.le_of_ble_eq_true rfl⟩) (z_preV (i := 0) hK hW rfl rfl) rfl rfl hl.1 rfl (lv_room (Nat.le_of_ble_eq_true rfl)) dX12_sums_122 ⟨Nat.le_of_ble_eq_true rfl, Nat.le_of_ble_eq_true rfl⟩) (fun r u1 H locs hp hW hS => ?_)
        obtain ⟨e9, hp⟩ := hp
        rw [e9] at hW
        rcases hp with ⟨rfl, h261, h262⟩ | ⟨rfl, h261⟩
        · have z263 := z_l47
          have ht264 : gt (tq) = 47 := (zm_E_sg (show zp_sg 47 by unfold zp_sg; omega) hE196).mp ⟨h261, by omega⟩
          have h265 := h261
          rw [show (I193 0 36) = (I 0 36) from by rw [eI193, z_up_n (by decide)]] at h265
          have h266 : (I 0 35).toInt + 1 ≤ (I 0 34).toInt := by omega
          refine lv_if_eq (tgt := 132) hx hb dX12_sums_125 (by decide) (fun c267 => absurd c267 (by decide)) (fun c267 => ?_)
          refine lv_iconst (v := 5) hx hb dX12_sums_128 (by decide) ?_
          refine lv_goto (tgt := 133) hx hb dX12_sums_129 (by decide) ?_
          refine lv_istore_n (lv' := [(3, .int 5), (0, .ref (ad 0)), (1, .int a1), (2, .int 0)]) hx hb dX12_sums_133 rfl hl (by decide) rfl (fun ls hl => ?_)
          refine lv_iload_n hx hb dX12_sums_134 rfl (lv_at hl 0 rfl) ?_
          refine lv_if_le (tgt := 165) hx hb dX12_sums_135 (by decide) (fun c268 => absurd c268 (by decide)) (fun c268 => ?_)
          refine lv_aload_n hx hb dX12_sums_138 rfl (lv_at hl 1 rfl) ?_
          refine z_cv hW hS hA (va_runV (As := []) (rest := []) ⟨hx, hb, hml, hown, hts⟩ (sx_X12_next_x l G ad I193 J ⟨(by show 0 ≤ (I193 0 31).toInt ∧ (I193 0 31).toInt ≤ 500; rw [eI193, z_up_n (by decide)]; exact hmp.1), (by show 0 ≤ (I193 0 33).toInt ∧ (I193 0 33).toInt ≤ 500; rw [eI193, z_up_n (by decide)]; exact hmp.2.1), (by show 0 ≤ (I193 0 34).toInt ∧ (I193 0 34).toInt ≤ 500; rw [eI193, z_up_n (by decide)]; exact hmp.2.2.1), (by show 0 ≤ (I193 0 35).toInt ∧ (I193 0 35).toInt ≤ 500; rw [eI193, z_up_n (by decide)]; exact hmp.2.2.2)⟩ ⟨(by show 0 ≤ (I193 0 36).toInt ∧ (I193 0 36).toInt ≤ 4; rw [eI193, z_up_n (by decide)]; exact hmt.1), (by show 0 ≤ (I193 0 42).toInt ∧ (I193 0 42).toInt ≤ 1; rw [eI193, z_up_n (by decide)]; exact hmt.2)⟩ (by have q0 : (I193 0 34) = (I 0 34) := (by rw [eI193, z_up_n (by decide)]); have q1 : (I193 0 33) = (I 0 33) := (by rw [eI193, z_up_n (by decide)]); show 0 ≤ (I193 0 34).toInt ∧ (I193 0 34).toInt ≤ (I193 0 33).toInt ∧ (I193 0 33).toInt ≤ 500; rw [q0, q1]; first | omega | decide)  _) (cwV 0 hts gX12_sums_X12_next rfl rfl rfl (by decide +kernel) ⟨Nat.le_of_ble_eq_true rfl, Nat.le_of_ble_eq_true rfl⟩) (z_preV (i := 0) hK hW rfl rfl) rfl rfl hl.1 rfl (lv_room (Nat.le_of_ble_eq_true rfl)) dX12_sums_139 ⟨Nat.le_of_ble_eq_true rfl, Nat.le_of_ble_eq_true rfl⟩) (fun u1 H locs hp hW hS => ?_)
          obtain ⟨I269, J271, e9, hI269mp, hI269mt, hI269rp, fI269, hp⟩ := hp
          rw [e9] at hW
          have f270 := z_fr_sub (L := L_X12_sums_0_x) f194 fI269 (by decide)
          have k272 : 0 ≤ (I269 0 47).toInt ∧ (I269 0 47).toInt ≤ 119 := by rw [fI269 0 47 (by decide)]; exact (by show 0 ≤ (I193 0 47).toInt ∧ (I193 0 47).toInt ≤ 119; rw [eI193, z_up_n (by decide)]; exact hmd.1)
          have k273 : 0 ≤ (I269 0 39).toInt ∧ (I269 0 39).toInt ≤ 100 := by rw [fI269 0 39 (by decide)]; exact (by show 0 ≤ (I193 0 39).toInt ∧ (I193 0 39).toInt ≤ 100; rw [eI193, z_up_n (by decide)]; exact hmd.2)
          have k274 : 0 ≤ (I269 0 40).toInt ∧ (I269 0 40).toInt ≤ 6199 := by rw [fI269 0 40 (by decide)]; exact (by show 0 ≤ (I193 0 40).toInt ∧ (I193 0 40).toInt ≤ 6199; rw [eI193, z_up_n (by decide)]; exact hmg)
          have k275 : 0 ≤ (I269 0 15).toInt ∧ (I269 0 15).toInt ≤ 6100 := by rw [fI269 0 15 (by decide)]; exact (by show 0 ≤ (I193 0 15).toInt ∧ (I193 0 15).toInt ≤ 6100; rw [eI193, z_up_n (by decide)]; exact hmn)
          have k276 : 0 ≤ (I269 0 35).toInt ∧ (I269 0 35).toInt ≤ (I269 0 34).toInt ∧ (I269 0 34).toInt ≤ (I269 0 33).toInt ∧ (I269 0 33).toInt ≤ 500 ∧ ((I269 0 36).toInt = 0 ∨ (I269 0 35).toInt + 1 ≤ (I269 0 34).toInt) := hI269rp
          have k277 : (I269 0 42).toInt = (I 0 42).toInt := by rw [fI269 0 42 (by decide), eI193, z_up_n (by decide)]
          have k278 : (I269 0 47).toInt = (I 0 47).toInt := by rw [fI269 0 47 (by decide), eI193, z_up_n (by decide)]
          have k279 : (I269 0 39).toInt = (I 0 39).toInt := by rw [fI269 0 39 (by decide), eI193, z_up_n (by decide)]
          have k280 : (I269 0 15).toInt = (I 0 15).toInt := by rw [fI269 0 15 (by decide), eI193, z_up_n (by decide)]
          have k281 : (I269 0 40).toInt = (I 0 40).toInt := by rw [fI269 0 40 (by decide), eI193, z_up_n (by decide)]
          obtain ⟨hp, hp282⟩ := hp
          have h283 := hp
          rw [show (I193 0 34) = (I 0 34) from by rw [eI193, z_up_n (by decide)]] at h283
          have hE284 : zm_E gt gv gp ge gh gm n0 gI I269 J271 (.inr (tq + 1, (1, fa, fg, fs) :: FS, fo, fg, NN)) := zm_E_next hSM hE196 (by omega) hp282 fI269 (by decide)
          have h285 := zm_E_W hE284
          have h286 := zm_E_D hE284
          refine lv_aload_n hx hb dX12_sums_142 rfl (lv_at hl 1 rfl) ?_
          refine z_get (T := TX12) (N := 96) (ci := 12) (i := 0) (v := .ref (ad 29)) hx hb hts zj_X12_sums_X12 hown hK hW rfl rfl 46 (by decide) (hts (.fieldLink RX12 100 "PetrolBoardModel" "sort" "[I") (me_s (me_l (me_l (List.mem_of_getElem? (i := 3) rfl))))) (fun _ h => h) rfl dX12_sums_143 ?_
          refine lv_iload_n hx hb dX12_sums_146 rfl (lv_at hl 2 rfl) ?_
          refine lv_iload_n hx hb dX12_sums_147 rfl (lv_at hl 0 rfl) ?_
          refine z_iast (i := 29) hx hb hK hW hS rfl (z_ix rfl (by omega) (by omega)) dX12_sums_148 (fun H locs hz1 hW hS => ?_)
          obtain ⟨I287, eI287⟩ : ∃ K : z_I, K = z_up I269 29 a1.toNatClampNeg 5 := ⟨_, rfl⟩
          rw [← eI287] at hW
          have f288 := z_fr_a f270 (show z_wa L_X12_sums_0_x 29 = true by decide) eI287
          have a289 := z_Nd_n (z_Nd_fr a195 fI269 (by decide)) (by decide) eI287
          have z290 := z_l5
          have hE291 : zm_E gt gv gp ge gh gm n0 gI I287 J271 (.inr (tq + 1, (1, fa, fg, 5) :: FS, fo, fg, NN)) := zm_E_top hE284 eI287 hdk (Or.inr (Or.inr ⟨rfl, by omega, rfl, rfl, rfl⟩))
          have h292 := zm_E_W hE291
          have h293 := zm_E_D hE291
          refine lv_aload_n hx hb dX12_sums_149 rfl (lv_at hl 1 rfl) ?_
          refine lv_iload_n hx hb dX12_sums_150 rfl (lv_at hl 3 rfl) ?_
          refine lv_if_eq (tgt := 158) hx hb dX12_sums_151 (by decide) (fun c294 => ?_) (fun c294 => absurd (by decide) c294)
          refine lv_iconst (v := 2) hx hb dX12_sums_158 (by decide) ?_
          refine z_cv hW hS hA (va_runV (As := [.int 2]) (rest := []) ⟨hx, hb, hml, hown, hts⟩ (sx_X12_begin_x l G ad I287 J271 ⟨(by show 0 ≤ (I287 0 47).toInt ∧ (I287 0 47).toInt ≤ 119; rw [eI287, z_up_n (by decide)]; exact k272), (by show 0 ≤ (I287 0 39).toInt ∧ (I287 0 39).toInt ≤ 100; rw [eI287, z_up_n (by decide)]; exact k273)⟩ 2 (by have q0 : (I287 0 47) = (I269 0 47) := (by rw [eI287, z_up_n (by decide)]); show (I287 0 47).toInt ≤ 118; rw [q0]; omega) _) (cwV 1 hts gX12_sums_X12_begin rfl rfl rfl (by decide +kernel) ⟨Nat.le_of_ble_eq_true rfl, Nat.le_of_ble_eq_true rfl⟩) (z_preV (i := 0) hK hW rfl rfl) rfl rfl hl.1 rfl (lv_room (Nat.le_of_ble_eq_true rfl)) dX12_sums_159 ⟨Nat.le_of_ble_eq_true rfl, Nat.le_of_ble_eq_true rfl⟩) (fun u1 H locs hp hW hS => ?_)
          obtain ⟨I295, J297, e9, hI295md, fI295, hp⟩ := hp
          rw [e9] at hW
          have f296 := z_fr_sub (L := L_X12_sums_0_x) f288 fI295 (by decide)
          have k298 : 0 ≤ (I295 0 31).toInt ∧ (I295 0 31).toInt ≤ 500 := by rw [fI295 0 31 (by decide)]; exact (by show 0 ≤ (I287 0 31).toInt ∧ (I287 0 31).toInt ≤ 500; rw [eI287, z_up_n (by decide)]; exact hI269mp.1)
          have k299 : 0 ≤ (I295 0 33).toInt ∧ (I295 0 33).toInt ≤ 500 := by rw [fI295 0 33 (by decide)]; exact (by show 0 ≤ (I287 0 33).toInt ∧ (I287 0 33).toInt ≤ 500; rw [eI287, z_up_n (by decide)]; exact hI269mp.2.1)
          have k300 : 0 ≤ (I295 0 34).toInt ∧ (I295 0 34).toInt ≤ 500 := by rw [fI295 0 34 (by decide)]; exact (by show 0 ≤ (I287 0 34).toInt ∧ (I287 0 34).toInt ≤ 500; rw [eI287, z_up_n (by decide)]; exact hI269mp.2.2.1)
          have k301 : 0 ≤ (I295 0 35).toInt ∧ (I295 0 35).toInt ≤ 500 := by rw [fI295 0 35 (by decide)]; exact (by show 0 ≤ (I287 0 35).toInt ∧ (I287 0 35).toInt ≤ 500; rw [eI287, z_up_n (by decide)]; exact hI269mp.2.2.2)
          have k302 : 0 ≤ (I295 0 36).toInt ∧ (I295 0 36).toInt ≤ 4 := by rw [fI295 0 36 (by decide)]; exact (by show 0 ≤ (I287 0 36).toInt ∧ (I287 0 36).toInt ≤ 4; rw [eI287, z_up_n (by decide)]; exact hI269mt.1)
          have k303 : 0 ≤ (I295 0 42).toInt ∧ (I295 0 42).toInt ≤ 1 := by rw [fI295 0 42 (by decide)]; exact (by show 0 ≤ (I287 0 42).toInt ∧ (I287 0 42).toInt ≤ 1; rw [eI287, z_up_n (by decide)]; exact hI269mt.2)
          have k304 : 0 ≤ (I295 0 40).toInt ∧ (I295 0 40).toInt ≤ 6199 := by rw [fI295 0 40 (by decide)]; exact (by show 0 ≤ (I287 0 40).toInt ∧ (I287 0 40).toInt ≤ 6199; rw [eI287, z_up_n (by decide)]; exact k274)
          have k305 : 0 ≤ (I295 0 15).toInt ∧ (I295 0 15).toInt ≤ 6100 := by rw [fI295 0 15 (by decide)]; exact (by show 0 ≤ (I287 0 15).toInt ∧ (I287 0 15).toInt ≤ 6100; rw [eI287, z_up_n (by decide)]; exact k275)
          have k306 : 0 ≤ (I295 0 35).toInt ∧ (I295 0 35).toInt ≤ (I295 0 34).toInt ∧ (I295 0 34).toInt ≤ (I295 0 33).toInt ∧ (I295 0 33).toInt ≤ 500 ∧ ((I295 0 36).toInt = 0 ∨ (I295 0 35).toInt + 1 ≤ (I295 0 34).toInt) := (by have q0 : (I295 0 35) = (I269 0 35) := (by rw [fI295 0 35 (by decide), eI287, z_up_n (by decide)]); have q1 : (I295 0 34) = (I269 0 34) := (by rw [fI295 0 34 (by decide), eI287, z_up_n (by decide)]); have q2 : (I295 0 33) = (I269 0 33) := (by rw [fI295 0 33 (by decide), eI287, z_up_n (by decide)]); have q3 : (I295 0 36) = (I269 0 36) := (by rw [fI295 0 36 (by decide), eI287, z_up_n (by decide)]); show 0 ≤ (I295 0 35).toInt ∧ (I295 0 35).toInt ≤ (I295 0 34).toInt ∧ (I295 0 34).toInt ≤ (I295 0 33).toInt ∧ (I295 0 33).toInt ≤ 500 ∧ ((I295 0 36).toInt = 0 ∨ (I295 0 35).toInt + 1 ≤ (I295 0 34).toInt); rw [q0, q1, q2, q3]; first | omega | decide)
          have k307 : (I295 0 35).toInt = (I269 0 35).toInt := by rw [fI295 0 35 (by decide), eI287, z_up_n (by decide)]
          have k308 : (I295 0 34).toInt = (I269 0 34).toInt := by rw [fI295 0 34 (by decide), eI287, z_up_n (by decide)]
          have k309 : (I295 0 36).toInt = (I269 0 36).toInt := by rw [fI295 0 36 (by decide), eI287, z_up_n (by decide)]
          have k310 : (I295 0 42).toInt = (I269 0 42).toInt := by rw [fI295 0 42 (by decide), eI287, z_up_n (by decide)]
          have k311 : (I295 0 39).toInt = (I269 0 39).toInt := by rw [fI295 0 39 (by decide), eI287, z_up_n (by decide)]
          have k312 : (I295 0 15).toInt = (I269 0 15).toInt := by rw [fI295 0 15 (by decide), eI287, z_up_n (by decide)]
          have k313 : (I295 0 40).toInt = (I269 0 40).toInt := by rw [fI295 0 40 (by decide), eI287, z_up_n (by decide)]
          obtain ⟨hp, hJ314⟩ := hp
          have h315 := hp
          have hE316 : zm_E gt gv gp ge gh gm n0 gI I295 J297 (.inr (tq + 1, (2, 0, -1, 0) :: (1, fa, fg, 5) :: FS, fo, fg, NN)) := zm_E_begin hE291 h315 z_l2 fI295 (by decide) hJ314
          have h317 := zm_E_W hE316
          have h318 := zm_E_D hE316
          refine lv_goto (tgt := 175) hx hb dX12_sums_162 (by decide) ?_
          exact z_vret hx hb hr hK hS (Nat.le_of_ble_eq_true rfl) (Nat.le_of_ble_eq_true rfl) hlocks dX12_sums_175 (shM, ad, I295, J297, PM ad) hW ⟨I295, J297, rfl, ⟨(by show 0 ≤ (I295 0 31).toInt ∧ (I295 0 31).toInt ≤ 500; exact k298), (by show 0 ≤ (I295 0 33).toInt ∧ (I295 0 33).toInt ≤ 500; exact k299), (by show 0 ≤ (I295 0 34).toInt ∧ (I295 0 34).toInt ≤ 500; exact k300), (by show 0 ≤ (I295 0 35).toInt ∧ (I295 0 35).toInt ≤ 500; exact k301)⟩, ⟨(by show 0 ≤ (I295 0 36).toInt ∧ (I295 0 36).toInt ≤ 4; exact k302), (by show 0 ≤ (I295 0 42).toInt ∧ (I295 0 42).toInt ≤ 1; exact k303)⟩, ⟨(by show 0 ≤ (I295 0 47).toInt ∧ (I295 0 47).toInt ≤ 119; exact hI295md.1), (by show 0 ≤ (I295 0 39).toInt ∧ (I295 0 39).toInt ≤ 100; exact hI295md.2)⟩, (by show 0 ≤ (I295 0 40).toInt ∧ (I295 0 40).toInt ≤ 6199; exact k304), (by show 0 ≤ (I295 0 15).toInt ∧ (I295 0 15).toInt ≤ 6100; exact k305), (z_Nd_fr a289 fI295 (by decide)), (by show 0 ≤ (I295 0 35).toInt ∧ (I295 0 35).toInt ≤ (I295 0 34).toInt ∧ (I295 0 34).toInt ≤ (I295 0 33).toInt ∧ (I295 0 33).toInt ≤ 500 ∧ ((I295 0 36).toInt = 0 ∨ (I295 0 35).toInt + 1 ≤ (I295 0 34).toInt); first | omega | decide), f296, ⟨((Classical.em ((I295 0 42).toInt = 0)).elim (fun hw9 => Or.inr ⟨a1.toNatClampNeg + 2, by have w1 := z_fw_1nm (a := va.toInt) (o := vo.toInt) (by omega) (by omega); have w2 := z_fo_1n (a := va.toInt); have w3 := z_fw_1np (a := va.toInt) (o := (I 0 40).toInt) (by omega) (by omega); have w4 := z_fo_1n (a := va.toInt); have w5 := z_fw_20 (a := 0) (o := -1) (by omega); have w6 := z_rk_1; have w7 := z_rk_2; exact z_PUSH (d := a1.toNatClampNeg) (w := 1) (a := va.toInt) (o := (I 0 40).toInt) (s := 5) (wi := 2) hPS (fun i hi => ⟨by rw [eI287, z_up_n (by decide), fI269 26 i (z_wr_c (by decide)), eI193, z_up_n (by decide)], by rw [eI287, z_up_n (by decide), fI269 27 i (z_wr_c (by decide)), eI193, z_up_n (by decide)], by rw [eI287, z_up_n (by decide), fI269 28 i (z_wr_c (by decide)), eI193, z_up_k (by omega)], by rw [eI287, z_up_k (by omega), fI269 29 i (z_wr_c (by decide)), eI193, z_up_n (by decide)]⟩) (by rw [show I287 26 a1.toNatClampNeg = vw from (by rw [eI287, z_up_n (by decide), fI269 26 a1.toNatClampNeg (z_wr_c (by decide)), eI193, z_up_n (by decide)]; exact evw.symm)]; exact hvw) (by rw [show I287 27 a1.toNatClampNeg = va from (by rw [eI287, z_up_n (by decide), fI269 27 a1.toNatClampNeg (z_wr_c (by decide)), eI193, z_up_n (by decide)]; exact eva.symm)]) (by rw [show I287 28 a1.toNatClampNeg = (I 0 40) from (by rw [eI287, z_up_n (by decide), fI269 28 a1.toNatClampNeg (z_wr_c (by decide)), eI193, z_up_s])]) (by rw [show I287 29 a1.toNatClampNeg = 5 from (by rw [eI287, z_up_s])]; exact z_l5) (by unfold z_fv; omega) hwd (by rw [eI287, z_up_n (by decide)]; omega) h315 z_l2 (by omega) (by omega) (by omega) (by omega) (by omega) (by omega) (by omega) (by omega)⟩) Or.inl), (by have hz9 : zp_st gt gv (n0 : Int) (.inr (tq, (1, fa, fx, fs) :: FS, fo, fg, NN)) = .inr (tq + 1, (2, 0, -1, 0) :: (1, fa, fg, 5) :: FS, fo, fg, NN) := (by first | (simp [zp_st, zp_op, zp_cm, zp_cb, (show ¬ fa = 0 by omega), (show fx < 0 by omega), ht259, ht264]; done) | (exfalso; omega)); rw [hz9]; exact hE316)⟩⟩
        · have z319 := z_l47
          have ht320 : ¬ gt (tq) = 47 := fun q => h261 (by have q9 := (zm_E_sg (show zp_sg 47 by unfold zp_sg; omega) hE196).mpr q; exact ⟨q9.1, by omega⟩)
          refine lv_if_eq (tgt := 132) hx hb dX12_sums_125 (by decide) (fun c321 => ?_) (fun c321 => absurd (by decide) c321)
          refine lv_iconst (v := 0) hx hb dX12_sums_132 (by decide) ?_
          refine lv_istore_n (lv' := [(3, .int 0), (0, .ref (ad 0)), (1, .int a1), (2, .int 0)]) hx hb dX12_sums_133 rfl hl (by decide) rfl (fun ls hl => ?_)
          refine lv_iload_n hx hb dX12_sums_134 rfl (lv_at hl 0 rfl) ?_
          refine lv_if_le (tgt := 165) hx hb dX12_sums_135 (by decide) (fun c322 => ?_) (fun c322 => absurd (by decide) c322)
          refine lv_aload_n hx hb dX12_sums_165 rfl (lv_at hl 1 rfl) ?_
          refine lv_aload_n hx hb dX12_sums_166 rfl (lv_at hl 1 rfl) ?_
          refine z_get (T := TX12) (N := 96) (ci := 12) (i := 0) (v := .ref (ad 28)) hx hb hts zj_X12_sums_X12 hown hK hW rfl rfl 45 (by decide) (hts (.fieldLink RX12 97 "PetrolBoardModel" "one" "[I") (me_s (me_l (me_l (List.mem_of_getElem? (i := 1) rfl))))) (fun _ h => h) rfl dX12_sums_167 ?_
          refine lv_iload_n hx hb dX12_sums_170 rfl (lv_at hl 2 rfl) ?_
          refine z_iald (i := 28) hx hb hK hW rfl (z_ix rfl (by omega) (by omega)) dX12_sums_171 ?_
          refine z_topi (v := (I 0 40)) (by rw [eI193, z_up_s]) ?_
          refine z_cv hW hS hA (va_runV (As := [.int (I 0 40)]) (rest := []) ⟨hx, hb, hml, hown, hts⟩ (sx_X12_ends_x l G ad I193 J ⟨(by show 0 ≤ (I193 0 47).toInt ∧ (I193 0 47).toInt ≤ 119; rw [eI193, z_up_n (by decide)]; exact hmd.1), (by show 0 ≤ (I193 0 39).toInt ∧ (I193 0 39).toInt ≤ 100; rw [eI193, z_up_n (by decide)]; exact hmd.2)⟩ (by show 0 ≤ (I193 0 40).toInt ∧ (I193 0 40).toInt ≤ 6199; rw [eI193, z_up_n (by decide)]; exact hmg) (I 0 40) (by first | omega | decide) (by have q0 : (I193 0 47) = (I 0 47) := (by rw [eI193, z_up_n (by decide)]); show 1 ≤ (I193 0 47).toInt; rw [q0]; omega) _) (cwV 1 hts gX12_sums_X12_ends rfl rfl rfl (by decide +kernel) ⟨Nat.le_of_ble_eq_true rfl, Nat.le_of_ble_eq_true rfl⟩) (z_preV (i := 0) hK hW rfl rfl) rfl rfl hl.1 rfl (lv_room (Nat.le_of_ble_eq_true rfl)) dX12_sums_172 ⟨Nat.le_of_ble_eq_true rfl, Nat.le_of_ble_eq_true rfl⟩) (fun u1 H locs hp hW hS => ?_)
          obtain ⟨I323, J325, e9, hI323md, hI323mg, fI323, hp⟩ := hp
          rw [e9] at hW
          have f324 := z_fr_sub (L := L_X12_sums_0_x) f194 fI323 (by decide)
          have k326 : 0 ≤ (I323 0 31).toInt ∧ (I323 0 31).toInt ≤ 500 := by rw [fI323 0 31 (by decide)]; exact (by show 0 ≤ (I193 0 31).toInt ∧ (I193 0 31).toInt ≤ 500; rw [eI193, z_up_n (by decide)]; exact hmp.1)
          have k327 : 0 ≤ (I323 0 33).toInt ∧ (I323 0 33).toInt ≤ 500 := by rw [fI323 0 33 (by decide)]; exact (by show 0 ≤ (I193 0 33).toInt ∧ (I193 0 33).toInt ≤ 500; rw [eI193, z_up_n (by decide)]; exact hmp.2.1)
          have k328 : 0 ≤ (I323 0 34).toInt ∧ (I323 0 34).toInt ≤ 500 := by rw [fI323 0 34 (by decide)]; exact (by show 0 ≤ (I193 0 34).toInt ∧ (I193 0 34).toInt ≤ 500; rw [eI193, z_up_n (by decide)]; exact hmp.2.2.1)
          have k329 : 0 ≤ (I323 0 35).toInt ∧ (I323 0 35).toInt ≤ 500 := by rw [fI323 0 35 (by decide)]; exact (by show 0 ≤ (I193 0 35).toInt ∧ (I193 0 35).toInt ≤ 500; rw [eI193, z_up_n (by decide)]; exact hmp.2.2.2)
          have k330 : 0 ≤ (I323 0 36).toInt ∧ (I323 0 36).toInt ≤ 4 := by rw [fI323 0 36 (by decide)]; exact (by show 0 ≤ (I193 0 36).toInt ∧ (I193 0 36).toInt ≤ 4; rw [eI193, z_up_n (by decide)]; exact hmt.1)
          have k331 : 0 ≤ (I323 0 42).toInt ∧ (I323 0 42).toInt ≤ 1 := by rw [fI323 0 42 (by decide)]; exact (by show 0 ≤ (I193 0 42).toInt ∧ (I193 0 42).toInt ≤ 1; rw [eI193, z_up_n (by decide)]; exact hmt.2)
          have k332 : 0 ≤ (I323 0 15).toInt ∧ (I323 0 15).toInt ≤ 6100 := by rw [fI323 0 15 (by decide)]; exact (by show 0 ≤ (I193 0 15).toInt ∧ (I193 0 15).toInt ≤ 6100; rw [eI193, z_up_n (by decide)]; exact hmn)
          have k333 : 0 ≤ (I323 0 35).toInt ∧ (I323 0 35).toInt ≤ (I323 0 34).toInt ∧ (I323 0 34).toInt ≤ (I323 0 33).toInt ∧ (I323 0 33).toInt ≤ 500 ∧ ((I323 0 36).toInt = 0 ∨ (I323 0 35).toInt + 1 ≤ (I323 0 34).toInt) := (by have q0 : (I323 0 35) = (I 0 35) := (by rw [fI323 0 35 (by decide), eI193, z_up_n (by decide)]); have q1 : (I323 0 34) = (I 0 34) := (by rw [fI323 0 34 (by decide), eI193, z_up_n (by decide)]); have q2 : (I323 0 33) = (I 0 33) := (by rw [fI323 0 33 (by decide), eI193, z_up_n (by decide)]); have q3 : (I323 0 36) = (I 0 36) := (by rw [fI323 0 36 (by decide), eI193, z_up_n (by decide)]); show 0 ≤ (I323 0 35).toInt ∧ (I323 0 35).toInt ≤ (I323 0 34).toInt ∧ (I323 0 34).toInt ≤ (I323 0 33).toInt ∧ (I323 0 33).toInt ≤ 500 ∧ ((I323 0 36).toInt = 0 ∨ (I323 0 35).toInt + 1 ≤ (I323 0 34).toInt); rw [q0, q1, q2, q3]; first | omega | decide)
          have k334 : (I323 0 35).toInt = (I 0 35).toInt := by rw [fI323 0 35 (by decide), eI193, z_up_n (by decide)]
          have k335 : (I323 0 34).toInt = (I 0 34).toInt := by rw [fI323 0 34 (by decide), eI193, z_up_n (by decide)]
          have k336 : (I323 0 36).toInt = (I 0 36).toInt := by rw [fI323 0 36 (by decide), eI193, z_up_n (by decide)]
          have k337 : (I323 0 42).toInt = (I 0 42).toInt := by rw [fI323 0 42 (by decide), eI193, z_up_n (by decide)]
          have k338 : (I323 0 39).toInt = (I 0 39).toInt := by rw [fI323 0 39 (by decide), eI193, z_up_n (by decide)]
          have k339 : (I323 0 15).toInt = (I 0 15).toInt := by rw [fI323 0 15 (by decide), eI193, z_up_n (by decide)]
          obtain ⟨hp, h340, hJ341⟩ := hp
          have h342 := hp
          have h343 := hp
          rw [show (I193 0 47) = (I 0 47) from by rw [eI193, z_up_n (by decide)]] at h343
          have hE344 : zm_E gt gv gp ge gh gm n0 gI I323 J325 (.inr (tq, FS, fo, fg, NN)) := zm_E_ends hE196 h342 h340 (by omega) fI323 (by decide) hJ341
          have h345 := zm_E_W hE344
          have h346 := zm_E_D hE344
          exact z_vret hx hb hr hK hS (Nat.le_of_ble_eq_true rfl) (Nat.le_of_ble_eq_true rfl) hlocks dX12_sums_175 (shM, ad, I323, J325, PM ad) hW ⟨I323, J325, rfl, ⟨(by show 0 ≤ (I323 0 31).toInt ∧ (I323 0 31).toInt ≤ 500; exact k326), (by show 0 ≤ (I323 0 33).toInt ∧ (I323 0 33).toInt ≤ 500; exact k327), (by show 0 ≤ (I323 0 34).toInt ∧ (I323 0 34).toInt ≤ 500; exact k328), (by show 0 ≤ (I323 0 35).toInt ∧ (I323 0 35).toInt ≤ 500; exact k329)⟩, ⟨(by show 0 ≤ (I323 0 36).toInt ∧ (I323 0 36).toInt ≤ 4; exact k330), (by show 0 ≤ (I323 0 42).toInt ∧ (I323 0 42).toInt ≤ 1; exact k331)⟩, ⟨(by show 0 ≤ (I323 0 47).toInt ∧ (I323 0 47).toInt ≤ 119; exact hI323md.1), (by show 0 ≤ (I323 0 39).toInt ∧ (I323 0 39).toInt ≤ 100; exact hI323md.2)⟩, (by show 0 ≤ (I323 0 40).toInt ∧ (I323 0 40).toInt ≤ 6199; exact hI323mg), (by show 0 ≤ (I323 0 15).toInt ∧ (I323 0 15).toInt ≤ 6100; exact k332), (z_Nd_fr a195 fI323 (by decide)), (by show 0 ≤ (I323 0 35).toInt ∧ (I323 0 35).toInt ≤ (I323 0 34).toInt ∧ (I323 0 34).toInt ≤ (I323 0 33).toInt ∧ (I323 0 33).toInt ≤ 500 ∧ ((I323 0 36).toInt = 0 ∨ (I323 0 35).toInt + 1 ≤ (I323 0 34).toInt); first | omega | decide), f324, ⟨((Classical.em ((I323 0 42).toInt = 0)).elim (fun hw9 => Or.inr ⟨a1.toNatClampNeg, by have w1 := z_fw_1nm (a := va.toInt) (o := vo.toInt) (by omega) (by omega); have w2 := z_fo_1n (a := va.toInt); exact z_POP (d := a1.toNatClampNeg) hPS (fun i hi => ⟨by rw [fI323 26 i (z_wr_c (by decide)), eI193, z_up_n (by decide)], by rw [fI323 27 i (z_wr_c (by decide)), eI193, z_up_n (by decide)], by rw [fI323 28 i (z_wr_c (by decide)), eI193, z_up_k (by omega)], by rw [fI323 29 i (z_wr_c (by decide)), eI193, z_up_n (by decide)]⟩) (by omega) (by omega) (by omega) (by omega) (by omega) (by omega)⟩) Or.inl), (by have hz9 : zp_st gt gv (n0 : Int) (.inr (tq, (1, fa, fx, fs) :: FS, fo, fg, NN)) = .inr (tq, FS, fo, fg, NN) := (by first | (simp [zp_st, zp_op, zp_cm, zp_cb, (show ¬ fa = 0 by omega), (show fx < 0 by omega), ht259, ht320]; done) | (exfalso; omega)); rw [hz9]; exact hE344)⟩⟩
  · have g347 := z_f_eq rfl z_l0 c1
    refine lv_aload_n hx hb dX12_sums_9 rfl (lv_at hl 0 rfl) ?_
    refine z_get (T := TX12) (N := 96) (ci := 12) (i := 0) (v := .ref (ad 27)) hx hb hts zj_X12_sums_X12 hown hK hW rfl rfl 44 (by decide) (hts (.fieldLink RX12 94 "PetrolBoardModel" "at" "[I") (me_s (me_l (me_l (List.mem_of_getElem? (i := 0) rfl))))) (fun _ h => h) rfl dX12_sums_10 ?_
    refine lv_iload_n hx hb dX12_sums_13 rfl (lv_at hl 1 rfl) ?_
    refine lv_iconst (v := 1) hx hb dX12_sums_14 (by decide) ?_
    refine z_iast (i := 27) hx hb hK hW hS rfl (z_ix rfl (by omega) (by omega)) dX12_sums_15 (fun H locs hz1 hW hS => ?_)
    obtain ⟨I348, eI348⟩ : ∃ K : z_I, K = z_up I 27 a1.toNatClampNeg 1 := ⟨_, rfl⟩
    rw [← eI348] at hW
    have f349 := z_fr_a z_fr_0 (show z_wa L_X12_sums_0_x 27 = true by decide) eI348
    have a350 := z_Nd_n hNd (by decide) eI348
    have z351 := z_l1
    have hE352 : zm_E gt gv gp ge gh gm n0 gI I348 J (.inr (tq, (1, 1, fx, fs) :: FS, fo, fg, NN)) := zm_E_top hE eI348 hdk (Or.inl ⟨rfl, by omega, rfl, rfl, rfl⟩)
    have h353 := zm_E_W hE352
    have h354 := zm_E_D hE352
    refine lv_aload_n hx hb dX12_sums_16 rfl (lv_at hl 0 rfl) ?_
    refine lv_iload_n hx hb dX12_sums_17 rfl (lv_at hl 2 rfl) ?_
    refine lv_if_eq (tgt := 25) hx hb dX12_sums_18 (by decide) (fun c355 => ?_) (fun c355 => absurd (by decide) c355)
    refine lv_iconst (v := 2) hx hb dX12_sums_25 (by decide) ?_
    refine z_cv hW hS hA (va_runV (As := [.int 2]) (rest := []) ⟨hx, hb, hml, hown, hts⟩ (sx_X12_begin_x l G ad I348 J ⟨(by show 0 ≤ (I348 0 47).toInt ∧ (I348 0 47).toInt ≤ 119; rw [eI348, z_up_n (by decide)]; exact hmd.1), (by show 0 ≤ (I348 0 39).toInt ∧ (I348 0 39).toInt ≤ 100; rw [eI348, z_up_n (by decide)]; exact hmd.2)⟩ 2 (by have q0 : (I348 0 47) = (I 0 47) := (by rw [eI348, z_up_n (by decide)]); show (I348 0 47).toInt ≤ 118; rw [q0]; omega) _) (cwV 1 hts gX12_sums_X12_begin rfl rfl rfl (by decide +kernel) ⟨Nat.le_of_ble_eq_true rfl, Nat.le_of_ble_eq_true rfl⟩) (z_preV (i := 0) hK hW rfl rfl) rfl rfl hl.1 rfl (lv_room (Nat.le_of_ble_eq_true rfl)) dX12_sums_26 ⟨Nat.le_of_ble_eq_true rfl, Nat.le_of_ble_eq_true rfl⟩) (fun u1 H locs hp hW hS => ?_)
    obtain ⟨I356, J358, e9, hI356md, fI356, hp⟩ := hp
    rw [e9] at hW
    have f357 := z_fr_sub (L := L_X12_sums_0_x) f349 fI356 (by decide)
    have k359 : 0 ≤ (I356 0 31).toInt ∧ (I356 0 31).toInt ≤ 500 := by rw [fI356 0 31 (by decide)]; exact (by show 0 ≤ (I348 0 31).toInt ∧ (I348 0 31).toInt ≤ 500; rw [eI348, z_up_n (by decide)]; exact hmp.1)
    have k360 : 0 ≤ (I356 0 33).toInt ∧ (I356 0 33).toInt ≤ 500 := by rw [fI356 0 33 (by decide)]; exact (by show 0 ≤ (I348 0 33).toInt ∧ (I348 0 33).toInt ≤ 500; rw [eI348, z_up_n (by decide)]; exact hmp.2.1)
    have k361 : 0 ≤ (I356 0 34).toInt ∧ (I356 0 34).toInt ≤ 500 := by rw [fI356 0 34 (by decide)]; exact (by show 0 ≤ (I348 0 34).toInt ∧ (I348 0 34).toInt ≤ 500; rw [eI348, z_up_n (by decide)]; exact hmp.2.2.1)
    have k362 : 0 ≤ (I356 0 35).toInt ∧ (I356 0 35).toInt ≤ 500 := by rw [fI356 0 35 (by decide)]; exact (by show 0 ≤ (I348 0 35).toInt ∧ (I348 0 35).toInt ≤ 500; rw [eI348, z_up_n (by decide)]; exact hmp.2.2.2)
    have k363 : 0 ≤ (I356 0 36).toInt ∧ (I356 0 36).toInt ≤ 4 := by rw [fI356 0 36 (by decide)]; exact (by show 0 ≤ (I348 0 36).toInt ∧ (I348 0 36).toInt ≤ 4; rw [eI348, z_up_n (by decide)]; exact hmt.1)
    have k364 : 0 ≤ (I356 0 42).toInt ∧ (I356 0 42).toInt ≤ 1 := by rw [fI356 0 42 (by decide)]; exact (by show 0 ≤ (I348 0 42).toInt ∧ (I348 0 42).toInt ≤ 1; rw [eI348, z_up_n (by decide)]; exact hmt.2)
    have k365 : 0 ≤ (I356 0 40).toInt ∧ (I356 0 40).toInt ≤ 6199 := by rw [fI356 0 40 (by decide)]; exact (by show 0 ≤ (I348 0 40).toInt ∧ (I348 0 40).toInt ≤ 6199; rw [eI348, z_up_n (by decide)]; exact hmg)
    have k366 : 0 ≤ (I356 0 15).toInt ∧ (I356 0 15).toInt ≤ 6100 := by rw [fI356 0 15 (by decide)]; exact (by show 0 ≤ (I348 0 15).toInt ∧ (I348 0 15).toInt ≤ 6100; rw [eI348, z_up_n (by decide)]; exact hmn)
    have k367 : 0 ≤ (I356 0 35).toInt ∧ (I356 0 35).toInt ≤ (I356 0 34).toInt ∧ (I356 0 34).toInt ≤ (I356 0 33).toInt ∧ (I356 0 33).toInt ≤ 500 ∧ ((I356 0 36).toInt = 0 ∨ (I356 0 35).toInt + 1 ≤ (I356 0 34).toInt) := (by have q0 : (I356 0 35) = (I 0 35) := (by rw [fI356 0 35 (by decide), eI348, z_up_n (by decide)]); have q1 : (I356 0 34) = (I 0 34) := (by rw [fI356 0 34 (by decide), eI348, z_up_n (by decide)]); have q2 : (I356 0 33) = (I 0 33) := (by rw [fI356 0 33 (by decide), eI348, z_up_n (by decide)]); have q3 : (I356 0 36) = (I 0 36) := (by rw [fI356 0 36 (by decide), eI348, z_up_n (by decide)]); show 0 ≤ (I356 0 35).toInt ∧ (I356 0 35).toInt ≤ (I356 0 34).toInt ∧ (I356 0 34).toInt ≤ (I356 0 33).toInt ∧ (I356 0 33).toInt ≤ 500 ∧ ((I356 0 36).toInt = 0 ∨ (I356 0 35).toInt + 1 ≤ (I356 0 34).toInt); rw [q0, q1, q2, q3]; first | omega | decide)
    have k368 : (I356 0 35).toInt = (I 0 35).toInt := by rw [fI356 0 35 (by decide), eI348, z_up_n (by decide)]
    have k369 : (I356 0 34).toInt = (I 0 34).toInt := by rw [fI356 0 34 (by decide), eI348, z_up_n (by decide)]
    have k370 : (I356 0 36).toInt = (I 0 36).toInt := by rw [fI356 0 36 (by decide), eI348, z_up_n (by decide)]
    have k371 : (I356 0 42).toInt = (I 0 42).toInt := by rw [fI356 0 42 (by decide), eI348, z_up_n (by decide)]
    have k372 : (I356 0 39).toInt = (I 0 39).toInt := by rw [fI356 0 39 (by decide), eI348, z_up_n (by decide)]
    have k373 : (I356 0 15).toInt = (I 0 15).toInt := by rw [fI356 0 15 (by decide), eI348, z_up_n (by decide)]
    have k374 : (I356 0 40).toInt = (I 0 40).toInt := by rw [fI356 0 40 (by decide), eI348, z_up_n (by decide)]
    obtain ⟨hp, hJ375⟩ := hp
    have h376 := hp
    have hE377 : zm_E gt gv gp ge gh gm n0 gI I356 J358 (.inr (tq, (2, 0, -1, 0) :: (1, 1, fx, fs) :: FS, fo, fg, NN)) := zm_E_begin hE352 h376 z_l2 fI356 (by decide) hJ375
    have h378 := zm_E_W hE377
    have h379 := zm_E_D hE377
    exact z_vret hx hb hr hK hS (Nat.le_of_ble_eq_true rfl) (Nat.le_of_ble_eq_true rfl) hlocks dX12_sums_29 (shM, ad, I356, J358, PM ad) hW ⟨I356, J358, rfl, ⟨(by show 0 ≤ (I356 0 31).toInt ∧ (I356 0 31).toInt ≤ 500; exact k359), (by show 0 ≤ (I356 0 33).toInt ∧ (I356 0 33).toInt ≤ 500; exact k360), (by show 0 ≤ (I356 0 34).toInt ∧ (I356 0 34).toInt ≤ 500; exact k361), (by show 0 ≤ (I356 0 35).toInt ∧ (I356 0 35).toInt ≤ 500; exact k362)⟩, ⟨(by show 0 ≤ (I356 0 36).toInt ∧ (I356 0 36).toInt ≤ 4; exact k363), (by show 0 ≤ (I356 0 42).toInt ∧ (I356 0 42).toInt ≤ 1; exact k364)⟩, ⟨(by show 0 ≤ (I356 0 47).toInt ∧ (I356 0 47).toInt ≤ 119; exact hI356md.1), (by show 0 ≤ (I356 0 39).toInt ∧ (I356 0 39).toInt ≤ 100; exact hI356md.2)⟩, (by show 0 ≤ (I356 0 40).toInt ∧ (I356 0 40).toInt ≤ 6199; exact k365), (by show 0 ≤ (I356 0 15).toInt ∧ (I356 0 15).toInt ≤ 6100; exact k366), (z_Nd_fr a350 fI356 (by decide)), (by show 0 ≤ (I356 0 35).toInt ∧ (I356 0 35).toInt ≤ (I356 0 34).toInt ∧ (I356 0 34).toInt ≤ (I356 0 33).toInt ∧ (I356 0 33).toInt ≤ 500 ∧ ((I356 0 36).toInt = 0 ∨ (I356 0 35).toInt + 1 ≤ (I356 0 34).toInt); first | omega | decide), f357, ⟨((Classical.em ((I356 0 42).toInt = 0)).elim (fun hw9 => Or.inr ⟨a1.toNatClampNeg + 2, by have w1 := z_fw_10 (a := va.toInt) (o := vo.toInt) (by omega); have w2 := z_fo_1n (a := va.toInt); have w3 := z_fw_1nm (a := 1) (o := vo.toInt) (by omega) (by omega); have w4 := z_fo_1n (a := 1); have w5 := z_fw_20 (a := 0) (o := -1) (by omega); have w6 := z_rk_1; have w7 := z_rk_2; exact z_PUSH (d := a1.toNatClampNeg) (w := 1) (a := 1) (o := vo.toInt) (s := vs.toInt) (wi := 2) hPS (fun i hi => ⟨by rw [eI348, z_up_n (by decide)], by rw [eI348, z_up_k (by omega)], by rw [eI348, z_up_n (by decide)], by rw [eI348, z_up_n (by decide)]⟩) (by rw [show I348 26 a1.toNatClampNeg = vw from (by rw [eI348, z_up_n (by decide)]; exact evw.symm)]; exact hvw) (by rw [show I348 27 a1.toNatClampNeg = 1 from (by rw [eI348, z_up_s])]; exact z_l1) (by rw [show I348 28 a1.toNatClampNeg = vo from (by rw [eI348, z_up_n (by decide)]; exact evo.symm)]) (by rw [show I348 29 a1.toNatClampNeg = vs from (by rw [eI348, z_up_n (by decide)]; exact evs.symm)]) (by unfold z_fv; omega) hwd (by rw [eI348, z_up_n (by decide)]; omega) h376 z_l2 (by omega) (by omega) (by omega) (by omega) (by omega) (by omega) (by omega) (by omega)⟩) Or.inl), (by have hz9 : zp_st gt gv (n0 : Int) (.inr (tq, (1, fa, fx, fs) :: FS, fo, fg, NN)) = .inr (tq, (2, 0, -1, 0) :: (1, 1, fx, fs) :: FS, fo, fg, NN) := (by first | (simp [zp_st, zp_op, zp_cm, zp_cb, (show fa = 0 by omega)]; done) | (exfalso; omega)); rw [hz9]; exact hE377)⟩⟩
