

noncomputable def L_X12_chain_1_x : z_L := [(0, 35), (0, 36), (0, 37), (0, 38), (0, 34), (0, 42), (0, 32), (0, 39), (21, 999), (22, 999), (23, 999), (0, 15), (26, 999), (27, 999), (28, 999), (29, 999), (0, 47), (0, 40)]
set_option maxHeartbeats 8000000 in
set_option maxRecDepth 100000 in
theorem sx_X12_chain_1_x (l : Launch) (G : z_G) (ad : Nat → Nat) (I : z_I) (J : z_J) (hmp : z_imp I) (hmt : z_imt I) (hmd : z_imd I) (hmg : z_img I) (hmn : z_imn I) (hNd : z_Nd I) (hrp : z_irp I) (B : Int) (gt gv : Nat → Int) (gp ge : Nat → Nat) (gh : Nat → Int) (gm n0 : Nat) (gI : z_I) (tq : Nat) (FS : List zp_F) (fa fx fs fo fg : Int) (NN : List zp_N) (a1 : Int32) (q1 : 0 ≤ a1.toInt ∧ a1.toInt ≤ 33) (hwd : (I 26 a1.toNatClampNeg).toInt = 3) (hPS : z_PS I (a1.toNatClampNeg + 1) B) (hE : zm_E gt gv gp ge gh gm n0 gI I J (.inr (tq, (3, fa, fx, fs) :: FS, fo, fg, NN))) (hdk : a1.toNatClampNeg = FS.length) (hSM : zp_SM gh gt gv gp ge gm) : z_Mv l yX12_chain wsX12_chain { frames := 3, cells := 0, slots := 0, locals := 55 } [.ref (ad 0), .int a1, .int 1] G (shM, ad, I, J, PM ad) (fun u1 => ∃ (I1 : z_I) (J1 : z_J), u1 = (shM, ad, I1, J1, PM ad) ∧ z_imp I1 ∧ z_imt I1 ∧ z_imd I1 ∧ z_img I1 ∧ z_imn I1 ∧ z_Nd I1 ∧ z_irp I1 ∧ z_fr L_X12_chain_1_x I1 I ∧ ((¬ (I1 0 42).toInt = 0 ∨ ∃ n, z_PS I1 n (B - 1)) ∧ zm_E gt gv gp ge gh gm n0 gI I1 J1 (zp_st gt gv (n0 : Int) (.inr (tq, (3, fa, fx, fs) :: FS, fo, fg, NN))))) 0 0 := by
  intro sz
  refine z_headQ (cc := cX12_chain) (maxL := 3) (ret := none) (by decide) rfl (Nat.le_of_ble_eq_true rfl) ?_
  intro p e s m below meth c0 ls hIn hK hsz hW hl
  obtain ⟨hx, hb, hr, hml, hown, hts, hlocks, hname⟩ := hIn
  subst hsz
  have hown : s.vm.findClass RX12 = some m.cls := hown
  have hA : ∀ q : Nat, s.heap.size ≤ q → z_A (shM, ad, I, J, PM ad) s.heap.size q := fun q h => Or.inr h
  generalize hAe : z_A (shM, ad, I, J, PM ad) s.heap.size = A at *
  have hS : va_S A s.heap s.heap [] := va_S.rf
  have hl : lv_has ls 3 [(0, .ref (ad 0)), (1, .int a1), (2, .int 1)] := hl
  obtain ⟨va, eva⟩ : ∃ y, y = I 27 a1.toNatClampNeg := ⟨_, rfl⟩
  obtain ⟨vo, evo⟩ : ∃ y, y = I 28 a1.toNatClampNeg := ⟨_, rfl⟩
  obtain ⟨vs, evs⟩ : ∃ y, y = I 29 a1.toNatClampNeg := ⟨_, rfl⟩
  have hT := z_top hPS
  unfold z_fv at hT
  rw [hwd, ← eva, ← evo, ← evs] at hT
  obtain ⟨t1, t2, t3, t4, t5, t6, t7, t8, t9, t10, t11, t12, t13, t14, t15, t16, t17, t18, t19, t20, t21⟩ := hT
  have hk9 := z_clt (x := a1) rfl q1.1
  have hcw := z_fwc_3 va.toInt vo.toInt
  have hcf := z_foc_3 va.toInt
  obtain ⟨vw, evw⟩ : ∃ y, y = I 26 a1.toNatClampNeg := ⟨_, rfl⟩
  have hvw : vw.toInt = 3 := by rw [evw]; exact hwd
  have hE1 := zm_E_W hE
  have hE2 := zm_E_D hE
  have hE4 := zm_E_nu hE
  have hE5 := zm_E_w1 hE
  have hE3 := zm_E_F hE
  rw [← hdk, ← eva, ← evo, ← evs] at hE3
  have krp : 0 ≤ (I 0 35).toInt ∧ (I 0 35).toInt ≤ (I 0 34).toInt ∧ (I 0 34).toInt ≤ (I 0 33).toInt ∧ (I 0 33).toInt ≤ 500 ∧ ((I 0 36).toInt = 0 ∨ (I 0 35).toInt + 1 ≤ (I 0 34).toInt) := hrp
  refine lv_aload_n hx hb dX12_chain_0 rfl (lv_at hl 0 rfl) ?_
  refine z_get (T := TX12) (N := 96) (ci := 12) (i := 0) (v := .ref (ad 27)) hx hb hts zj_X12_chain_X12 hown hK hW rfl rfl 44 (by decide) (hts (.fieldLink RX12 94 "PetrolBoardModel" "at" "[I") (me_s (me_l (me_l (List.mem_of_getElem? (i := 0) rfl))))) (fun _ h => h) rfl dX12_chain_1 ?_
  refine lv_iload_n hx hb dX12_chain_4 rfl (lv_at hl 1 rfl) ?_
  refine z_iald (i := 27) hx hb hK hW rfl (z_ix rfl (by omega) (by omega)) dX12_chain_5 ?_
  refine z_topi (v := va) eva.symm ?_
  refine lv_if_ne (tgt := 30) hx hb dX12_chain_6 (by decide) (fun c1 => ?_) (fun c1 => ?_)
  · have g2 := z_f_ne rfl z_l0 c1
    refine lv_aload_n hx hb dX12_chain_30 rfl (lv_at hl 0 rfl) ?_
    refine z_get (T := TX12) (N := 96) (ci := 12) (i := 0) (v := .ref (ad 28)) hx hb hts zj_X12_chain_X12 hown hK hW rfl rfl 45 (by decide) (hts (.fieldLink RX12 97 "PetrolBoardModel" "one" "[I") (me_s (me_l (me_l (List.mem_of_getElem? (i := 1) rfl))))) (fun _ h => h) rfl dX12_chain_31 ?_
    refine lv_iload_n hx hb dX12_chain_34 rfl (lv_at hl 1 rfl) ?_
    refine lv_aload_n hx hb dX12_chain_35 rfl (lv_at hl 0 rfl) ?_
    refine z_get (T := TX12) (N := 96) (ci := 12) (i := 0) (v := .ref (ad 28)) hx hb hts zj_X12_chain_X12 hown hK hW rfl rfl 45 (by decide) (hts (.fieldLink RX12 97 "PetrolBoardModel" "one" "[I") (me_s (me_l (me_l (List.mem_of_getElem? (i := 1) rfl))))) (fun _ h => h) rfl dX12_chain_36 ?_
    refine lv_iload_n hx hb dX12_chain_39 rfl (lv_at hl 1 rfl) ?_
    refine z_iald (i := 28) hx hb hK hW rfl (z_ix rfl (by omega) (by omega)) dX12_chain_40 ?_
    refine z_topi (v := vo) evo.symm ?_
    refine lv_if_ge (tgt := 51) hx hb dX12_chain_41 (by decide) (fun c3 => ?_) (fun c3 => ?_)
    · have g4 := z_f_ge rfl z_l0 c3
      refine lv_aload_n hx hb dX12_chain_51 rfl (lv_at hl 0 rfl) ?_
      refine lv_iload_n hx hb dX12_chain_52 rfl (lv_at hl 2 rfl) ?_
      refine lv_if_eq (tgt := 61) hx hb dX12_chain_53 (by decide) (fun c5 => absurd c5 (by decide)) (fun c5 => ?_)
      refine lv_bipush (v := 13) hx hb dX12_chain_56 (by decide) ?_
      refine lv_goto (tgt := 63) hx hb dX12_chain_58 (by decide) ?_
      refine lv_aload_n hx hb dX12_chain_63 rfl (lv_at hl 0 rfl) ?_
      refine z_get (T := TX12) (N := 96) (ci := 12) (i := 0) (v := .ref (ad 28)) hx hb hts zj_X12_chain_X12 hown hK hW rfl rfl 45 (by decide) (hts (.fieldLink RX12 97 "PetrolBoardModel" "one" "[I") (me_s (me_l (me_l (List.mem_of_getElem? (i := 1) rfl))))) (fun _ h => h) rfl dX12_chain_64 ?_
      refine lv_iload_n hx hb dX12_chain_67 rfl (lv_at hl 1 rfl) ?_
      refine z_iald (i := 28) hx hb hK hW rfl (z_ix rfl (by omega) (by omega)) dX12_chain_68 ?_
      refine z_topi (v := vo) evo.symm ?_
      refine lv_aload_n hx hb dX12_chain_69 rfl (lv_at hl 0 rfl) ?_
      have r6 : 0 ≤ (I 0 40).toInt ∧ (I 0 40).toInt ≤ 6199 := hmg
      refine z_get (T := TX12) (N := 96) (ci := 12) (i := 0) (v := .int (I 0 40)) hx hb hts zj_X12_chain_X12 hown hK hW rfl rfl 40 (by decide) (hts (.fieldLink RX12 343 "PetrolBoardModel" "got" "I") (me_s (me_l (me_l (List.mem_of_getElem? (i := 2) rfl))))) (fun _ h => h) rfl dX12_chain_70 ?_
      refine z_ci hW hS hA (va_runV (As := [.int 13, .int vo, .int (I 0 40)]) (rest := [.int a1, .ref (ad 28)]) ⟨hx, hb, hml, hown, hts⟩ (sx_X12_node_x l G ad I J (by show 0 ≤ (I 0 15).toInt ∧ (I 0 15).toInt ≤ 6100; exact hmn) hNd 13 vo (I 0 40) (by show (I 0 15).toInt ≤ 6099; omega) (by have := z_l13; first | omega | decide) (by have := z_l13; first | omega | decide) (by have := z_l13; first | omega | decide) _) (cwV 3 hts gX12_chain_X12_node rfl rfl rfl (by decide +kernel) ⟨Nat.le_of_ble_eq_true rfl, Nat.le_of_ble_eq_true rfl⟩) (z_preV (i := 0) hK hW rfl rfl) rfl rfl hl.1 rfl (lv_room (Nat.le_of_ble_eq_true rfl)) dX12_chain_73 ⟨Nat.le_of_ble_eq_true rfl, Nat.le_of_ble_eq_true rfl⟩) (fun r u1 H locs hp hW hS => ?_)
      obtain ⟨I7, J9, e9, hI7mn, hI7Nd, fI7, hp⟩ := hp
      rw [e9] at hW
      have f8 := z_fr_sub (L := L_X12_chain_1_x) z_fr_0 fI7 (by decide)
      have k10 : 0 ≤ (I7 0 31).toInt ∧ (I7 0 31).toInt ≤ 500 := by rw [fI7 0 31 (by decide)]; exact (by show 0 ≤ (I 0 31).toInt ∧ (I 0 31).toInt ≤ 500; exact hmp.1)
      have k11 : 0 ≤ (I7 0 33).toInt ∧ (I7 0 33).toInt ≤ 500 := by rw [fI7 0 33 (by decide)]; exact (by show 0 ≤ (I 0 33).toInt ∧ (I 0 33).toInt ≤ 500; exact hmp.2.1)
      have k12 : 0 ≤ (I7 0 34).toInt ∧ (I7 0 34).toInt ≤ 500 := by rw [fI7 0 34 (by decide)]; exact (by show 0 ≤ (I 0 34).toInt ∧ (I 0 34).toInt ≤ 500; exact hmp.2.2.1)
      have k13 : 0 ≤ (I7 0 35).toInt ∧ (I7 0 35).toInt ≤ 500 := by rw [fI7 0 35 (by decide)]; exact (by show 0 ≤ (I 0 35).toInt ∧ (I 0 35).toInt ≤ 500; exact hmp.2.2.2)
      have k14 : 0 ≤ (I7 0 36).toInt ∧ (I7 0 36).toInt ≤ 4 := by rw [fI7 0 36 (by decide)]; exact (by show 0 ≤ (I 0 36).toInt ∧ (I 0 36).toInt ≤ 4; exact hmt.1)
      have k15 : 0 ≤ (I7 0 42).toInt ∧ (I7 0 42).toInt ≤ 1 := by rw [fI7 0 42 (by decide)]; exact (by show 0 ≤ (I 0 42).toInt ∧ (I 0 42).toInt ≤ 1; exact hmt.2)
      have k16 : 0 ≤ (I7 0 47).toInt ∧ (I7 0 47).toInt ≤ 119 := by rw [fI7 0 47 (by decide)]; exact (by show 0 ≤ (I 0 47).toInt ∧ (I 0 47).toInt ≤ 119; exact hmd.1)
      have k17 : 0 ≤ (I7 0 39).toInt ∧ (I7 0 39).toInt ≤ 100 := by rw [fI7 0 39 (by decide)]; exact (by show 0 ≤ (I 0 39).toInt ∧ (I 0 39).toInt ≤ 100; exact hmd.2)
      have k18 : 0 ≤ (I7 0 40).toInt ∧ (I7 0 40).toInt ≤ 6199 := by rw [fI7 0 40 (by decide)]; exact (by show 0 ≤ (I 0 40).toInt ∧ (I 0 40).toInt ≤ 6199; exact hmg)
      have k19 : 0 ≤ (I7 0 35).toInt ∧ (I7 0 35).toInt ≤ (I7 0 34).toInt ∧ (I7 0 34).toInt ≤ (I7 0 33).toInt ∧ (I7 0 33).toInt ≤ 500 ∧ ((I7 0 36).toInt = 0 ∨ (I7 0 35).toInt + 1 ≤ (I7 0 34).toInt) := (by have q0 : (I7 0 35) = (I 0 35) := (by rw [fI7 0 35 (by decide)]); have q1 : (I7 0 34) = (I 0 34) := (by rw [fI7 0 34 (by decide)]); have q2 : (I7 0 33) = (I 0 33) := (by rw [fI7 0 33 (by decide)]); have q3 : (I7 0 36) = (I 0 36) := (by rw [fI7 0 36 (by decide)]); show 0 ≤ (I7 0 35).toInt ∧ (I7 0 35).toInt ≤ (I7 0 34).toInt ∧ (I7 0 34).toInt ≤ (I7 0 33).toInt ∧ (I7 0 33).toInt ≤ 500 ∧ ((I7 0 36).toInt = 0 ∨ (I7 0 35).toInt + 1 ≤ (I7 0 34).toInt); rw [q0, q1, q2, q3]; first | omega | decide)
      have k20 : (I7 0 35).toInt = (I 0 35).toInt := by rw [fI7 0 35 (by decide)]
      have k21 : (I7 0 34).toInt = (I 0 34).toInt := by rw [fI7 0 34 (by decide)]
      have k22 : (I7 0 36).toInt = (I 0 36).toInt := by rw [fI7 0 36 (by decide)]
      have k23 : (I7 0 42).toInt = (I 0 42).toInt := by rw [fI7 0 42 (by decide)]
      have k24 : (I7 0 47).toInt = (I 0 47).toInt := by rw [fI7 0 47 (by decide)]
      have k25 : (I7 0 39).toInt = (I 0 39).toInt := by rw [fI7 0 39 (by decide)]
      have k26 : (I7 0 40).toInt = (I 0 40).toInt := by rw [fI7 0 40 (by decide)]
      refine lv_topi (fun x31 ex31 => ?_)
      rw [← ex31] at hp
      obtain ⟨h27, h28, h29, hJ30⟩ := hp
      have h32 : 0 ≤ x31.toInt ∧ x31.toInt ≤ 6100 := (by have q9 : 0 ≤ (I 0 15).toInt ∧ (I 0 15).toInt ≤ 6100 := (by show 0 ≤ (I 0 15).toInt ∧ (I 0 15).toInt ≤ 6100; exact hmn); omega)
      have h33 := h27
      have h34 := h28
      have z35 := z_l13
      have hE36 : zm_E gt gv gp ge gh gm n0 gI I7 J9 (.inr (tq, (3, fa, fx, fs) :: FS, fo, fg, NN ++ [(13, fx, fg)])) := zm_E_node hE h29 (by omega) (by omega) (by omega) fI7 (by decide) hJ30
      have h37 := zm_E_W hE36
      have h38 := zm_E_D hE36
      refine z_iast (i := 28) hx hb hK hW hS rfl (z_ix rfl (by omega) (by omega)) dX12_chain_76 (fun H locs hz1 hW hS => ?_)
      obtain ⟨I39, eI39⟩ : ∃ K : z_I, K = z_up I7 28 a1.toNatClampNeg x31 := ⟨_, rfl⟩
      rw [← eI39] at hW
      have f40 := z_fr_a f8 (show z_wa L_X12_chain_1_x 28 = true by decide) eI39
      have a41 := z_Nd_n hI7Nd (by decide) eI39
      have hE42 : zm_E gt gv gp ge gh gm n0 gI I39 J9 (.inr (tq, (3, fa, ((n0 : Int) + ((NN).length : Int)), fs) :: FS, fo, fg, NN ++ [(13, fx, fg)])) := zm_E_top hE36 eI39 hdk (Or.inr (Or.inl ⟨rfl, by omega, rfl, rfl, rfl⟩))
      have h43 := zm_E_W hE42
      have h44 := zm_E_D hE42
      refine lv_aload_n hx hb dX12_chain_77 rfl (lv_at hl 0 rfl) ?_
      refine lv_iload_n hx hb dX12_chain_78 rfl (lv_at hl 2 rfl) ?_
      refine lv_if_eq (tgt := 88) hx hb dX12_chain_79 (by decide) (fun c45 => absurd c45 (by decide)) (fun c45 => ?_)
      refine lv_ldc2 (v := 423) hx hb hown (hts (.constantLong RX12 390 (423)) (me_s (me_l (me_l (List.mem_of_getElem? (i := 3) rfl))))) dX12_chain_82 ?_
      refine lv_goto (tgt := 91) hx hb dX12_chain_85 (by decide) ?_
      refine z_ci hW hS hA (va_runV (As := [.long 423]) (rest := []) ⟨hx, hb, hml, hown, hts⟩ (sx_X12_isWord_x l G ad I39 J9 ⟨(by show 0 ≤ (I39 0 36).toInt ∧ (I39 0 36).toInt ≤ 4; rw [eI39, z_up_n (by decide)]; exact k14), (by show 0 ≤ (I39 0 42).toInt ∧ (I39 0 42).toInt ≤ 1; rw [eI39, z_up_n (by decide)]; exact k15)⟩ 423 _) (cwV 1 hts gX12_chain_X12_isWord rfl rfl rfl (by decide +kernel) ⟨Nat.le_of_ble_eq_true rfl, Nat.le_of_ble_eq_true rfl⟩) (z_preV (i := 0) hK hW rfl rfl) rfl rfl hl.1 rfl (lv_room (Nat.le_of_ble_eq_true rfl)) dX12_chain_91 ⟨Nat.le_of_ble_eq_true rfl, Nat.le_of_ble_eq_true rfl⟩) (fun r u1 H locs hp hW hS => ?_)
      obtain ⟨e9, hp⟩ := hp
      rw [e9] at hW
      rcases hp with ⟨rfl, h46, h47⟩ | ⟨rfl, h46⟩
      · have ht48 : gt (tq) = 309 := (zm_E_wo (i := 9) (by decide) hE42).mp ⟨h46, h47.trans (show (423 : Int64).toInt = zp_K.getD 9 0 by decide)⟩
        have h49 := h46
        rw [show (I39 0 36) = (I7 0 36) from by rw [eI39, z_up_n (by decide)]] at h49
        have h50 : (I7 0 35).toInt + 1 ≤ (I7 0 34).toInt := by omega
        refine lv_if_eq (tgt := 117) hx hb dX12_chain_94 (by decide) (fun c51 => absurd c51 (by decide)) (fun c51 => ?_)
        refine lv_aload_n hx hb dX12_chain_97 rfl (lv_at hl 0 rfl) ?_
        refine z_cv hW hS hA (va_runV (As := []) (rest := []) ⟨hx, hb, hml, hown, hts⟩ (sx_X12_next_x l G ad I39 J9 ⟨(by show 0 ≤ (I39 0 31).toInt ∧ (I39 0 31).toInt ≤ 500; rw [eI39, z_up_n (by decide)]; exact k10), (by show 0 ≤ (I39 0 33).toInt ∧ (I39 0 33).toInt ≤ 500; rw [eI39, z_up_n (by decide)]; exact k11), (by show 0 ≤ (I39 0 34).toInt ∧ (I39 0 34).toInt ≤ 500; rw [eI39, z_up_n (by decide)]; exact k12), (by show 0 ≤ (I39 0 35).toInt ∧ (I39 0 35).toInt ≤ 500; rw [eI39, z_up_n (by decide)]; exact k13)⟩ ⟨(by show 0 ≤ (I39 0 36).toInt ∧ (I39 0 36).toInt ≤ 4; rw [eI39, z_up_n (by decide)]; exact k14), (by show 0 ≤ (I39 0 42).toInt ∧ (I39 0 42).toInt ≤ 1; rw [eI39, z_up_n (by decide)]; exact k15)⟩ (by have q0 : (I39 0 34) = (I7 0 34) := (by rw [eI39, z_up_n (by decide)]); have q1 : (I39 0 33) = (I7 0 33) := (by rw [eI39, z_up_n (by decide)]); show 0 ≤ (I39 0 34).toInt ∧ (I39 0 34).toInt ≤ (I39 0 33).toInt ∧ (I39 0 33).toInt ≤ 500; rw [q0, q1]; first | omega | decide)  _) (cwV 0 hts gX12_chain_X12_next rfl rfl rfl (by decide +kernel) ⟨Nat.le_of_ble_eq_true rfl, Nat.le_of_ble_eq_true rfl⟩) (z_preV (i := 0) hK hW rfl rfl) rfl rfl hl.1 rfl (lv_room (Nat.le_of_ble_eq_true rfl)) dX12_chain_98 ⟨Nat.le_of_ble_eq_true rfl, Nat.le_of_ble_eq_true rfl⟩) (fun u1 H locs hp hW hS => ?_)
        obtain ⟨I52, J54, e9, hI52mp, hI52mt, hI52rp, fI52, hp⟩ := hp
        rw [e9] at hW
        have f53 := z_fr_sub (L := L_X12_chain_1_x) f40 fI52 (by decide)
        have k55 : 0 ≤ (I52 0 47).toInt ∧ (I52 0 47).toInt ≤ 119 := by rw [fI52 0 47 (by decide)]; exact (by show 0 ≤ (I39 0 47).toInt ∧ (I39 0 47).toInt ≤ 119; rw [eI39, z_up_n (by decide)]; exact k16)
        have k56 : 0 ≤ (I52 0 39).toInt ∧ (I52 0 39).toInt ≤ 100 := by rw [fI52 0 39 (by decide)]; exact (by show 0 ≤ (I39 0 39).toInt ∧ (I39 0 39).toInt ≤ 100; rw [eI39, z_up_n (by decide)]; exact k17)
        have k57 : 0 ≤ (I52 0 40).toInt ∧ (I52 0 40).toInt ≤ 6199 := by rw [fI52 0 40 (by decide)]; exact (by show 0 ≤ (I39 0 40).toInt ∧ (I39 0 40).toInt ≤ 6199; rw [eI39, z_up_n (by decide)]; exact k18)
        have k58 : 0 ≤ (I52 0 15).toInt ∧ (I52 0 15).toInt ≤ 6100 := by rw [fI52 0 15 (by decide)]; exact (by show 0 ≤ (I39 0 15).toInt ∧ (I39 0 15).toInt ≤ 6100; rw [eI39, z_up_n (by decide)]; exact hI7mn)
        have k59 : 0 ≤ (I52 0 35).toInt ∧ (I52 0 35).toInt ≤ (I52 0 34).toInt ∧ (I52 0 34).toInt ≤ (I52 0 33).toInt ∧ (I52 0 33).toInt ≤ 500 ∧ ((I52 0 36).toInt = 0 ∨ (I52 0 35).toInt + 1 ≤ (I52 0 34).toInt) := hI52rp
        have k60 : (I52 0 42).toInt = (I7 0 42).toInt := by rw [fI52 0 42 (by decide), eI39, z_up_n (by decide)]
        have k61 : (I52 0 47).toInt = (I7 0 47).toInt := by rw [fI52 0 47 (by decide), eI39, z_up_n (by decide)]
        have k62 : (I52 0 39).toInt = (I7 0 39).toInt := by rw [fI52 0 39 (by decide), eI39, z_up_n (by decide)]
        have k63 : (I52 0 15).toInt = (I7 0 15).toInt := by rw [fI52 0 15 (by decide), eI39, z_up_n (by decide)]
        have k64 : (I52 0 40).toInt = (I7 0 40).toInt := by rw [fI52 0 40 (by decide), eI39, z_up_n (by decide)]
        obtain ⟨hp, hp65⟩ := hp
        have h66 := hp
        rw [show (I39 0 34) = (I7 0 34) from by rw [eI39, z_up_n (by decide)]] at h66
        have hE67 : zm_E gt gv gp ge gh gm n0 gI I52 J54 (.inr (tq + 1, (3, fa, ((n0 : Int) + ((NN).length : Int)), fs) :: FS, fo, fg, NN ++ [(13, fx, fg)])) := zm_E_next hSM hE42 (by omega) hp65 fI52 (by decide)
        have h68 := zm_E_W hE67
        have h69 := zm_E_D hE67
        refine lv_aload_n hx hb dX12_chain_101 rfl (lv_at hl 0 rfl) ?_
        refine lv_iload_n hx hb dX12_chain_102 rfl (lv_at hl 2 rfl) ?_
        refine lv_if_eq (tgt := 110) hx hb dX12_chain_103 (by decide) (fun c70 => absurd c70 (by decide)) (fun c70 => ?_)
        refine lv_iconst (v := 4) hx hb dX12_chain_106 (by decide) ?_
        refine lv_goto (tgt := 111) hx hb dX12_chain_107 (by decide) ?_
        refine z_cv hW hS hA (va_runV (As := [.int 4]) (rest := []) ⟨hx, hb, hml, hown, hts⟩ (sx_X12_begin_x l G ad I52 J54 ⟨(by show 0 ≤ (I52 0 47).toInt ∧ (I52 0 47).toInt ≤ 119; exact k55), (by show 0 ≤ (I52 0 39).toInt ∧ (I52 0 39).toInt ≤ 100; exact k56)⟩ 4 (by show (I52 0 47).toInt ≤ 118; omega) _) (cwV 1 hts gX12_chain_X12_begin rfl rfl rfl (by decide +kernel) ⟨Nat.le_of_ble_eq_true rfl, Nat.le_of_ble_eq_true rfl⟩) (z_preV (i := 0) hK hW rfl rfl) rfl rfl hl.1 rfl (lv_room (Nat.le_of_ble_eq_true rfl)) dX12_chain_111 ⟨Nat.le_of_ble_eq_true rfl, Nat.le_of_ble_eq_true rfl⟩) (fun u1 H locs hp hW hS => ?_)
        obtain ⟨I71, J73, e9, hI71md, fI71, hp⟩ := hp
        rw [e9] at hW
        have f72 := z_fr_sub (L := L_X12_chain_1_x) f53 fI71 (by decide)
        have k74 : 0 ≤ (I71 0 31).toInt ∧ (I71 0 31).toInt ≤ 500 := by rw [fI71 0 31 (by decide)]; exact (by show 0 ≤ (I52 0 31).toInt ∧ (I52 0 31).toInt ≤ 500; exact hI52mp.1)
        have k75 : 0 ≤ (I71 0 33).toInt ∧ (I71 0 33).toInt ≤ 500 := by rw [fI71 0 33 (by decide)]; exact (by show 0 ≤ (I52 0 33).toInt ∧ (I52 0 33).toInt ≤ 500; exact hI52mp.2.1)
        have k76 : 0 ≤ (I71 0 34).toInt ∧ (I71 0 34).toInt ≤ 500 := by rw [fI71 0 34 (by decide)]; exact (by show 0 ≤ (I52 0 34).toInt ∧ (I52 0 34).toInt ≤ 500; exact hI52mp.2.2.1)
        have k77 : 0 ≤ (I71 0 35).toInt ∧ (I71 0 35).toInt ≤ 500 := by rw [fI71 0 35 (by decide)]; exact (by show 0 ≤ (I52 0 35).toInt ∧ (I52 0 35).toInt ≤ 500; exact hI52mp.2.2.2)
        have k78 : 0 ≤ (I71 0 36).toInt ∧ (I71 0 36).toInt ≤ 4 := by rw [fI71 0 36 (by decide)]; exact (by show 0 ≤ (I52 0 36).toInt ∧ (I52 0 36).toInt ≤ 4; exact hI52mt.1)
        have k79 : 0 ≤ (I71 0 42).toInt ∧ (I71 0 42).toInt ≤ 1 := by rw [fI71 0 42 (by decide)]; exact (by show 0 ≤ (I52 0 42).toInt ∧ (I52 0 42).toInt ≤ 1; exact hI52mt.2)
        have k80 : 0 ≤ (I71 0 40).toInt ∧ (I71 0 40).toInt ≤ 6199 := by rw [fI71 0 40 (by decide)]; exact (by show 0 ≤ (I52 0 40).toInt ∧ (I52 0 40).toInt ≤ 6199; exact k57)
        have k81 : 0 ≤ (I71 0 15).toInt ∧ (I71 0 15).toInt ≤ 6100 := by rw [fI71 0 15 (by decide)]; exact (by show 0 ≤ (I52 0 15).toInt ∧ (I52 0 15).toInt ≤ 6100; exact k58)
        have k82 : 0 ≤ (I71 0 35).toInt ∧ (I71 0 35).toInt ≤ (I71 0 34).toInt ∧ (I71 0 34).toInt ≤ (I71 0 33).toInt ∧ (I71 0 33).toInt ≤ 500 ∧ ((I71 0 36).toInt = 0 ∨ (I71 0 35).toInt + 1 ≤ (I71 0 34).toInt) := (by have q0 : (I71 0 35) = (I52 0 35) := (by rw [fI71 0 35 (by decide)]); have q1 : (I71 0 34) = (I52 0 34) := (by rw [fI71 0 34 (by decide)]); have q2 : (I71 0 33) = (I52 0 33) := (by rw [fI71 0 33 (by decide)]); have q3 : (I71 0 36) = (I52 0 36) := (by rw [fI71 0 36 (by decide)]); show 0 ≤ (I71 0 35).toInt ∧ (I71 0 35).toInt ≤ (I71 0 34).toInt ∧ (I71 0 34).toInt ≤ (I71 0 33).toInt ∧ (I71 0 33).toInt ≤ 500 ∧ ((I71 0 36).toInt = 0 ∨ (I71 0 35).toInt + 1 ≤ (I71 0 34).toInt); rw [q0, q1, q2, q3]; first | omega | decide)
        have k83 : (I71 0 35).toInt = (I52 0 35).toInt := by rw [fI71 0 35 (by decide)]
        have k84 : (I71 0 34).toInt = (I52 0 34).toInt := by rw [fI71 0 34 (by decide)]
        have k85 : (I71 0 36).toInt = (I52 0 36).toInt := by rw [fI71 0 36 (by decide)]
        have k86 : (I71 0 42).toInt = (I52 0 42).toInt := by rw [fI71 0 42 (by decide)]
        have k87 : (I71 0 39).toInt = (I52 0 39).toInt := by rw [fI71 0 39 (by decide)]
        have k88 : (I71 0 15).toInt = (I52 0 15).toInt := by rw [fI71 0 15 (by decide)]
        have k89 : (I71 0 40).toInt = (I52 0 40).toInt := by rw [fI71 0 40 (by decide)]
        obtain ⟨hp, hJ90⟩ := hp
        have h91 := hp
        have hE92 : zm_E gt gv gp ge gh gm n0 gI I71 J73 (.inr (tq + 1, (4, 0, -1, 0) :: (3, fa, ((n0 : Int) + ((NN).length : Int)), fs) :: FS, fo, fg, NN ++ [(13, fx, fg)])) := zm_E_begin hE67 h91 z_l4 fI71 (by decide) hJ90
        have h93 := zm_E_W hE92
        have h94 := zm_E_D hE92
        refine lv_goto (tgt := 127) hx hb dX12_chain_114 (by decide) ?_
        exact z_vret hx hb hr hK hS (Nat.le_of_ble_eq_true rfl) (Nat.le_of_ble_eq_true rfl) hlocks dX12_chain_127 (shM, ad, I71, J73, PM ad) hW ⟨I71, J73, rfl, ⟨(by show 0 ≤ (I71 0 31).toInt ∧ (I71 0 31).toInt ≤ 500; exact k74), (by show 0 ≤ (I71 0 33).toInt ∧ (I71 0 33).toInt ≤ 500; exact k75), (by show 0 ≤ (I71 0 34).toInt ∧ (I71 0 34).toInt ≤ 500; exact k76), (by show 0 ≤ (I71 0 35).toInt ∧ (I71 0 35).toInt ≤ 500; exact k77)⟩, ⟨(by show 0 ≤ (I71 0 36).toInt ∧ (I71 0 36).toInt ≤ 4; exact k78), (by show 0 ≤ (I71 0 42).toInt ∧ (I71 0 42).toInt ≤ 1; exact k79)⟩, ⟨(by show 0 ≤ (I71 0 47).toInt ∧ (I71 0 47).toInt ≤ 119; exact hI71md.1), (by show 0 ≤ (I71 0 39).toInt ∧ (I71 0 39).toInt ≤ 100; exact hI71md.2)⟩, (by show 0 ≤ (I71 0 40).toInt ∧ (I71 0 40).toInt ≤ 6199; exact k80), (by show 0 ≤ (I71 0 15).toInt ∧ (I71 0 15).toInt ≤ 6100; exact k81), (z_Nd_fr (z_Nd_fr a41 fI52 (by decide)) fI71 (by decide)), (by show 0 ≤ (I71 0 35).toInt ∧ (I71 0 35).toInt ≤ (I71 0 34).toInt ∧ (I71 0 34).toInt ≤ (I71 0 33).toInt ∧ (I71 0 33).toInt ≤ 500 ∧ ((I71 0 36).toInt = 0 ∨ (I71 0 35).toInt + 1 ≤ (I71 0 34).toInt); first | omega | decide), f72, ⟨((Classical.em ((I71 0 42).toInt = 0)).elim (fun hw9 => Or.inr ⟨a1.toNatClampNeg + 2, by have w1 := z_fw_3np (a := va.toInt) (o := vo.toInt) (by omega) (by omega); have w2 := z_fo_3n (a := va.toInt); have w3 := z_fw_3np (a := va.toInt) (o := x31.toInt) (by omega) (by omega); have w4 := z_fo_3n (a := va.toInt); have w5 := z_fw_40 (a := 0) (o := -1) (by omega); have w6 := z_rk_3; have w7 := z_rk_4; exact z_PUSH (d := a1.toNatClampNeg) (w := 3) (a := va.toInt) (o := x31.toInt) (s := vs.toInt) (wi := 4) hPS (fun i hi => ⟨by rw [fI52 26 i (z_wr_c (by decide)), eI39, z_up_n (by decide), fI7 26 i (z_wr_c (by decide))], by rw [fI52 27 i (z_wr_c (by decide)), eI39, z_up_n (by decide), fI7 27 i (z_wr_c (by decide))], by rw [fI52 28 i (z_wr_c (by decide)), eI39, z_up_k (by omega), fI7 28 i (z_wr_c (by decide))], by rw [fI52 29 i (z_wr_c (by decide)), eI39, z_up_n (by decide), fI7 29 i (z_wr_c (by decide))]⟩) (by rw [show I52 26 a1.toNatClampNeg = vw from (by rw [fI52 26 a1.toNatClampNeg (z_wr_c (by decide)), eI39, z_up_n (by decide), fI7 26 a1.toNatClampNeg (z_wr_c (by decide))]; exact evw.symm)]; exact hvw) (by rw [show I52 27 a1.toNatClampNeg = va from (by rw [fI52 27 a1.toNatClampNeg (z_wr_c (by decide)), eI39, z_up_n (by decide), fI7 27 a1.toNatClampNeg (z_wr_c (by decide))]; exact eva.symm)]) (by rw [show I52 28 a1.toNatClampNeg = x31 from (by rw [fI52 28 a1.toNatClampNeg (z_wr_c (by decide)), eI39, z_up_s])]) (by rw [show I52 29 a1.toNatClampNeg = vs from (by rw [fI52 29 a1.toNatClampNeg (z_wr_c (by decide)), eI39, z_up_n (by decide), fI7 29 a1.toNatClampNeg (z_wr_c (by decide))]; exact evs.symm)]) (by unfold z_fv; omega) hwd (by omega) h91 z_l4 (by omega) (by omega) (by omega) (by omega) (by omega) (by omega) (by omega) (by omega)⟩) Or.inl), (by have hz9 : zp_st gt gv (n0 : Int) (.inr (tq, (3, fa, fx, fs) :: FS, fo, fg, NN)) = .inr (tq + 1, (4, 0, -1, 0) :: (3, fa, ((n0 : Int) + ((NN).length : Int)), fs) :: FS, fo, fg, NN ++ [(13, fx, fg)]) := (by first | (simp [zp_st, zp_op, zp_cm, zp_cb, (show ¬ fa = 0 by omega), (show ¬ fx < 0 by omega), ht48]; done) | (exfalso; omega)); rw [hz9]; exact hE92)⟩⟩
      · have ht95 : ¬ gt (tq) = 309 := fun q => h46 (by have q9 := (zm_E_wo (i := 9) (by decide) hE42).mpr q; exact ⟨q9.1, q9.2.trans (show (423 : Int64).toInt = zp_K.getD 9 0 by decide).symm⟩)
        refine lv_if_eq (tgt := 117) hx hb dX12_chain_94 (by decide) (fun c96 => ?_) (fun c96 => absurd (by decide) c96)
        refine lv_aload_n hx hb dX12_chain_117 rfl (lv_at hl 0 rfl) ?_
        refine lv_aload_n hx hb dX12_chain_118 rfl (lv_at hl 0 rfl) ?_
        refine z_get (T := TX12) (N := 96) (ci := 12) (i := 0) (v := .ref (ad 28)) hx hb hts zj_X12_chain_X12 hown hK hW rfl rfl 45 (by decide) (hts (.fieldLink RX12 97 "PetrolBoardModel" "one" "[I") (me_s (me_l (me_l (List.mem_of_getElem? (i := 1) rfl))))) (fun _ h => h) rfl dX12_chain_119 ?_
        refine lv_iload_n hx hb dX12_chain_122 rfl (lv_at hl 1 rfl) ?_
        refine z_iald (i := 28) hx hb hK hW rfl (z_ix rfl (by omega) (by omega)) dX12_chain_123 ?_
        refine z_topi (v := x31) (by rw [eI39, z_up_s]) ?_
        refine z_cv hW hS hA (va_runV (As := [.int x31]) (rest := []) ⟨hx, hb, hml, hown, hts⟩ (sx_X12_ends_x l G ad I39 J9 ⟨(by show 0 ≤ (I39 0 47).toInt ∧ (I39 0 47).toInt ≤ 119; rw [eI39, z_up_n (by decide)]; exact k16), (by show 0 ≤ (I39 0 39).toInt ∧ (I39 0 39).toInt ≤ 100; rw [eI39, z_up_n (by decide)]; exact k17)⟩ (by show 0 ≤ (I39 0 40).toInt ∧ (I39 0 40).toInt ≤ 6199; rw [eI39, z_up_n (by decide)]; exact k18) x31 (by first | omega | decide) (by have q0 : (I39 0 47) = (I7 0 47) := (by rw [eI39, z_up_n (by decide)]); show 1 ≤ (I39 0 47).toInt; rw [q0]; omega) _) (cwV 1 hts gX12_chain_X12_ends rfl rfl rfl (by decide +kernel) ⟨Nat.le_of_ble_eq_true rfl, Nat.le_of_ble_eq_true rfl⟩) (z_preV (i := 0) hK hW rfl rfl) rfl rfl hl.1 rfl (lv_room (Nat.le_of_ble_eq_true rfl)) dX12_chain_124 ⟨Nat.le_of_ble_eq_true rfl, Nat.le_of_ble_eq_true rfl⟩) (fun u1 H locs hp hW hS => ?_)
        obtain ⟨I97, J99, e9, hI97md, hI97mg, fI97, hp⟩ := hp
        rw [e9] at hW
        have f98 := z_fr_sub (L := L_X12_chain_1_x) f40 fI97 (by decide)
        have k100 : 0 ≤ (I97 0 31).toInt ∧ (I97 0 31).toInt ≤ 500 := by rw [fI97 0 31 (by decide)]; exact (by show 0 ≤ (I39 0 31).toInt ∧ (I39 0 31).toInt ≤ 500; rw [eI39, z_up_n (by decide)]; exact k10)
        have k101 : 0 ≤ (I97 0 33).toInt ∧ (I97 0 33).toInt ≤ 500 := by rw [fI97 0 33 (by decide)]; exact (by show 0 ≤ (I39 0 33).toInt ∧ (I39 0 33).toInt ≤ 500; rw [eI39, z_up_n (by decide)]; exact k11)
        have k102 : 0 ≤ (I97 0 34).toInt ∧ (I97 0 34).toInt ≤ 500 := by rw [fI97 0 34 (by decide)]; exact (by show 0 ≤ (I39 0 34).toInt ∧ (I39 0 34).toInt ≤ 500; rw [eI39, z_up_n (by decide)]; exact k12)
        have k103 : 0 ≤ (I97 0 35).toInt ∧ (I97 0 35).toInt ≤ 500 := by rw [fI97 0 35 (by decide)]; exact (by show 0 ≤ (I39 0 35).toInt ∧ (I39 0 35).toInt ≤ 500; rw [eI39, z_up_n (by decide)]; exact k13)
        have k104 : 0 ≤ (I97 0 36).toInt ∧ (I97 0 36).toInt ≤ 4 := by rw [fI97 0 36 (by decide)]; exact (by show 0 ≤ (I39 0 36).toInt ∧ (I39 0 36).toInt ≤ 4; rw [eI39, z_up_n (by decide)]; exact k14)
        have k105 : 0 ≤ (I97 0 42).toInt ∧ (I97 0 42).toInt ≤ 1 := by rw [fI97 0 42 (by decide)]; exact (by show 0 ≤ (I39 0 42).toInt ∧ (I39 0 42).toInt ≤ 1; rw [eI39, z_up_n (by decide)]; exact k15)
        have k106 : 0 ≤ (I97 0 15).toInt ∧ (I97 0 15).toInt ≤ 6100 := by rw [fI97 0 15 (by decide)]; exact (by show 0 ≤ (I39 0 15).toInt ∧ (I39 0 15).toInt ≤ 6100; rw [eI39, z_up_n (by decide)]; exact hI7mn)
        have k107 : 0 ≤ (I97 0 35).toInt ∧ (I97 0 35).toInt ≤ (I97 0 34).toInt ∧ (I97 0 34).toInt ≤ (I97 0 33).toInt ∧ (I97 0 33).toInt ≤ 500 ∧ ((I97 0 36).toInt = 0 ∨ (I97 0 35).toInt + 1 ≤ (I97 0 34).toInt) := (by have q0 : (I97 0 35) = (I7 0 35) := (by rw [fI97 0 35 (by decide), eI39, z_up_n (by decide)]); have q1 : (I97 0 34) = (I7 0 34) := (by rw [fI97 0 34 (by decide), eI39, z_up_n (by decide)]); have q2 : (I97 0 33) = (I7 0 33) := (by rw [fI97 0 33 (by decide), eI39, z_up_n (by decide)]); have q3 : (I97 0 36) = (I7 0 36) := (by rw [fI97 0 36 (by decide), eI39, z_up_n (by decide)]); show 0 ≤ (I97 0 35).toInt ∧ (I97 0 35).toInt ≤ (I97 0 34).toInt ∧ (I97 0 34).toInt ≤ (I97 0 33).toInt ∧ (I97 0 33).toInt ≤ 500 ∧ ((I97 0 36).toInt = 0 ∨ (I97 0 35).toInt + 1 ≤ (I97 0 34).toInt); rw [q0, q1, q2, q3]; first | omega | decide)
        have k108 : (I97 0 35).toInt = (I7 0 35).toInt := by rw [fI97 0 35 (by decide), eI39, z_up_n (by decide)]
        have k109 : (I97 0 34).toInt = (I7 0 34).toInt := by rw [fI97 0 34 (by decide), eI39, z_up_n (by decide)]
        have k110 : (I97 0 36).toInt = (I7 0 36).toInt := by rw [fI97 0 36 (by decide), eI39, z_up_n (by decide)]
        have k111 : (I97 0 42).toInt = (I7 0 42).toInt := by rw [fI97 0 42 (by decide), eI39, z_up_n (by decide)]
        have k112 : (I97 0 39).toInt = (I7 0 39).toInt := by rw [fI97 0 39 (by decide), eI39, z_up_n (by decide)]
        have k113 : (I97 0 15).toInt = (I7 0 15).toInt := by rw [fI97 0 15 (by decide), eI39, z_up_n (by decide)]
        obtain ⟨hp, h114, hJ115⟩ := hp
        have h116 := hp
        have h117 := hp
        rw [show (I39 0 47) = (I7 0 47) from by rw [eI39, z_up_n (by decide)]] at h117
        have hE118 : zm_E gt gv gp ge gh gm n0 gI I97 J99 (.inr (tq, FS, fo, ((n0 : Int) + ((NN).length : Int)), NN ++ [(13, fx, fg)])) := zm_E_ends hE42 h116 h114 (by omega) fI97 (by decide) hJ115
        have h119 := zm_E_W hE118
        have h120 := zm_E_D hE118
        exact z_vret hx hb hr hK hS (Nat.le_of_ble_eq_true rfl) (Nat.le_of_ble_eq_true rfl) hlocks dX12_chain_127 (shM, ad, I97, J99, PM ad) hW ⟨I97, J99, rfl, ⟨(by show 0 ≤ (I97 0 31).toInt ∧ (I97 0 31).toInt ≤ 500; exact k100), (by show 0 ≤ (I97 0 33).toInt ∧ (I97 0 33).toInt ≤ 500; exact k101), (by show 0 ≤ (I97 0 34).toInt ∧ (I97 0 34).toInt ≤ 500; exact k102), (by show 0 ≤ (I97 0 35).toInt ∧ (I97 0 35).toInt ≤ 500; exact k103)⟩, ⟨(by show 0 ≤ (I97 0 36).toInt ∧ (I97 0 36).toInt ≤ 4; exact k104), (by show 0 ≤ (I97 0 42).toInt ∧ (I97 0 42).toInt ≤ 1; exact k105)⟩, ⟨(by show 0 ≤ (I97 0 47).toInt ∧ (I97 0 47).toInt ≤ 119; exact hI97md.1), (by show 0 ≤ (I97 0 39).toInt ∧ (I97 0 39).toInt ≤ 100; exact hI97md.2)⟩, (by show 0 ≤ (I97 0 40).toInt ∧ (I97 0 40).toInt ≤ 6199; exact hI97mg), (by show 0 ≤ (I97 0 15).toInt ∧ (I97 0 15).toInt ≤ 6100; exact k106), (z_Nd_fr a41 fI97 (by decide)), (by show 0 ≤ (I97 0 35).toInt ∧ (I97 0 35).toInt ≤ (I97 0 34).toInt ∧ (I97 0 34).toInt ≤ (I97 0 33).toInt ∧ (I97 0 33).toInt ≤ 500 ∧ ((I97 0 36).toInt = 0 ∨ (I97 0 35).toInt + 1 ≤ (I97 0 34).toInt); first | omega | decide), f98, ⟨((Classical.em ((I97 0 42).toInt = 0)).elim (fun hw9 => Or.inr ⟨a1.toNatClampNeg, by have w1 := z_fw_3np (a := va.toInt) (o := vo.toInt) (by omega) (by omega); have w2 := z_fo_3n (a := va.toInt); exact z_POP (d := a1.toNatClampNeg) hPS (fun i hi => ⟨by rw [fI97 26 i (z_wr_c (by decide)), eI39, z_up_n (by decide), fI7 26 i (z_wr_c (by decide))], by rw [fI97 27 i (z_wr_c (by decide)), eI39, z_up_n (by decide), fI7 27 i (z_wr_c (by decide))], by rw [fI97 28 i (z_wr_c (by decide)), eI39, z_up_k (by omega), fI7 28 i (z_wr_c (by decide))], by rw [fI97 29 i (z_wr_c (by decide)), eI39, z_up_n (by decide), fI7 29 i (z_wr_c (by decide))]⟩) (by omega) (by omega) (by omega) (by omega) (by omega) (by omega)⟩) Or.inl), (by have hz9 : zp_st gt gv (n0 : Int) (.inr (tq, (3, fa, fx, fs) :: FS, fo, fg, NN)) = .inr (tq, FS, fo, ((n0 : Int) + ((NN).length : Int)), NN ++ [(13, fx, fg)]) := (by first | (simp [zp_st, zp_op, zp_cm, zp_cb, (show ¬ fa = 0 by omega), (show ¬ fx < 0 by omega), ht95]; done) | (exfalso; omega)); rw [hz9]; exact hE118)⟩⟩
    · have g121 := z_f_nge rfl z_l0 c3
      refine lv_aload_n hx hb dX12_chain_44 rfl (lv_at hl 0 rfl) ?_
      have r122 : 0 ≤ (I 0 40).toInt ∧ (I 0 40).toInt ≤ 6199 := hmg
      refine z_get (T := TX12) (N := 96) (ci := 12) (i := 0) (v := .int (I 0 40)) hx hb hts zj_X12_chain_X12 hown hK hW rfl rfl 40 (by decide) (hts (.fieldLink RX12 343 "PetrolBoardModel" "got" "I") (me_s (me_l (me_l (List.mem_of_getElem? (i := 2) rfl))))) (fun _ h => h) rfl dX12_chain_45 ?_
      refine lv_goto (tgt := 76) hx hb dX12_chain_48 (by decide) ?_
      refine z_iast (i := 28) hx hb hK hW hS rfl (z_ix rfl (by omega) (by omega)) dX12_chain_76 (fun H locs hz1 hW hS => ?_)
      obtain ⟨I123, eI123⟩ : ∃ K : z_I, K = z_up I 28 a1.toNatClampNeg (I 0 40) := ⟨_, rfl⟩
      rw [← eI123] at hW
      have f124 := z_fr_a z_fr_0 (show z_wa L_X12_chain_1_x 28 = true by decide) eI123
      have a125 := z_Nd_n hNd (by decide) eI123
      have hE126 : zm_E gt gv gp ge gh gm n0 gI I123 J (.inr (tq, (3, fa, fg, fs) :: FS, fo, fg, NN)) := zm_E_top hE eI123 hdk (Or.inr (Or.inl ⟨rfl, by omega, rfl, rfl, rfl⟩))
      have h127 := zm_E_W hE126
      have h128 := zm_E_D hE126
      refine lv_aload_n hx hb dX12_chain_77 rfl (lv_at hl 0 rfl) ?_
      refine lv_iload_n hx hb dX12_chain_78 rfl (lv_at hl 2 rfl) ?_
      refine lv_if_eq (tgt := 88) hx hb dX12_chain_79 (by decide) (fun c129 => absurd c129 (by decide)) (fun c129 => ?_)
      refine lv_ldc2 (v := 423) hx hb hown (hts (.constantLong RX12 390 (423)) (me_s (me_l (me_l (List.mem_of_getElem? (i := 3) rfl))))) dX12_chain_82 ?_
      refine lv_goto (tgt := 91) hx hb dX12_chain_85 (by decide) ?_
      refine z_ci hW hS hA (va_runV (As := [.long 423]) (rest := []) ⟨hx, hb, hml, hown, hts⟩ (sx_X12_isWord_x l G ad I123 J ⟨(by show 0 ≤ (I123 0 36).toInt ∧ (I123 0 36).toInt ≤ 4; rw [eI123, z_up_n (by decide)]; exact hmt.1), (by show 0 ≤ (I123 0 42).toInt ∧ (I123 0 42).toInt ≤ 1; rw [eI123, z_up_n (by decide)]; exact hmt.2)⟩ 423 _) (cwV 1 hts gX12_chain_X12_isWord rfl rfl rfl (by decide +kernel) ⟨Nat.le_of_ble_eq_true rfl, Nat.le_of_ble_eq_true rfl⟩) (z_preV (i := 0) hK hW rfl rfl) rfl rfl hl.1 rfl (lv_room (Nat.le_of_ble_eq_true rfl)) dX12_chain_91 ⟨Nat.le_of_ble_eq_true rfl, Nat.le_of_ble_eq_true rfl⟩) (fun r u1 H locs hp hW hS => ?_)
      obtain ⟨e9, hp⟩ := hp
      rw [e9] at hW
      rcases hp with ⟨rfl, h130, h131⟩ | ⟨rfl, h130⟩
      · have ht132 : gt (tq) = 309 := (zm_E_wo (i := 9) (by decide) hE126).mp ⟨h130, h131.trans (show (423 : Int64).toInt = zp_K.getD 9 0 by decide)⟩
        have h133 := h130
        rw [show (I123 0 36) = (I 0 36) from by rw [eI123, z_up_n (by decide)]] at h133
        have h134 : (I 0 35).toInt + 1 ≤ (I 0 34).toInt := by omega
        refine lv_if_eq (tgt := 117) hx hb dX12_chain_94 (by decide) (fun c135 => absurd c135 (by decide)) (fun c135 => ?_)
        refine lv_aload_n hx hb dX12_chain_97 rfl (lv_at hl 0 rfl) ?_
        refine z_cv hW hS hA (va_runV (As := []) (rest := []) ⟨hx, hb, hml, hown, hts⟩ (sx_X12_next_x l G ad I123 J ⟨(by show 0 ≤ (I123 0 31).toInt ∧ (I123 0 31).toInt ≤ 500; rw [eI123, z_up_n (by decide)]; exact hmp.1), (by show 0 ≤ (I123 0 33).toInt ∧ (I123 0 33).toInt ≤ 500; rw [eI123, z_up_n (by decide)]; exact hmp.2.1), (by show 0 ≤ (I123 0 34).toInt ∧ (I123 0 34).toInt ≤ 500; rw [eI123, z_up_n (by decide)]; exact hmp.2.2.1), (by show 0 ≤ (I123 0 35).toInt ∧ (I123 0 35).toInt ≤ 500; rw [eI123, z_up_n (by decide)]; exact hmp.2.2.2)⟩ ⟨(by show 0 ≤ (I123 0 36).toInt ∧ (I123 0 36).toInt ≤ 4; rw [eI123, z_up_n (by decide)]; exact hmt.1), (by show 0 ≤ (I123 0 42).toInt ∧ (I123 0 42).toInt ≤ 1; rw [eI123, z_up_n (by decide)]; exact hmt.2)⟩ (by have q0 : (I123 0 34) = (I 0 34) := (by rw [eI123, z_up_n (by decide)]); have q1 : (I123 0 33) = (I 0 33) := (by rw [eI123, z_up_n (by decide)]); show 0 ≤ (I123 0 34).toInt ∧ (I123 0 34).toInt ≤ (I123 0 33).toInt ∧ (I123 0 33).toInt ≤ 500; rw [q0, q1]; first | omega | decide)  _) (cwV 0 hts gX12_chain_X12_next rfl rfl rfl (by decide +kernel) ⟨Nat.le_of_ble_eq_true rfl, Nat.le_of_ble_eq_true rfl⟩) (z_preV (i := 0) hK hW rfl rfl) rfl rfl hl.1 rfl (lv_room (Nat.le_of_ble_eq_true rfl)) dX12_chain_98 ⟨Nat.le_of_ble_eq_true rfl, Nat.le_of_ble_eq_true rfl⟩) (fun u1 H locs hp hW hS => ?_)
        obtain ⟨I136, J138, e9, hI136mp, hI136mt, hI136rp, fI136, hp⟩ := hp
        rw [e9] at hW
        have f137 := z_fr_sub (L := L_X12_chain_1_x) f124 fI136 (by decide)
        have k139 : 0 ≤ (I136 0 47).toInt ∧ (I136 0 47).toInt ≤ 119 := by rw [fI136 0 47 (by decide)]; exact (by show 0 ≤ (I123 0 47).toInt ∧ (I123 0 47).toInt ≤ 119; rw [eI123, z_up_n (by decide)]; exact hmd.1)
        have k140 : 0 ≤ (I136 0 39).toInt ∧ (I136 0 39).toInt ≤ 100 := by rw [fI136 0 39 (by decide)]; exact (by show 0 ≤ (I123 0 39).toInt ∧ (I123 0 39).toInt ≤ 100; rw [eI123, z_up_n (by decide)]; exact hmd.2)
        have k141 : 0 ≤ (I136 0 40).toInt ∧ (I136 0 40).toInt ≤ 6199 := by rw [fI136 0 40 (by decide)]; exact (by show 0 ≤ (I123 0 40).toInt ∧ (I123 0 40).toInt ≤ 6199; rw [eI123, z_up_n (by decide)]; exact hmg)
        have k142 : 0 ≤ (I136 0 15).toInt ∧ (I136 0 15).toInt ≤ 6100 := by rw [fI136 0 15 (by decide)]; exact (by show 0 ≤ (I123 0 15).toInt ∧ (I123 0 15).toInt ≤ 6100; rw [eI123, z_up_n (by decide)]; exact hmn)
        have k143 : 0 ≤ (I136 0 35).toInt ∧ (I136 0 35).toInt ≤ (I136 0 34).toInt ∧ (I136 0 34).toInt ≤ (I136 0 33).toInt ∧ (I136 0 33).toInt ≤ 500 ∧ ((I136 0 36).toInt = 0 ∨ (I136 0 35).toInt + 1 ≤ (I136 0 34).toInt) := hI136rp
        have k144 : (I136 0 42).toInt = (I 0 42).toInt := by rw [fI136 0 42 (by decide), eI123, z_up_n (by decide)]
        have k145 : (I136 0 47).toInt = (I 0 47).toInt := by rw [fI136 0 47 (by decide), eI123, z_up_n (by decide)]
        have k146 : (I136 0 39).toInt = (I 0 39).toInt := by rw [fI136 0 39 (by decide), eI123, z_up_n (by decide)]
        have k147 : (I136 0 15).toInt = (I 0 15).toInt := by rw [fI136 0 15 (by decide), eI123, z_up_n (by decide)]
        have k148 : (I136 0 40).toInt = (I 0 40).toInt := by rw [fI136 0 40 (by decide), eI123, z_up_n (by decide)]
        obtain ⟨hp, hp149⟩ := hp
        have h150 := hp
        rw [show (I123 0 34) = (I 0 34) from by rw [eI123, z_up_n (by decide)]] at h150
        have hE151 : zm_E gt gv gp ge gh gm n0 gI I136 J138 (.inr (tq + 1, (3, fa, fg, fs) :: FS, fo, fg, NN)) := zm_E_next hSM hE126 (by omega) hp149 fI136 (by decide)
        have h152 := zm_E_W hE151
        have h153 := zm_E_D hE151
        refine lv_aload_n hx hb dX12_chain_101 rfl (lv_at hl 0 rfl) ?_
        refine lv_iload_n hx hb dX12_chain_102 rfl (lv_at hl 2 rfl) ?_
        refine lv_if_eq (tgt := 110) hx hb dX12_chain_103 (by decide) (fun c154 => absurd c154 (by decide)) (fun c154 => ?_)
        refine lv_iconst (v := 4) hx hb dX12_chain_106 (by decide) ?_
        refine lv_goto (tgt := 111) hx hb dX12_chain_107 (by decide) ?_
        refine z_cv hW hS hA (va_runV (As := [.int 4]) (rest := []) ⟨hx, hb, hml, hown, hts⟩ (sx_X12_begin_x l G ad I136 J138 ⟨(by show 0 ≤ (I136 0 47).toInt ∧ (I136 0 47).toInt ≤ 119; exact k139), (by show 0 ≤ (I136 0 39).toInt ∧ (I136 0 39).toInt ≤ 100; exact k140)⟩ 4 (by show (I136 0 47).toInt ≤ 118; omega) _) (cwV 1 hts gX12_chain_X12_begin rfl rfl rfl (by decide +kernel) ⟨Nat.le_of_ble_eq_true rfl, Nat.le_of_ble_eq_true rfl⟩) (z_preV (i := 0) hK hW rfl rfl) rfl rfl hl.1 rfl (lv_room (Nat.le_of_ble_eq_true rfl)) dX12_chain_111 ⟨Nat.le_of_ble_eq_true rfl, Nat.le_of_ble_eq_true rfl⟩) (fun u1 H locs hp hW hS => ?_)
        obtain ⟨I155, J157, e9, hI155md, fI155, hp⟩ := hp
        rw [e9] at hW
        have f156 := z_fr_sub (L := L_X12_chain_1_x) f137 fI155 (by decide)
        have k158 : 0 ≤ (I155 0 31).toInt ∧ (I155 0 31).toInt ≤ 500 := by rw [fI155 0 31 (by decide)]; exact (by show 0 ≤ (I136 0 31).toInt ∧ (I136 0 31).toInt ≤ 500; exact hI136mp.1)
        have k159 : 0 ≤ (I155 0 33).toInt ∧ (I155 0 33).toInt ≤ 500 := by rw [fI155 0 33 (by decide)]; exact (by show 0 ≤ (I136 0 33).toInt ∧ (I136 0 33).toInt ≤ 500; exact hI136mp.2.1)
        have k160 : 0 ≤ (I155 0 34).toInt ∧ (I155 0 34).toInt ≤ 500 := by rw [fI155 0 34 (by decide)]; exact (by show 0 ≤ (I136 0 34).toInt ∧ (I136 0 34).toInt ≤ 500; exact hI136mp.2.2.1)
        have k161 : 0 ≤ (I155 0 35).toInt ∧ (I155 0 35).toInt ≤ 500 := by rw [fI155 0 35 (by decide)]; exact (by show 0 ≤ (I136 0 35).toInt ∧ (I136 0 35).toInt ≤ 500; exact hI136mp.2.2.2)
        have k162 : 0 ≤ (I155 0 36).toInt ∧ (I155 0 36).toInt ≤ 4 := by rw [fI155 0 36 (by decide)]; exact (by show 0 ≤ (I136 0 36).toInt ∧ (I136 0 36).toInt ≤ 4; exact hI136mt.1)
        have k163 : 0 ≤ (I155 0 42).toInt ∧ (I155 0 42).toInt ≤ 1 := by rw [fI155 0 42 (by decide)]; exact (by show 0 ≤ (I136 0 42).toInt ∧ (I136 0 42).toInt ≤ 1; exact hI136mt.2)
        have k164 : 0 ≤ (I155 0 40).toInt ∧ (I155 0 40).toInt ≤ 6199 := by rw [fI155 0 40 (by decide)]; exact (by show 0 ≤ (I136 0 40).toInt ∧ (I136 0 40).toInt ≤ 6199; exact k141)
        have k165 : 0 ≤ (I155 0 15).toInt ∧ (I155 0 15).toInt ≤ 6100 := by rw [fI155 0 15 (by decide)]; exact (by show 0 ≤ (I136 0 15).toInt ∧ (I136 0 15).toInt ≤ 6100; exact k142)
        have k166 : 0 ≤ (I155 0 35).toInt ∧ (I155 0 35).toInt ≤ (I155 0 34).toInt ∧ (I155 0 34).toInt ≤ (I155 0 33).toInt ∧ (I155 0 33).toInt ≤ 500 ∧ ((I155 0 36).toInt = 0 ∨ (I155 0 35).toInt + 1 ≤ (I155 0 34).toInt) := (by have q0 : (I155 0 35) = (I136 0 35) := (by rw [fI155 0 35 (by decide)]); have q1 : (I155 0 34) = (I136 0 34) := (by rw [fI155 0 34 (by decide)]); have q2 : (I155 0 33) = (I136 0 33) := (by rw [fI155 0 33 (by decide)]); have q3 : (I155 0 36) = (I136 0 36) := (by rw [fI155 0 36 (by decide)]); show 0 ≤ (I155 0 35).toInt ∧ (I155 0 35).toInt ≤ (I155 0 34).toInt ∧ (I155 0 34).toInt ≤ (I155 0 33).toInt ∧ (I155 0 33).toInt ≤ 500 ∧ ((I155 0 36).toInt = 0 ∨ (I155 0 35).toInt + 1 ≤ (I155 0 34).toInt); rw [q0, q1, q2, q3]; first | omega | decide)
        have k167 : (I155 0 35).toInt = (I136 0 35).toInt := by rw [fI155 0 35 (by decide)]
        have k168 : (I155 0 34).toInt = (I136 0 34).toInt := by rw [fI155 0 34 (by decide)]
        have k169 : (I155 0 36).toInt = (I136 0 36).toInt := by rw [fI155 0 36 (by decide)]
        have k170 : (I155 0 42).toInt = (I136 0 42).toInt := by rw [fI155 0 42 (by decide)]
        have k171 : (I155 0 39).toInt = (I136 0 39).toInt := by rw [fI155 0 39 (by decide)]
        have k172 : (I155 0 15).toInt = (I136 0 15).toInt := by rw [fI155 0 15 (by decide)]
        have k173 : (I155 0 40).toInt = (I136 0 40).toInt := by rw [fI155 0 40 (by decide)]
        obtain ⟨hp, hJ174⟩ := hp
        have h175 := hp
        have hE176 : zm_E gt gv gp ge gh gm n0 gI I155 J157 (.inr (tq + 1, (4, 0, -1, 0) :: (3, fa, fg, fs) :: FS, fo, fg, NN)) := zm_E_begin hE151 h175 z_l4 fI155 (by decide) hJ174
        have h177 := zm_E_W hE176
        have h178 := zm_E_D hE176
        refine lv_goto (tgt := 127) hx hb dX12_chain_114 (by decide) ?_
        exact z_vret hx hb hr hK hS (Nat.le_of_ble_eq_true rfl) (Nat.le_of_ble_eq_true rfl) hlocks dX12_chain_127 (shM, ad, I155, J157, PM ad) hW ⟨I155, J157, rfl, ⟨(by show 0 ≤ (I155 0 31).toInt ∧ (I155 0 31).toInt ≤ 500; exact k158), (by show 0 ≤ (I155 0 33).toInt ∧ (I155 0 33).toInt ≤ 500; exact k159), (by show 0 ≤ (I155 0 34).toInt ∧ (I155 0 34).toInt ≤ 500; exact k160), (by show 0 ≤ (I155 0 35).toInt ∧ (I155 0 35).toInt ≤ 500; exact k161)⟩, ⟨(by show 0 ≤ (I155 0 36).toInt ∧ (I155 0 36).toInt ≤ 4; exact k162), (by show 0 ≤ (I155 0 42).toInt ∧ (I155 0 42).toInt ≤ 1; exact k163)⟩, ⟨(by show 0 ≤ (I155 0 47).toInt ∧ (I155 0 47).toInt ≤ 119; exact hI155md.1), (by show 0 ≤ (I155 0 39).toInt ∧ (I155 0 39).toInt ≤ 100; exact hI155md.2)⟩, (by show 0 ≤ (I155 0 40).toInt ∧ (I155 0 40).toInt ≤ 6199; exact k164), (by show 0 ≤ (I155 0 15).toInt ∧ (I155 0 15).toInt ≤ 6100; exact k165), (z_Nd_fr (z_Nd_fr a125 fI136 (by decide)) fI155 (by decide)), (by show 0 ≤ (I155 0 35).toInt ∧ (I155 0 35).toInt ≤ (I155 0 34).toInt ∧ (I155 0 34).toInt ≤ (I155 0 33).toInt ∧ (I155 0 33).toInt ≤ 500 ∧ ((I155 0 36).toInt = 0 ∨ (I155 0 35).toInt + 1 ≤ (I155 0 34).toInt); first | omega | decide), f156, ⟨((Classical.em ((I155 0 42).toInt = 0)).elim (fun hw9 => Or.inr ⟨a1.toNatClampNeg + 2, by have w1 := z_fw_3nm (a := va.toInt) (o := vo.toInt) (by omega) (by omega); have w2 := z_fo_3n (a := va.toInt); have w3 := z_fw_3np (a := va.toInt) (o := (I 0 40).toInt) (by omega) (by omega); have w4 := z_fo_3n (a := va.toInt); have w5 := z_fw_40 (a := 0) (o := -1) (by omega); have w6 := z_rk_3; have w7 := z_rk_4; exact z_PUSH (d := a1.toNatClampNeg) (w := 3) (a := va.toInt) (o := (I 0 40).toInt) (s := vs.toInt) (wi := 4) hPS (fun i hi => ⟨by rw [fI136 26 i (z_wr_c (by decide)), eI123, z_up_n (by decide)], by rw [fI136 27 i (z_wr_c (by decide)), eI123, z_up_n (by decide)], by rw [fI136 28 i (z_wr_c (by decide)), eI123, z_up_k (by omega)], by rw [fI136 29 i (z_wr_c (by decide)), eI123, z_up_n (by decide)]⟩) (by rw [show I136 26 a1.toNatClampNeg = vw from (by rw [fI136 26 a1.toNatClampNeg (z_wr_c (by decide)), eI123, z_up_n (by decide)]; exact evw.symm)]; exact hvw) (by rw [show I136 27 a1.toNatClampNeg = va from (by rw [fI136 27 a1.toNatClampNeg (z_wr_c (by decide)), eI123, z_up_n (by decide)]; exact eva.symm)]) (by rw [show I136 28 a1.toNatClampNeg = (I 0 40) from (by rw [fI136 28 a1.toNatClampNeg (z_wr_c (by decide)), eI123, z_up_s])]) (by rw [show I136 29 a1.toNatClampNeg = vs from (by rw [fI136 29 a1.toNatClampNeg (z_wr_c (by decide)), eI123, z_up_n (by decide)]; exact evs.symm)]) (by unfold z_fv; omega) hwd (by omega) h175 z_l4 (by omega) (by omega) (by omega) (by omega) (by omega) (by omega) (by omega) (by omega)⟩) Or.inl), (by have hz9 : zp_st gt gv (n0 : Int) (.inr (tq, (3, fa, fx, fs) :: FS, fo, fg, NN)) = .inr (tq + 1, (4, 0, -1, 0) :: (3, fa, fg, fs) :: FS, fo, fg, NN) := (by first | (simp [zp_st, zp_op, zp_cm, zp_cb, (show ¬ fa = 0 by omega), (show fx < 0 by omega), ht132]; done) | (exfalso; omega)); rw [hz9]; exact hE176)⟩⟩
      · have ht179 : ¬ gt (tq) = 309 := fun q => h130 (by have q9 := (zm_E_wo (i := 9) (by decide) hE126).mpr q; exact ⟨q9.1, q9.2.trans (show (423 : Int64).toInt = zp_K.getD 9 0 by decide).symm⟩)
        refine lv_if_eq (tgt := 117) hx hb dX12_chain_94 (by decide) (fun c180 => ?_) (fun c180 => absurd (by decide) c180)
        refine lv_aload_n hx hb dX12_chain_117 rfl (lv_at hl 0 rfl) ?_
        refine lv_aload_n hx hb dX12_chain_118 rfl (lv_at hl 0 rfl) ?_
        refine z_get (T := TX12) (N := 96) (ci := 12) (i := 0) (v := .ref (ad 28)) hx hb hts zj_X12_chain_X12 hown hK hW rfl rfl 45 (by decide) (hts (.fieldLink RX12 97 "PetrolBoardModel" "one" "[I") (me_s (me_l (me_l (List.mem_of_getElem? (i := 1) rfl))))) (fun _ h => h) rfl dX12_chain_119 ?_
        refine lv_iload_n hx hb dX12_chain_122 rfl (lv_at hl 1 rfl) ?_
        refine z_iald (i := 28) hx hb hK hW rfl (z_ix rfl (by omega) (by omega)) dX12_chain_123 ?_
        refine z_topi (v := (I 0 40)) (by rw [eI123, z_up_s]) ?_
        refine z_cv hW hS hA (va_runV (As := [.int (I 0 40)]) (rest := []) ⟨hx, hb, hml, hown, hts⟩ (sx_X12_ends_x l G ad I123 J ⟨(by show 0 ≤ (I123 0 47).toInt ∧ (I123 0 47).toInt ≤ 119; rw [eI123, z_up_n (by decide)]; exact hmd.1), (by show 0 ≤ (I123 0 39).toInt ∧ (I123 0 39).toInt ≤ 100; rw [eI123, z_up_n (by decide)]; exact hmd.2)⟩ (by show 0 ≤ (I123 0 40).toInt ∧ (I123 0 40).toInt ≤ 6199; rw [eI123, z_up_n (by decide)]; exact hmg) (I 0 40) (by first | omega | decide) (by have q0 : (I123 0 47) = (I 0 47) := (by rw [eI123, z_up_n (by decide)]); show 1 ≤ (I123 0 47).toInt; rw [q0]; omega) _) (cwV 1 hts gX12_chain_X12_ends rfl rfl rfl (by decide +kernel) ⟨Nat.le_of_ble_eq_true rfl, Nat.le_of_ble_eq_true rfl⟩) (z_preV (i := 0) hK hW rfl rfl) rfl rfl hl.1 rfl (lv_room (Nat.le_of_ble_eq_true rfl)) dX12_chain_124 ⟨Nat.le_of_ble_eq_true rfl, Nat.le_of_ble_eq_true rfl⟩) (fun u1 H locs hp hW hS => ?_)
        obtain ⟨I181, J183, e9, hI181md, hI181mg, fI181, hp⟩ := hp
        rw [e9] at hW
        have f182 := z_fr_sub (L := L_X12_chain_1_x) f124 fI181 (by decide)
        have k184 : 0 ≤ (I181 0 31).toInt ∧ (I181 0 31).toInt ≤ 500 := by rw [fI181 0 31 (by decide)]; exact (by show 0 ≤ (I123 0 31).toInt ∧ (I123 0 31).toInt ≤ 500; rw [eI123, z_up_n (by decide)]; exact hmp.1)
        have k185 : 0 ≤ (I181 0 33).toInt ∧ (I181 0 33).toInt ≤ 500 := by rw [fI181 0 33 (by decide)]; exact (by show 0 ≤ (I123 0 33).toInt ∧ (I123 0 33).toInt ≤ 500; rw [eI123, z_up_n (by decide)]; exact hmp.2.1)
        have k186 : 0 ≤ (I181 0 34).toInt ∧ (I181 0 34).toInt ≤ 500 := by rw [fI181 0 34 (by decide)]; exact (by show 0 ≤ (I123 0 34).toInt ∧ (I123 0 34).toInt ≤ 500; rw [eI123, z_up_n (by decide)]; exact hmp.2.2.1)
        have k187 : 0 ≤ (I181 0 35).toInt ∧ (I181 0 35).toInt ≤ 500 := by rw [fI181 0 35 (by decide)]; exact (by show 0 ≤ (I123 0 35).toInt ∧ (I123 0 35).toInt ≤ 500; rw [eI123, z_up_n (by decide)]; exact hmp.2.2.2)
        have k188 : 0 ≤ (I181 0 36).toInt ∧ (I181 0 36).toInt ≤ 4 := by rw [fI181 0 36 (by decide)]; exact (by show 0 ≤ (I123 0 36).toInt ∧ (I123 0 36).toInt ≤ 4; rw [eI123, z_up_n (by decide)]; exact hmt.1)
        have k189 : 0 ≤ (I181 0 42).toInt ∧ (I181 0 42).toInt ≤ 1 := by rw [fI181 0 42 (by decide)]; exact (by show 0 ≤ (I123 0 42).toInt ∧ (I123 0 42).toInt ≤ 1; rw [eI123, z_up_n (by decide)]; exact hmt.2)
        have k190 : 0 ≤ (I181 0 15).toInt ∧ (I181 0 15).toInt ≤ 6100 := by rw [fI181 0 15 (by decide)]; exact (by show 0 ≤ (I123 0 15).toInt ∧ (I123 0 15).toInt ≤ 6100; rw [eI123, z_up_n (by decide)]; exact hmn)
        have k191 : 0 ≤ (I181 0 35).toInt ∧ (I181 0 35).toInt ≤ (I181 0 34).toInt ∧ (I181 0 34).toInt ≤ (I181 0 33).toInt ∧ (I181 0 33).toInt ≤ 500 ∧ ((I181 0 36).toInt = 0 ∨ (I181 0 35).toInt + 1 ≤ (I181 0 34).toInt) := (by have q0 : (I181 0 35) = (I 0 35) := (by rw [fI181 0 35 (by decide), eI123, z_up_n (by decide)]); have q1 : (I181 0 34) = (I 0 34) := (by rw [fI181 0 34 (by decide), eI123, z_up_n (by decide)]); have q2 : (I181 0 33) = (I 0 33) := (by rw [fI181 0 33 (by decide), eI123, z_up_n (by decide)]); have q3 : (I181 0 36) = (I 0 36) := (by rw [fI181 0 36 (by decide), eI123, z_up_n (by decide)]); show 0 ≤ (I181 0 35).toInt ∧ (I181 0 35).toInt ≤ (I181 0 34).toInt ∧ (I181 0 34).toInt ≤ (I181 0 33).toInt ∧ (I181 0 33).toInt ≤ 500 ∧ ((I181 0 36).toInt = 0 ∨ (I181 0 35).toInt + 1 ≤ (I181 0 34).toInt); rw [q0, q1, q2, q3]; first | omega | decide)
        have k192 : (I181 0 35).toInt = (I 0 35).toInt := by rw [fI181 0 35 (by decide), eI123, z_up_n (by decide)]
        have k193 : (I181 0 34).toInt = (I 0 34).toInt := by rw [fI181 0 34 (by decide), eI123, z_up_n (by decide)]
        have k194 : (I181 0 36).toInt = (I 0 36).toInt := by rw [fI181 0 36 (by decide), eI123, z_up_n (by decide)]
        have k195 : (I181 0 42).toInt = (I 0 42).toInt := by rw [fI181 0 42 (by decide), eI123, z_up_n (by decide)]
        have k196 : (I181 0 39).toInt = (I 0 39).toInt := by rw [fI181 0 39 (by decide), eI123, z_up_n (by decide)]
        have k197 : (I181 0 15).toInt = (I 0 15).toInt := by rw [fI181 0 15 (by decide), eI123, z_up_n (by decide)]
        obtain ⟨hp, h198, hJ199⟩ := hp
        have h200 := hp
        have h201 := hp
        rw [show (I123 0 47) = (I 0 47) from by rw [eI123, z_up_n (by decide)]] at h201
        have hE202 : zm_E gt gv gp ge gh gm n0 gI I181 J183 (.inr (tq, FS, fo, fg, NN)) := zm_E_ends hE126 h200 h198 (by omega) fI181 (by decide) hJ199
        have h203 := zm_E_W hE202
        have h204 := zm_E_D hE202
        exact z_vret hx hb hr hK hS (Nat.le_of_ble_eq_true rfl) (Nat.le_of_ble_eq_true rfl) hlocks dX12_chain_127 (shM, ad, I181, J183, PM ad) hW ⟨I181, J183, rfl, ⟨(by show 0 ≤ (I181 0 31).toInt ∧ (I181 0 31).toInt ≤ 500; exact k184), (by show 0 ≤ (I181 0 33).toInt ∧ (I181 0 33).toInt ≤ 500; exact k185), (by show 0 ≤ (I181 0 34).toInt ∧ (I181 0 34).toInt ≤ 500; exact k186), (by show 0 ≤ (I181 0 35).toInt ∧ (I181 0 35).toInt ≤ 500; exact k187)⟩, ⟨(by show 0 ≤ (I181 0 36).toInt ∧ (I181 0 36).toInt ≤ 4; exact k188), (by show 0 ≤ (I181 0 42).toInt ∧ (I181 0 42).toInt ≤ 1; exact k189)⟩, ⟨(by show 0 ≤ (I181 0 47).toInt ∧ (I181 0 47).toInt ≤ 119; exact hI181md.1), (by show 0 ≤ (I181 0 39).toInt ∧ (I181 0 39).toInt ≤ 100; exact hI181md.2)⟩, (by show 0 ≤ (I181 0 40).toInt ∧ (I181 0 40).toInt ≤ 6199; exact hI181mg), (by show 0 ≤ (I181 0 15).toInt ∧ (I181 0 15).toInt ≤ 6100; exact k190), (z_Nd_fr a125 fI181 (by decide)), (by show 0 ≤ (I181 0 35).toInt ∧ (I181 0 35).toInt ≤ (I181 0 34).toInt ∧ (I181 0 34).toInt ≤ (I181 0 33).toInt ∧ (I181 0 33).toInt ≤ 500 ∧ ((I181 0 36).toInt = 0 ∨ (I181 0 35).toInt + 1 ≤ (I181 0 34).toInt); first | omega | decide), f182, ⟨((Classical.em ((I181 0 42).toInt = 0)).elim (fun hw9 => Or.inr ⟨a1.toNatClampNeg, by have w1 := z_fw_3nm (a := va.toInt) (o := vo.toInt) (by omega) (by omega); have w2 := z_fo_3n (a := va.toInt); exact z_POP (d := a1.toNatClampNeg) hPS (fun i hi => ⟨by rw [fI181 26 i (z_wr_c (by decide)), eI123, z_up_n (by decide)], by rw [fI181 27 i (z_wr_c (by decide)), eI123, z_up_n (by decide)], by rw [fI181 28 i (z_wr_c (by decide)), eI123, z_up_k (by omega)], by rw [fI181 29 i (z_wr_c (by decide)), eI123, z_up_n (by decide)]⟩) (by omega) (by omega) (by omega) (by omega) (by omega) (by omega)⟩) Or.inl), (by have hz9 : zp_st gt gv (n0 : Int) (.inr (tq, (3, fa, fx, fs) :: FS, fo, fg, NN)) = .inr (tq, FS, fo, fg, NN) := (by first | (simp [zp_st, zp_op, zp_cm, zp_cb, (show ¬ fa = 0 by omega), (show fx < 0 by omega), ht179]; done) | (exfalso; omega)); rw [hz9]; exact hE202)⟩⟩
  · have g205 := z_f_eq rfl z_l0 c1
    refine lv_aload_n hx hb dX12_chain_9 rfl (lv_at hl 0 rfl) ?_
    refine z_get (T := TX12) (N := 96) (ci := 12) (i := 0) (v := .ref (ad 27)) hx hb hts zj_X12_chain_X12 hown hK hW rfl rfl 44 (by decide) (hts (.fieldLink RX12 94 "PetrolBoardModel" "at" "[I") (me_s (me_l (me_l (List.mem_of_getElem? (i := 0) rfl))))) (fun _ h => h) rfl dX12_chain_10 ?_
    refine lv_iload_n hx hb dX12_chain_13 rfl (lv_at hl 1 rfl) ?_
    refine lv_iconst (v := 1) hx hb dX12_chain_14 (by decide) ?_
    refine z_iast (i := 27) hx hb hK hW hS rfl (z_ix rfl (by omega) (by omega)) dX12_chain_15 (fun H locs hz1 hW hS => ?_)
    obtain ⟨I206, eI206⟩ : ∃ K : z_I, K = z_up I 27 a1.toNatClampNeg 1 := ⟨_, rfl⟩
    rw [← eI206] at hW
    have f207 := z_fr_a z_fr_0 (show z_wa L_X12_chain_1_x 27 = true by decide) eI206
    have a208 := z_Nd_n hNd (by decide) eI206
    have z209 := z_l1
    have hE210 : zm_E gt gv gp ge gh gm n0 gI I206 J (.inr (tq, (3, 1, fx, fs) :: FS, fo, fg, NN)) := zm_E_top hE eI206 hdk (Or.inl ⟨rfl, by omega, rfl, rfl, rfl⟩)
    have h211 := zm_E_W hE210
    have h212 := zm_E_D hE210
    refine lv_aload_n hx hb dX12_chain_16 rfl (lv_at hl 0 rfl) ?_
    refine lv_iload_n hx hb dX12_chain_17 rfl (lv_at hl 2 rfl) ?_
    refine lv_if_eq (tgt := 25) hx hb dX12_chain_18 (by decide) (fun c213 => absurd c213 (by decide)) (fun c213 => ?_)
    refine lv_iconst (v := 4) hx hb dX12_chain_21 (by decide) ?_
    refine lv_goto (tgt := 26) hx hb dX12_chain_22 (by decide) ?_
    refine z_cv hW hS hA (va_runV (As := [.int 4]) (rest := []) ⟨hx, hb, hml, hown, hts⟩ (sx_X12_begin_x l G ad I206 J ⟨(by show 0 ≤ (I206 0 47).toInt ∧ (I206 0 47).toInt ≤ 119; rw [eI206, z_up_n (by decide)]; exact hmd.1), (by show 0 ≤ (I206 0 39).toInt ∧ (I206 0 39).toInt ≤ 100; rw [eI206, z_up_n (by decide)]; exact hmd.2)⟩ 4 (by have q0 : (I206 0 47) = (I 0 47) := (by rw [eI206, z_up_n (by decide)]); show (I206 0 47).toInt ≤ 118; rw [q0]; omega) _) (cwV 1 hts gX12_chain_X12_begin rfl rfl rfl (by decide +kernel) ⟨Nat.le_of_ble_eq_true rfl, Nat.le_of_ble_eq_true rfl⟩) (z_preV (i := 0) hK hW rfl rfl) rfl rfl hl.1 rfl (lv_room (Nat.le_of_ble_eq_true rfl)) dX12_chain_26 ⟨Nat.le_of_ble_eq_true rfl, Nat.le_of_ble_eq_true rfl⟩) (fun u1 H locs hp hW hS => ?_)
    obtain ⟨I214, J216, e9, hI214md, fI214, hp⟩ := hp
    rw [e9] at hW
    have f215 := z_fr_sub (L := L_X12_chain_1_x) f207 fI214 (by decide)
    have k217 : 0 ≤ (I214 0 31).toInt ∧ (I214 0 31).toInt ≤ 500 := by rw [fI214 0 31 (by decide)]; exact (by show 0 ≤ (I206 0 31).toInt ∧ (I206 0 31).toInt ≤ 500; rw [eI206, z_up_n (by decide)]; exact hmp.1)
    have k218 : 0 ≤ (I214 0 33).toInt ∧ (I214 0 33).toInt ≤ 500 := by rw [fI214 0 33 (by decide)]; exact (by show 0 ≤ (I206 0 33).toInt ∧ (I206 0 33).toInt ≤ 500; rw [eI206, z_up_n (by decide)]; exact hmp.2.1)
    have k219 : 0 ≤ (I214 0 34).toInt ∧ (I214 0 34).toInt ≤ 500 := by rw [fI214 0 34 (by decide)]; exact (by show 0 ≤ (I206 0 34).toInt ∧ (I206 0 34).toInt ≤ 500; rw [eI206, z_up_n (by decide)]; exact hmp.2.2.1)
    have k220 : 0 ≤ (I214 0 35).toInt ∧ (I214 0 35).toInt ≤ 500 := by rw [fI214 0 35 (by decide)]; exact (by show 0 ≤ (I206 0 35).toInt ∧ (I206 0 35).toInt ≤ 500; rw [eI206, z_up_n (by decide)]; exact hmp.2.2.2)
    have k221 : 0 ≤ (I214 0 36).toInt ∧ (I214 0 36).toInt ≤ 4 := by rw [fI214 0 36 (by decide)]; exact (by show 0 ≤ (I206 0 36).toInt ∧ (I206 0 36).toInt ≤ 4; rw [eI206, z_up_n (by decide)]; exact hmt.1)
    have k222 : 0 ≤ (I214 0 42).toInt ∧ (I214 0 42).toInt ≤ 1 := by rw [fI214 0 42 (by decide)]; exact (by show 0 ≤ (I206 0 42).toInt ∧ (I206 0 42).toInt ≤ 1; rw [eI206, z_up_n (by decide)]; exact hmt.2)
    have k223 : 0 ≤ (I214 0 40).toInt ∧ (I214 0 40).toInt ≤ 6199 := by rw [fI214 0 40 (by decide)]; exact (by show 0 ≤ (I206 0 40).toInt ∧ (I206 0 40).toInt ≤ 6199; rw [eI206, z_up_n (by decide)]; exact hmg)
    have k224 : 0 ≤ (I214 0 15).toInt ∧ (I214 0 15).toInt ≤ 6100 := by rw [fI214 0 15 (by decide)]; exact (by show 0 ≤ (I206 0 15).toInt ∧ (I206 0 15).toInt ≤ 6100; rw [eI206, z_up_n (by decide)]; exact hmn)
    have k225 : 0 ≤ (I214 0 35).toInt ∧ (I214 0 35).toInt ≤ (I214 0 34).toInt ∧ (I214 0 34).toInt ≤ (I214 0 33).toInt ∧ (I214 0 33).toInt ≤ 500 ∧ ((I214 0 36).toInt = 0 ∨ (I214 0 35).toInt + 1 ≤ (I214 0 34).toInt) := (by have q0 : (I214 0 35) = (I 0 35) := (by rw [fI214 0 35 (by decide), eI206, z_up_n (by decide)]); have q1 : (I214 0 34) = (I 0 34) := (by rw [fI214 0 34 (by decide), eI206, z_up_n (by decide)]); have q2 : (I214 0 33) = (I 0 33) := (by rw [fI214 0 33 (by decide), eI206, z_up_n (by decide)]); have q3 : (I214 0 36) = (I 0 36) := (by rw [fI214 0 36 (by decide), eI206, z_up_n (by decide)]); show 0 ≤ (I214 0 35).toInt ∧ (I214 0 35).toInt ≤ (I214 0 34).toInt ∧ (I214 0 34).toInt ≤ (I214 0 33).toInt ∧ (I214 0 33).toInt ≤ 500 ∧ ((I214 0 36).toInt = 0 ∨ (I214 0 35).toInt + 1 ≤ (I214 0 34).toInt); rw [q0, q1, q2, q3]; first | omega | decide)
    have k226 : (I214 0 35).toInt = (I 0 35).toInt := by rw [fI214 0 35 (by decide), eI206, z_up_n (by decide)]
    have k227 : (I214 0 34).toInt = (I 0 34).toInt := by rw [fI214 0 34 (by decide), eI206, z_up_n (by decide)]
    have k228 : (I214 0 36).toInt = (I 0 36).toInt := by rw [fI214 0 36 (by decide), eI206, z_up_n (by decide)]
    have k229 : (I214 0 42).toInt = (I 0 42).toInt := by rw [fI214 0 42 (by decide), eI206, z_up_n (by decide)]
    have k230 : (I214 0 39).toInt = (I 0 39).toInt := by rw [fI214 0 39 (by decide), eI206, z_up_n (by decide)]
    have k231 : (I214 0 15).toInt = (I 0 15).toInt := by rw [fI214 0 15 (by decide), eI206, z_up_n (by decide)]
    have k232 : (I214 0 40).toInt = (I 0 40).toInt := by rw [fI214 0 40 (by decide), eI206, z_up_n (by decide)]
    obtain ⟨hp, hJ233⟩ := hp
    have h234 := hp
    have hE235 : zm_E gt gv gp ge gh gm n0 gI I214 J216 (.inr (tq, (4, 0, -1, 0) :: (3, 1, fx, fs) :: FS, fo, fg, NN)) := zm_E_begin hE210 h234 z_l4 fI214 (by decide) hJ233
    have h236 := zm_E_W hE235
    have h237 := zm_E_D hE235
    exact z_vret hx hb hr hK hS (Nat.le_of_ble_eq_true rfl) (Nat.le_of_ble_eq_true rfl) hlocks dX12_chain_29 (shM, ad, I214, J216, PM ad) hW ⟨I214, J216, rfl, ⟨(by show 0 ≤ (I214 0 31).toInt ∧ (I214 0 31).toInt ≤ 500; exact k217), (by show 0 ≤ (I214 0 33).toInt ∧ (I214 0 33).toInt ≤ 500; exact k218), (by show 0 ≤ (I214 0 34).toInt ∧ (I214 0 34).toInt ≤ 500; exact k219), (by show 0 ≤ (I214 0 35).toInt ∧ (I214 0 35).toInt ≤ 500; exact k220)⟩, ⟨(by show 0 ≤ (I214 0 36).toInt ∧ (I214 0 36).toInt ≤ 4; exact k221), (by show 0 ≤ (I214 0 42).toInt ∧ (I214 0 42).toInt ≤ 1; exact k222)⟩, ⟨(by show 0 ≤ (I214 0 47).toInt ∧ (I214 0 47).toInt ≤ 119; exact hI214md.1), (by show 0 ≤ (I214 0 39).toInt ∧ (I214 0 39).toInt ≤ 100; exact hI214md.2)⟩, (by show 0 ≤ (I214 0 40).toInt ∧ (I214 0 40).toInt ≤ 6199; exact k223), (by show 0 ≤ (I214 0 15).toInt ∧ (I214 0 15).toInt ≤ 6100; exact k224), (z_Nd_fr a208 fI214 (by decide)), (by show 0 ≤ (I214 0 35).toInt ∧ (I214 0 35).toInt ≤ (I214 0 34).toInt ∧ (I214 0 34).toInt ≤ (I214 0 33).toInt ∧ (I214 0 33).toInt ≤ 500 ∧ ((I214 0 36).toInt = 0 ∨ (I214 0 35).toInt + 1 ≤ (I214 0 34).toInt); first | omega | decide), f215, ⟨((Classical.em ((I214 0 42).toInt = 0)).elim (fun hw9 => Or.inr ⟨a1.toNatClampNeg + 2, by have w1 := z_fw_30 (a := va.toInt) (o := vo.toInt) (by omega); have w2 := z_fo_3n (a := va.toInt); have w3 := z_fw_3nm (a := 1) (o := vo.toInt) (by omega) (by omega); have w4 := z_fo_3n (a := 1); have w5 := z_fw_40 (a := 0) (o := -1) (by omega); have w6 := z_rk_3; have w7 := z_rk_4; exact z_PUSH (d := a1.toNatClampNeg) (w := 3) (a := 1) (o := vo.toInt) (s := vs.toInt) (wi := 4) hPS (fun i hi => ⟨by rw [eI206, z_up_n (by decide)], by rw [eI206, z_up_k (by omega)], by rw [eI206, z_up_n (by decide)], by rw [eI206, z_up_n (by decide)]⟩) (by rw [show I206 26 a1.toNatClampNeg = vw from (by rw [eI206, z_up_n (by decide)]; exact evw.symm)]; exact hvw) (by rw [show I206 27 a1.toNatClampNeg = 1 from (by rw [eI206, z_up_s])]; exact z_l1) (by rw [show I206 28 a1.toNatClampNeg = vo from (by rw [eI206, z_up_n (by decide)]; exact evo.symm)]) (by rw [show I206 29 a1.toNatClampNeg = vs from (by rw [eI206, z_up_n (by decide)]; exact evs.symm)]) (by unfold z_fv; omega) hwd (by rw [eI206, z_up_n (by decide)]; omega) h234 z_l4 (by omega) (by omega) (by omega) (by omega) (by omega) (by omega) (by omega) (by omega)⟩) Or.inl), (by have hz9 : zp_st gt gv (n0 : Int) (.inr (tq, (3, fa, fx, fs) :: FS, fo, fg, NN)) = .inr (tq, (4, 0, -1, 0) :: (3, 1, fx, fs) :: FS, fo, fg, NN) := (by first | (simp [zp_st, zp_op, zp_cm, zp_cb, (show fa = 0 by omega)]; done) | (exfalso; omega)); rw [hz9]; exact hE235)⟩⟩
noncomputable def L_X12_chain_0_x : z_L := [(0, 35), (0, 36), (0, 37), (0, 38), (0, 34), (0, 42), (0, 32), (0, 39), (21, 999), (22, 999), (23, 999), (0, 15), (26, 999), (27, 999), (28, 999), (29, 999), (0, 47), (0, 40)]
set_option maxHeartbeats 8000000 in
set_option maxRecDepth 100000 in
theorem sx_X12_chain_0_x (l : Launch) (G : z_G) (ad : Nat → Nat) (I : z_I) (J : z_J) (hmp : z_imp I) (hmt : z_imt I) (hmd : z_imd I) (hmg : z_img I) (hmn : z_imn I) (hNd : z_Nd I) (hrp : z_irp I) (B : Int) (gt gv : Nat → Int) (gp ge : Nat → Nat) (gh : Nat → Int) (gm n0 : Nat) (gI : z_I) (tq : Nat) (FS : List zp_F) (fa fx fs fo fg : Int) (NN : List zp_N) (a1 : Int32) (q1 : 0 ≤ a1.toInt ∧ a1.toInt ≤ 33) (hwd : (I 26 a1.toNatClampNeg).toInt = 4) (hPS : z_PS I (a1.toNatClampNeg + 1) B) (hE : zm_E gt gv gp ge gh gm n0 gI I J (.inr (tq, (4, fa, fx, fs) :: FS, fo, fg, NN))) (hdk : a1.toNatClampNeg = FS.length) (hSM : zp_SM gh gt gv gp ge gm) : z_Mv l yX12_chain wsX12_chain { frames := 3, cells := 0, slots := 0, locals := 55 } [.ref (ad 0), .int a1, .int 0] G (shM, ad, I, J, PM ad) (fun u1 => ∃ (I1 : z_I) (J1 : z_J), u1 = (shM, ad, I1, J1, PM ad) ∧ z_imp I1 ∧ z_imt I1 ∧ z_imd I1 ∧ z_img I1 ∧ z_imn I1 ∧ z_Nd I1 ∧ z_irp I1 ∧ z_fr L_X12_chain_0_x I1 I ∧ ((¬ (I1 0 42).toInt = 0 ∨ ∃ n, z_PS I1 n (B - 1)) ∧ zm_E gt gv gp ge gh gm n0 gI I1 J1 (zp_st gt gv (n0 : Int) (.inr (tq, (4, fa, fx, fs) :: FS, fo, fg, NN))))) 0 0 := by
  intro sz
  refine z_headQ (cc := cX12_chain) (maxL := 3) (ret := none) (by decide) rfl (Nat.le_of_ble_eq_true rfl) ?_
  intro p e s m below meth c0 ls hIn hK hsz hW hl
  obtain ⟨hx, hb, hr, hml, hown, hts, hlocks, hname⟩ := hIn
  subst hsz
  have hown : s.vm.findClass RX12 = some m.cls := hown
  have hA : ∀ q : Nat, s.heap.size ≤ q → z_A (shM, ad, I, J, PM ad) s.heap.size q := fun q h => Or.inr h
  generalize hAe : z_A (shM, ad, I, J, PM ad) s.heap.size = A at *
  have hS : va_S A s.heap s.heap [] := va_S.rf
  have hl : lv_has ls 3 [(0, .ref (ad 0)), (1, .int a1), (2, .int 0)] := hl
  obtain ⟨va, eva⟩ : ∃ y, y = I 27 a1.toNatClampNeg := ⟨_, rfl⟩
  obtain ⟨vo, evo⟩ : ∃ y, y = I 28 a1.toNatClampNeg := ⟨_, rfl⟩
  obtain ⟨vs, evs⟩ : ∃ y, y = I 29 a1.toNatClampNeg := ⟨_, rfl⟩
  have hT := z_top hPS
  unfold z_fv at hT
  rw [hwd, ← eva, ← evo, ← evs] at hT
  obtain ⟨t1, t2, t3, t4, t5, t6, t7, t8, t9, t10, t11, t12, t13, t14, t15, t16, t17, t18, t19, t20, t21⟩ := hT
  have hk9 := z_clt (x := a1) rfl q1.1
  have hcw := z_fwc_4 va.toInt vo.toInt
  have hcf := z_foc_4 va.toInt
  obtain ⟨vw, evw⟩ : ∃ y, y = I 26 a1.toNatClampNeg := ⟨_, rfl⟩
  have hvw : vw.toInt = 4 := by rw [evw]; exact hwd
  have hE1 := zm_E_W hE
  have hE2 := zm_E_D hE
  have hE4 := zm_E_nu hE
  have hE5 := zm_E_w1 hE
  have hE3 := zm_E_F hE
  rw [← hdk, ← eva, ← evo, ← evs] at hE3
  have krp : 0 ≤ (I 0 35).toInt ∧ (I 0 35).toInt ≤ (I 0 34).toInt ∧ (I 0 34).toInt ≤ (I 0 33).toInt ∧ (I 0 33).toInt ≤ 500 ∧ ((I 0 36).toInt = 0 ∨ (I 0 35).toInt + 1 ≤ (I 0 34).toInt) := hrp
  refine lv_aload_n hx hb dX12_chain_0 rfl (lv_at hl 0 rfl) ?_
  refine z_get (T := TX12) (N := 96) (ci := 12) (i := 0) (v := .ref (ad 27)) hx hb hts zj_X12_chain_X12 hown hK hW rfl rfl 44 (by decide) (hts (.fieldLink RX12 94 "PetrolBoardModel" "at" "[I") (me_s (me_l (me_l (List.mem_of_getElem? (i := 0) rfl))))) (fun _ h => h) rfl dX12_chain_1 ?_
  refine lv_iload_n hx hb dX12_chain_4 rfl (lv_at hl 1 rfl) ?_
  refine z_iald (i := 27) hx hb hK hW rfl (z_ix rfl (by omega) (by omega)) dX12_chain_5 ?_
  refine z_topi (v := va) eva.symm ?_
  refine lv_if_ne (tgt := 30) hx hb dX12_chain_6 (by decide) (fun c1 => ?_) (fun c1 => ?_)
  · have g2 := z_f_ne rfl z_l0 c1
    refine lv_aload_n hx hb dX12_chain_30 rfl (lv_at hl 0 rfl) ?_
    refine z_get (T := TX12) (N := 96) (ci := 12) (i := 0) (v := .ref (ad 28)) hx hb hts zj_X12_chain_X12 hown hK hW rfl rfl 45 (by decide) (hts (.fieldLink RX12 97 "PetrolBoardModel" "one" "[I") (me_s (me_l (me_l (List.mem_of_getElem? (i := 1) rfl))))) (fun _ h => h) rfl dX12_chain_31 ?_
    refine lv_iload_n hx hb dX12_chain_34 rfl (lv_at hl 1 rfl) ?_
    refine lv_aload_n hx hb dX12_chain_35 rfl (lv_at hl 0 rfl) ?_
    refine z_get (T := TX12) (N := 96) (ci := 12) (i := 0) (v := .ref (ad 28)) hx hb hts zj_X12_chain_X12 hown hK hW rfl rfl 45 (by decide) (hts (.fieldLink RX12 97 "PetrolBoardModel" "one" "[I") (me_s (me_l (me_l (List.mem_of_getElem? (i := 1) rfl))))) (fun _ h => h) rfl dX12_chain_36 ?_
    refine lv_iload_n hx hb dX12_chain_39 rfl (lv_at hl 1 rfl) ?_
    refine z_iald (i := 28) hx hb hK hW rfl (z_ix rfl (by omega) (by omega)) dX12_chain_40 ?_
    refine z_topi (v := vo) evo.symm ?_
    refine lv_if_ge (tgt := 51) hx hb dX12_chain_41 (by decide) (fun c3 => ?_) (fun c3 => ?_)
    · have g4 := z_f_ge rfl z_l0 c3
      refine lv_aload_n hx hb dX12_chain_51 rfl (lv_at hl 0 rfl) ?_
      refine lv_iload_n hx hb dX12_chain_52 rfl (lv_at hl 2 rfl) ?_
      refine lv_if_eq (tgt := 61) hx hb dX12_chain_53 (by decide) (fun c5 => ?_) (fun c5 => absurd (by decide) c5)
      refine lv_bipush (v := 12) hx hb dX12_chain_61 (by decide) ?_
      refine lv_aload_n hx hb dX12_chain_63 rfl (lv_at hl 0 rfl) ?_
      refine z_get (T := TX12) (N := 96) (ci := 12) (i := 0) (v := .ref (ad 28)) hx hb hts zj_X12_chain_X12 hown hK hW rfl rfl 45 (by decide) (hts (.fieldLink RX12 97 "PetrolBoardModel" "one" "[I") (me_s (me_l (me_l (List.mem_of_getElem? (i := 1) rfl))))) (fun _ h => h) rfl dX12_chain_64 ?_
      refine lv_iload_n hx hb dX12_chain_67 rfl (lv_at hl 1 rfl) ?_
      refine z_iald (i := 28) hx hb hK hW rfl (z_ix rfl (by omega) (by omega)) dX12_chain_68 ?_
      refine z_topi (v := vo) evo.symm ?_
      refine lv_aload_n hx hb dX12_chain_69 rfl (lv_at hl 0 rfl) ?_
      have r6 : 0 ≤ (I 0 40).toInt ∧ (I 0 40).toInt ≤ 6199 := hmg
      refine z_get (T := TX12) (N := 96) (ci := 12) (i := 0) (v := .int (I 0 40)) hx hb hts zj_X12_chain_X12 hown hK hW rfl rfl 40 (by decide) (hts (.fieldLink RX12 343 "PetrolBoardModel" "got" "I") (me_s (me_l (me_l (List.mem_of_getElem? (i := 2) rfl))))) (fun _ h => h) rfl dX12_chain_70 ?_
      refine z_ci hW hS hA (va_runV (As := [.int 12, .int vo, .int (I 0 40)]) (rest := [.int a1, .ref (ad 28)]) ⟨hx, hb, hml, hown, hts⟩ (sx_X12_node_x l G ad I J (by show 0 ≤ (I 0 15).toInt ∧ (I 0 15).toInt ≤ 6100; exact hmn) hNd 12 vo (I 0 40) (by show (I 0 15).toInt ≤ 6099; omega) (by have := z_l12; first | omega | decide) (by have := z_l12; first | omega | decide) (by have := z_l12; first | omega | decide) _) (cwV 3 hts gX12_chain_X12_node rfl rfl rfl (by decide +kernel) ⟨Nat.le_of_ble_eq_true rfl, Nat.le_of_ble_eq_true rfl⟩) (z_preV (i := 0) hK hW rfl rfl) rfl rfl hl.1 rfl (lv_room (Nat.le_of_ble_eq_true rfl)) dX12_chain_73 ⟨Nat.le_of_ble_eq_true rfl, Nat.le_of_ble_eq_true rfl⟩) (fun r u1 H locs hp hW hS => ?_)
      obtain ⟨I7, J9, e9, hI7mn, hI7Nd, fI7, hp⟩ := hp
      rw [e9] at hW
      have f8 := z_fr_sub (L := L_X12_chain_0_x) z_fr_0 fI7 (by decide)
      have k10 : 0 ≤ (I7 0 31).toInt ∧ (I7 0 31).toInt ≤ 500 := by rw [fI7 0 31 (by decide)]; exact (by show 0 ≤ (I 0 31).toInt ∧ (I 0 31).toInt ≤ 500; exact hmp.1)
      have k11 : 0 ≤ (I7 0 33).toInt ∧ (I7 0 33).toInt ≤ 500 := by rw [fI7 0 33 (by decide)]; exact (by show 0 ≤ (I 0 33).toInt ∧ (I 0 33).toInt ≤ 500; exact hmp.2.1)
      have k12 : 0 ≤ (I7 0 34).toInt ∧ (I7 0 34).toInt ≤ 500 := by rw [fI7 0 34 (by decide)]; exact (by show 0 ≤ (I 0 34).toInt ∧ (I 0 34).toInt ≤ 500; exact hmp.2.2.1)
      have k13 : 0 ≤ (I7 0 35).toInt ∧ (I7 0 35).toInt ≤ 500 := by rw [fI7 0 35 (by decide)]; exact (by show 0 ≤ (I 0 35).toInt ∧ (I 0 35).toInt ≤ 500; exact hmp.2.2.2)
      have k14 : 0 ≤ (I7 0 36).toInt ∧ (I7 0 36).toInt ≤ 4 := by rw [fI7 0 36 (by decide)]; exact (by show 0 ≤ (I 0 36).toInt ∧ (I 0 36).toInt ≤ 4; exact hmt.1)
      have k15 : 0 ≤ (I7 0 42).toInt ∧ (I7 0 42).toInt ≤ 1 := by rw [fI7 0 42 (by decide)]; exact (by show 0 ≤ (I 0 42).toInt ∧ (I 0 42).toInt ≤ 1; exact hmt.2)
      have k16 : 0 ≤ (I7 0 47).toInt ∧ (I7 0 47).toInt ≤ 119 := by rw [fI7 0 47 (by decide)]; exact (by show 0 ≤ (I 0 47).toInt ∧ (I 0 47).toInt ≤ 119; exact hmd.1)
      have k17 : 0 ≤ (I7 0 39).toInt ∧ (I7 0 39).toInt ≤ 100 := by rw [fI7 0 39 (by decide)]; exact (by show 0 ≤ (I 0 39).toInt ∧ (I 0 39).toInt ≤ 100; exact hmd.2)
      have k18 : 0 ≤ (I7 0 40).toInt ∧ (I7 0 40).toInt ≤ 6199 := by rw [fI7 0 40 (by decide)]; exact (by show 0 ≤ (I 0 40).toInt ∧ (I 0 40).toInt ≤ 6199; exact hmg)
      have k19 : 0 ≤ (I7 0 35).toInt ∧ (I7 0 35).toInt ≤ (I7 0 34).toInt ∧ (I7 0 34).toInt ≤ (I7 0 33).toInt ∧ (I7 0 33).toInt ≤ 500 ∧ ((I7 0 36).toInt = 0 ∨ (I7 0 35).toInt + 1 ≤ (I7 0 34).toInt) := (by have q0 : (I7 0 35) = (I 0 35) := (by rw [fI7 0 35 (by decide)]); have q1 : (I7 0 34) = (I 0 34) := (by rw [fI7 0 34 (by decide)]); have q2 : (I7 0 33) = (I 0 33) := (by rw [fI7 0 33 (by decide)]); have q3 : (I7 0 36) = (I 0 36) := (by rw [fI7 0 36 (by decide)]); show 0 ≤ (I7 0 35).toInt ∧ (I7 0 35).toInt ≤ (I7 0 34).toInt ∧ (I7 0 34).toInt ≤ (I7 0 33).toInt ∧ (I7 0 33).toInt ≤ 500 ∧ ((I7 0 36).toInt = 0 ∨ (I7 0 35).toInt + 1 ≤ (I7 0 34).toInt); rw [q0, q1, q2, q3]; first | omega | decide)
      have k20 : (I7 0 35).toInt = (I 0 35).toInt := by rw [fI7 0 35 (by decide)]
      have k21 : (I7 0 34).toInt = (I 0 34).toInt := by rw [fI7 0 34 (by decide)]
      have k22 : (I7 0 36).toInt = (I 0 36).toInt := by rw [fI7 0 36 (by decide)]
      have k23 : (I7 0 42).toInt = (I 0 42).toInt := by rw [fI7 0 42 (by decide)]
      have k24 : (I7 0 47).toInt = (I 0 47).toInt := by rw [fI7 0 47 (by decide)]
      have k25 : (I7 0 39).toInt = (I 0 39).toInt := by rw [fI7 0 39 (by decide)]
      have k26 : (I7 0 40).toInt = (I 0 40).toInt := by rw [fI7 0 40 (by decide)]
      refine lv_topi (fun x31 ex31 => ?_)
      rw [← ex31] at hp
      obtain ⟨h27, h28, h29, hJ30⟩ := hp
      have h32 : 0 ≤ x31.toInt ∧ x31.toInt ≤ 6100 := (by have q9 : 0 ≤ (I 0 15).toInt ∧ (I 0 15).toInt ≤ 6100 := (by show 0 ≤ (I 0 15).toInt ∧ (I 0 15).toInt ≤ 6100; exact hmn); omega)
      have h33 := h27
      have h34 := h28
      have z35 := z_l12
      have hE36 : zm_E gt gv gp ge gh gm n0 gI I7 J9 (.inr (tq, (4, fa, fx, fs) :: FS, fo, fg, NN ++ [(12, fx, fg)])) := zm_E_node hE h29 (by omega) (by omega) (by omega) fI7 (by decide) hJ30
      have h37 := zm_E_W hE36
      have h38 := zm_E_D hE36
      refine z_iast (i := 28) hx hb hK hW hS rfl (z_ix rfl (by omega) (by omega)) dX12_chain_76 (fun H locs hz1 hW hS => ?_)
      obtain ⟨I39, eI39⟩ : ∃ K : z_I, K = z_up I7 28 a1.toNatClampNeg x31 := ⟨_, rfl⟩
      rw [← eI39] at hW
      have f40 := z_fr_a f8 (show z_wa L_X12_chain_0_x 28 = true by decide) eI39
      have a41 := z_Nd_n hI7Nd (by decide) eI39
      have hE42 : zm_E gt gv gp ge gh gm n0 gI I39 J9 (.inr (tq, (4, fa, ((n0 : Int) + ((NN).length : Int)), fs) :: FS, fo, fg, NN ++ [(12, fx, fg)])) := zm_E_top hE36 eI39 hdk (Or.inr (Or.inl ⟨rfl, by omega, rfl, rfl, rfl⟩))
      have h43 := zm_E_W hE42
      have h44 := zm_E_D hE42
      refine lv_aload_n hx hb dX12_chain_77 rfl (lv_at hl 0 rfl) ?_
      refine lv_iload_n hx hb dX12_chain_78 rfl (lv_at hl 2 rfl) ?_
      refine lv_if_eq (tgt := 88) hx hb dX12_chain_79 (by decide) (fun c45 => ?_) (fun c45 => absurd (by decide) c45)
      refine lv_ldc2 (v := 1111) hx hb hown (hts (.constantLong RX12 392 (1111)) (me_s (me_l (me_l (List.mem_of_getElem? (i := 4) rfl))))) dX12_chain_88 ?_
      refine z_ci hW hS hA (va_runV (As := [.long 1111]) (rest := []) ⟨hx, hb, hml, hown, hts⟩ (sx_X12_isWord_x l G ad I39 J9 ⟨(by show 0 ≤ (I39 0 36).toInt ∧ (I39 0 36).toInt ≤ 4; rw [eI39, z_up_n (by decide)]; exact k14), (by show 0 ≤ (I39 0 42).toInt ∧ (I39 0 42).toInt ≤ 1; rw [eI39, z_up_n (by decide)]; exact k15)⟩ 1111 _) (cwV 1 hts gX12_chain_X12_isWord rfl rfl rfl (by decide +kernel) ⟨Nat.le_of_ble_eq_true rfl, Nat.le_of_ble_eq_true rfl⟩) (z_preV (i := 0) hK hW rfl rfl) rfl rfl hl.1 rfl (lv_room (Nat.le_of_ble_eq_true rfl)) dX12_chain_91 ⟨Nat.le_of_ble_eq_true rfl, Nat.le_of_ble_eq_true rfl⟩) (fun r u1 H locs hp hW hS => ?_)
      obtain ⟨e9, hp⟩ := hp
      rw [e9] at hW
      rcases hp with ⟨rfl, h46, h47⟩ | ⟨rfl, h46⟩
      · have ht48 : gt (tq) = 310 := (zm_E_wo (i := 10) (by decide) hE42).mp ⟨h46, h47.trans (show (1111 : Int64).toInt = zp_K.getD 10 0 by decide)⟩
        have h49 := h46
        rw [show (I39 0 36) = (I7 0 36) from by rw [eI39, z_up_n (by decide)]] at h49
        have h50 : (I7 0 35).toInt + 1 ≤ (I7 0 34).toInt := by omega
        refine lv_if_eq (tgt := 117) hx hb dX12_chain_94 (by decide) (fun c51 => absurd c51 (by decide)) (fun c51 => ?_)
        refine lv_aload_n hx hb dX12_chain_97 rfl (lv_at hl 0 rfl) ?_
        refine z_cv hW hS hA (va_runV (As := []) (rest := []) ⟨hx, hb, hml, hown, hts⟩ (sx_X12_next_x l G ad I39 J9 ⟨(by show 0 ≤ (I39 0 31).toInt ∧ (I39 0 31).toInt ≤ 500; rw [eI39, z_up_n (by decide)]; exact k10), (by show 0 ≤ (I39 0 33).toInt ∧ (I39 0 33).toInt ≤ 500; rw [eI39, z_up_n (by decide)]; exact k11), (by show 0 ≤ (I39 0 34).toInt ∧ (I39 0 34).toInt ≤ 500; rw [eI39, z_up_n (by decide)]; exact k12), (by show 0 ≤ (I39 0 35).toInt ∧ (I39 0 35).toInt ≤ 500; rw [eI39, z_up_n (by decide)]; exact k13)⟩ ⟨(by show 0 ≤ (I39 0 36).toInt ∧ (I39 0 36).toInt ≤ 4; rw [eI39, z_up_n (by decide)]; exact k14), (by show 0 ≤ (I39 0 42).toInt ∧ (I39 0 42).toInt ≤ 1; rw [eI39, z_up_n (by decide)]; exact k15)⟩ (by have q0 : (I39 0 34) = (I7 0 34) := (by rw [eI39, z_up_n (by decide)]); have q1 : (I39 0 33) = (I7 0 33) := (by rw [eI39, z_up_n (by decide)]); show 0 ≤ (I39 0 34).toInt ∧ (I39 0 34).toInt ≤ (I39 0 33).toInt ∧ (I39 0 33).toInt ≤ 500; rw [q0, q1]; first | omega | decide)  _) (cwV 0 hts gX12_chain_X12_next rfl rfl rfl (by decide +kernel) ⟨Nat.le_of_ble_eq_true rfl, Nat.le_of_ble_eq_true rfl⟩) (z_preV (i := 0) hK hW rfl rfl) rfl rfl hl.1 rfl (lv_room (Nat.le_of_ble_eq_true rfl)) dX12_chain_98 ⟨Nat.le_of_ble_eq_true rfl, Nat.le_of_ble_eq_true rfl⟩) (fun u1 H locs hp hW hS => ?_)
        obtain ⟨I52, J54, e9, hI52mp, hI52mt, hI52rp, fI52, hp⟩ := hp
        rw [e9] at hW
        have f53 := z_fr_sub (L := L_X12_chain_0_x) f40 fI52 (by decide)
        have k55 : 0 ≤ (I52 0 47).toInt ∧ (I52 0 47).toInt ≤ 119 := by rw [fI52 0 47 (by decide)]; exact (by show 0 ≤ (I39 0 47).toInt ∧ (I39 0 47).toInt ≤ 119; rw [eI39, z_up_n (by decide)]; exact k16)
        have k56 : 0 ≤ (I52 0 39).toInt ∧ (I52 0 39).toInt ≤ 100 := by rw [fI52 0 39 (by decide)]; exact (by show 0 ≤ (I39 0 39).toInt ∧ (I39 0 39).toInt ≤ 100; rw [eI39, z_up_n (by decide)]; exact k17)
        have k57 : 0 ≤ (I52 0 40).toInt ∧ (I52 0 40).toInt ≤ 6199 := by rw [fI52 0 40 (by decide)]; exact (by show 0 ≤ (I39 0 40).toInt ∧ (I39 0 40).toInt ≤ 6199; rw [eI39, z_up_n (by decide)]; exact k18)
        have k58 : 0 ≤ (I52 0 15).toInt ∧ (I52 0 15).toInt ≤ 6100 := by rw [fI52 0 15 (by decide)]; exact (by show 0 ≤ (I39 0 15).toInt ∧ (I39 0 15).toInt ≤ 6100; rw [eI39, z_up_n (by decide)]; exact hI7mn)
        have k59 : 0 ≤ (I52 0 35).toInt ∧ (I52 0 35).toInt ≤ (I52 0 34).toInt ∧ (I52 0 34).toInt ≤ (I52 0 33).toInt ∧ (I52 0 33).toInt ≤ 500 ∧ ((I52 0 36).toInt = 0 ∨ (I52 0 35).toInt + 1 ≤ (I52 0 34).toInt) := hI52rp
        have k60 : (I52 0 42).toInt = (I7 0 42).toInt := by rw [fI52 0 42 (by decide), eI39, z_up_n (by decide)]
        have k61 : (I52 0 47).toInt = (I7 0 47).toInt := by rw [fI52 0 47 (by decide), eI39, z_up_n (by decide)]
        have k62 : (I52 0 39).toInt = (I7 0 39).toInt := by rw [fI52 0 39 (by decide), eI39, z_up_n (by decide)]
        have k63 : (I52 0 15).toInt = (I7 0 15).toInt := by rw [fI52 0 15 (by decide), eI39, z_up_n (by decide)]
        have k64 : (I52 0 40).toInt = (I7 0 40).toInt := by rw [fI52 0 40 (by decide), eI39, z_up_n (by decide)]
        obtain ⟨hp, hp65⟩ := hp
        have h66 := hp
        rw [show (I39 0 34) = (I7 0 34) from by rw [eI39, z_up_n (by decide)]] at h66
        have hE67 : zm_E gt gv gp ge gh gm n0 gI I52 J54 (.inr (tq + 1, (4, fa, ((n0 : Int) + ((NN).length : Int)), fs) :: FS, fo, fg, NN ++ [(12, fx, fg)])) := zm_E_next hSM hE42 (by omega) hp65 fI52 (by decide)
        have h68 := zm_E_W hE67
        have h69 := zm_E_D hE67
        refine lv_aload_n hx hb dX12_chain_101 rfl (lv_at hl 0 rfl) ?_
        refine lv_iload_n hx hb dX12_chain_102 rfl (lv_at hl 2 rfl) ?_
        refine lv_if_eq (tgt := 110) hx hb dX12_chain_103 (by decide) (fun c70 => ?_) (fun c70 => absurd (by decide) c70)
        refine lv_iconst (v := 5) hx hb dX12_chain_110 (by decide) ?_
        refine z_cv hW hS hA (va_runV (As := [.int 5]) (rest := []) ⟨hx, hb, hml, hown, hts⟩ (sx_X12_begin_x l G ad I52 J54 ⟨(by show 0 ≤ (I52 0 47).toInt ∧ (I52 0 47).toInt ≤ 119; exact k55), (by show 0 ≤ (I52 0 39).toInt ∧ (I52 0 39).toInt ≤ 100; exact k56)⟩ 5 (by show (I52 0 47).toInt ≤ 118; omega) _) (cwV 1 hts gX12_chain_X12_begin rfl rfl rfl (by decide +kernel) ⟨Nat.le_of_ble_eq_true rfl, Nat.le_of_ble_eq_true rfl⟩) (z_preV (i := 0) hK hW rfl rfl) rfl rfl hl.1 rfl (lv_room (Nat.le_of_ble_eq_true rfl)) dX12_chain_111 ⟨Nat.le_of_ble_eq_true rfl, Nat.le_of_ble_eq_true rfl⟩) (fun u1 H locs hp hW hS => ?_)
        obtain ⟨I71, J73, e9, hI71md, fI71, hp⟩ := hp
        rw [e9] at hW
        have f72 := z_fr_sub (L := L_X12_chain_0_x) f53 fI71 (by decide)
        have k74 : 0 ≤ (I71 0 31).toInt ∧ (I71 0 31).toInt ≤ 500 := by rw [fI71 0 31 (by decide)]; exact (by show 0 ≤ (I52 0 31).toInt ∧ (I52 0 31).toInt ≤ 500; exact hI52mp.1)
        have k75 : 0 ≤ (I71 0 33).toInt ∧ (I71 0 33).toInt ≤ 500 := by rw [fI71 0 33 (by decide)]; exact (by show 0 ≤ (I52 0 33).toInt ∧ (I52 0 33).toInt ≤ 500; exact hI52mp.2.1)
        have k76 : 0 ≤ (I71 0 34).toInt ∧ (I71 0 34).toInt ≤ 500 := by rw [fI71 0 34 (by decide)]; exact (by show 0 ≤ (I52 0 34).toInt ∧ (I52 0 34).toInt ≤ 500; exact hI52mp.2.2.1)
        have k77 : 0 ≤ (I71 0 35).toInt ∧ (I71 0 35).toInt ≤ 500 := by rw [fI71 0 35 (by decide)]; exact (by show 0 ≤ (I52 0 35).toInt ∧ (I52 0 35).toInt ≤ 500; exact hI52mp.2.2.2)
        have k78 : 0 ≤ (I71 0 36).toInt ∧ (I71 0 36).toInt ≤ 4 := by rw [fI71 0 36 (by decide)]; exact (by show 0 ≤ (I52 0 36).toInt ∧ (I52 0 36).toInt ≤ 4; exact hI52mt.1)
        have k79 : 0 ≤ (I71 0 42).toInt ∧ (I71 0 42).toInt ≤ 1 := by rw [fI71 0 42 (by decide)]; exact (by show 0 ≤ (I52 0 42).toInt ∧ (I52 0 42).toInt ≤ 1; exact hI52mt.2)
        have k80 : 0 ≤ (I71 0 40).toInt ∧ (I71 0 40).toInt ≤ 6199 := by rw [fI71 0 40 (by decide)]; exact (by show 0 ≤ (I52 0 40).toInt ∧ (I52 0 40).toInt ≤ 6199; exact k57)
        have k81 : 0 ≤ (I71 0 15).toInt ∧ (I71 0 15).toInt ≤ 6100 := by rw [fI71 0 15 (by decide)]; exact (by show 0 ≤ (I52 0 15).toInt ∧ (I52 0 15).toInt ≤ 6100; exact k58)
        have k82 : 0 ≤ (I71 0 35).toInt ∧ (I71 0 35).toInt ≤ (I71 0 34).toInt ∧ (I71 0 34).toInt ≤ (I71 0 33).toInt ∧ (I71 0 33).toInt ≤ 500 ∧ ((I71 0 36).toInt = 0 ∨ (I71 0 35).toInt + 1 ≤ (I71 0 34).toInt) := (by have q0 : (I71 0 35) = (I52 0 35) := (by rw [fI71 0 35 (by decide)]); have q1 : (I71 0 34) = (I52 0 34) := (by rw [fI71 0 34 (by decide)]); have q2 : (I71 0 33) = (I52 0 33) := (by rw [fI71 0 33 (by decide)]); have q3 : (I71 0 36) = (I52 0 36) := (by rw [fI71 0 36 (by decide)]); show 0 ≤ (I71 0 35).toInt ∧ (I71 0 35).toInt ≤ (I71 0 34).toInt ∧ (I71 0 34).toInt ≤ (I71 0 33).toInt ∧ (I71 0 33).toInt ≤ 500 ∧ ((I71 0 36).toInt = 0 ∨ (I71 0 35).toInt + 1 ≤ (I71 0 34).toInt); rw [q0, q1, q2, q3]; first | omega | decide)
        have k83 : (I71 0 35).toInt = (I52 0 35).toInt := by rw [fI71 0 35 (by decide)]
        have k84 : (I71 0 34).toInt = (I52 0 34).toInt := by rw [fI71 0 34 (by decide)]
        have k85 : (I71 0 36).toInt = (I52 0 36).toInt := by rw [fI71 0 36 (by decide)]
        have k86 : (I71 0 42).toInt = (I52 0 42).toInt := by rw [fI71 0 42 (by decide)]
        have k87 : (I71 0 39).toInt = (I52 0 39).toInt := by rw [fI71 0 39 (by decide)]
        have k88 : (I71 0 15).toInt = (I52 0 15).toInt := by rw [fI71 0 15 (by decide)]
        have k89 : (I71 0 40).toInt = (I52 0 40).toInt := by rw [fI71 0 40 (by decide)]
        obtain ⟨hp, hJ90⟩ := hp
        have h91 := hp
        have hE92 : zm_E gt gv gp ge gh gm n0 gI I71 J73 (.inr (tq + 1, (5, 0, -1, 0) :: (4, fa, ((n0 : Int) + ((NN).length : Int)), fs) :: FS, fo, fg, NN ++ [(12, fx, fg)])) := zm_E_begin hE67 h91 z_l5 fI71 (by decide) hJ90
        have h93 := zm_E_W hE92
        have h94 := zm_E_D hE92
        refine lv_goto (tgt := 127) hx hb dX12_chain_114 (by decide) ?_
        exact z_vret hx hb hr hK hS (Nat.le_of_ble_eq_true rfl) (Nat.le_of_ble_eq_true rfl) hlocks dX12_chain_127 (shM, ad, I71, J73, PM ad) hW ⟨I71, J73, rfl, ⟨(by show 0 ≤ (I71 0 31).toInt ∧ (I71 0 31).toInt ≤ 500; exact k74), (by show 0 ≤ (I71 0 33).toInt ∧ (I71 0 33).toInt ≤ 500; exact k75), (by show 0 ≤ (I71 0 34).toInt ∧ (I71 0 34).toInt ≤ 500; exact k76), (by show 0 ≤ (I71 0 35).toInt ∧ (I71 0 35).toInt ≤ 500; exact k77)⟩, ⟨(by show 0 ≤ (I71 0 36).toInt ∧ (I71 0 36).toInt ≤ 4; exact k78), (by show 0 ≤ (I71 0 42).toInt ∧ (I71 0 42).toInt ≤ 1; exact k79)⟩, ⟨(by show 0 ≤ (I71 0 47).toInt ∧ (I71 0 47).toInt ≤ 119; exact hI71md.1), (by show 0 ≤ (I71 0 39).toInt ∧ (I71 0 39).toInt ≤ 100; exact hI71md.2)⟩, (by show 0 ≤ (I71 0 40).toInt ∧ (I71 0 40).toInt ≤ 6199; exact k80), (by show 0 ≤ (I71 0 15).toInt ∧ (I71 0 15).toInt ≤ 6100; exact k81), (z_Nd_fr (z_Nd_fr a41 fI52 (by decide)) fI71 (by decide)), (by show 0 ≤ (I71 0 35).toInt ∧ (I71 0 35).toInt ≤ (I71 0 34).toInt ∧ (I71 0 34).toInt ≤ (I71 0 33).toInt ∧ (I71 0 33).toInt ≤ 500 ∧ ((I71 0 36).toInt = 0 ∨ (I71 0 35).toInt + 1 ≤ (I71 0 34).toInt); first | omega | decide), f72, ⟨((Classical.em ((I71 0 42).toInt = 0)).elim (fun hw9 => Or.inr ⟨a1.toNatClampNeg + 2, by have w1 := z_fw_4np (a := va.toInt) (o := vo.toInt) (by omega) (by omega); have w2 := z_fo_4n (a := va.toInt); have w3 := z_fw_4np (a := va.toInt) (o := x31.toInt) (by omega) (by omega); have w4 := z_fo_4n (a := va.toInt); have w5 := z_fw_50 (a := 0) (o := -1) (by omega); have w6 := z_rk_4; have w7 := z_rk_5; exact z_PUSH (d := a1.toNatClampNeg) (w := 4) (a := va.toInt) (o := x31.toInt) (s := vs.toInt) (wi := 5) hPS (fun i hi => ⟨by rw [fI52 26 i (z_wr_c (by decide)), eI39, z_up_n (by decide), fI7 26 i (z_wr_c (by decide))], by rw [fI52 27 i (z_wr_c (by decide)), eI39, z_up_n (by decide), fI7 27 i (z_wr_c (by decide))], by rw [fI52 28 i (z_wr_c (by decide)), eI39, z_up_k (by omega), fI7 28 i (z_wr_c (by decide))], by rw [fI52 29 i (z_wr_c (by decide)), eI39, z_up_n (by decide), fI7 29 i (z_wr_c (by decide))]⟩) (by rw [show I52 26 a1.toNatClampNeg = vw from (by rw [fI52 26 a1.toNatClampNeg (z_wr_c (by decide)), eI39, z_up_n (by decide), fI7 26 a1.toNatClampNeg (z_wr_c (by decide))]; exact evw.symm)]; exact hvw) (by rw [show I52 27 a1.toNatClampNeg = va from (by rw [fI52 27 a1.toNatClampNeg (z_wr_c (by decide)), eI39, z_up_n (by decide), fI7 27 a1.toNatClampNeg (z_wr_c (by decide))]; exact eva.symm)]) (by rw [show I52 28 a1.toNatClampNeg = x31 from (by rw [fI52 28 a1.toNatClampNeg (z_wr_c (by decide)), eI39, z_up_s])]) (by rw [show I52 29 a1.toNatClampNeg = vs from (by rw [fI52 29 a1.toNatClampNeg (z_wr_c (by decide)), eI39, z_up_n (by decide), fI7 29 a1.toNatClampNeg (z_wr_c (by decide))]; exact evs.symm)]) (by unfold z_fv; omega) hwd (by omega) h91 z_l5 (by omega) (by omega) (by omega) (by omega) (by omega) (by omega) (by omega) (by omega)⟩) Or.inl), (by have hz9 : zp_st gt gv (n0 : Int) (.inr (tq, (4, fa, fx, fs) :: FS, fo, fg, NN)) = .inr (tq + 1, (5, 0, -1, 0) :: (4, fa, ((n0 : Int) + ((NN).length : Int)), fs) :: FS, fo, fg, NN ++ [(12, fx, fg)]) := (by first | (simp [zp_st, zp_op, zp_cm, zp_cb, (show ¬ fa = 0 by omega), (show ¬ fx < 0 by omega), ht48]; done) | (exfalso; omega)); rw [hz9]; exact hE92)⟩⟩
      · have ht95 : ¬ gt (tq) = 310 := fun q => h46 (by have q9 := (zm_E_wo (i := 10) (by decide) hE42).mpr q; exact ⟨q9.1, q9.2.trans (show (1111 : Int64).toInt = zp_K.getD 10 0 by decide).symm⟩)
        refine lv_if_eq (tgt := 117) hx hb dX12_chain_94 (by decide) (fun c96 => ?_) (fun c96 => absurd (by decide) c96)
        refine lv_aload_n hx hb dX12_chain_117 rfl (lv_at hl 0 rfl) ?_
        refine lv_aload_n hx hb dX12_chain_118 rfl (lv_at hl 0 rfl) ?_
        refine z_get (T := TX12) (N := 96) (ci := 12) (i := 0) (v := .ref (ad 28)) hx hb hts zj_X12_chain_X12 hown hK hW rfl rfl 45 (by decide) (hts (.fieldLink RX12 97 "PetrolBoardModel" "one" "[I") (me_s (me_l (me_l (List.mem_of_getElem? (i := 1) rfl))))) (fun _ h => h) rfl dX12_chain_119 ?_
        refine lv_iload_n hx hb dX12_chain_122 rfl (lv_at hl 1 rfl) ?_
        refine z_iald (i := 28) hx hb hK hW rfl (z_ix rfl (by omega) (by omega)) dX12_chain_123 ?_
        refine z_topi (v := x31) (by rw [eI39, z_up_s]) ?_
        refine z_cv hW hS hA (va_runV (As := [.int x31]) (rest := []) ⟨hx, hb, hml, hown, hts⟩ (sx_X12_ends_x l G ad I39 J9 ⟨(by show 0 ≤ (I39 0 47).toInt ∧ (I39 0 47).toInt ≤ 119; rw [eI39, z_up_n (by decide)]; exact k16), (by show 0 ≤ (I39 0 39).toInt ∧ (I39 0 39).toInt ≤ 100; rw [eI39, z_up_n (by decide)]; exact k17)⟩ (by show 0 ≤ (I39 0 40).toInt ∧ (I39 0 40).toInt ≤ 6199; rw [eI39, z_up_n (by decide)]; exact k18) x31 (by first | omega | decide) (by have q0 : (I39 0 47) = (I7 0 47) := (by rw [eI39, z_up_n (by decide)]); show 1 ≤ (I39 0 47).toInt; rw [q0]; omega) _) (cwV 1 hts gX12_chain_X12_ends rfl rfl rfl (by decide +kernel) ⟨Nat.le_of_ble_eq_true rfl, Nat.le_of_ble_eq_true rfl⟩) (z_preV (i := 0) hK hW rfl rfl) rfl rfl hl.1 rfl (lv_room (Nat.le_of_ble_eq_true rfl)) dX12_chain_124 ⟨Nat.le_of_ble_eq_true rfl, Nat.le_of_ble_eq_true rfl⟩) (fun u1 H locs hp hW hS => ?_)
        obtain ⟨I97, J99, e9, hI97md, hI97mg, fI97, hp⟩ := hp
        rw [e9] at hW
        have f98 := z_fr_sub (L := L_X12_chain_0_x) f40 fI97 (by decide)
        have k100 : 0 ≤ (I97 0 31).toInt ∧ (I97 0 31).toInt ≤ 500 := by rw [fI97 0 31 (by decide)]; exact (by show 0 ≤ (I39 0 31).toInt ∧ (I39 0 31).toInt ≤ 500; rw [eI39, z_up_n (by decide)]; exact k10)
        have k101 : 0 ≤ (I97 0 33).toInt ∧ (I97 0 33).toInt ≤ 500 := by rw [fI97 0 33 (by decide)]; exact (by show 0 ≤ (I39 0 33).toInt ∧ (I39 0 33).toInt ≤ 500; rw [eI39, z_up_n (by decide)]; exact k11)
        have k102 : 0 ≤ (I97 0 34).toInt ∧ (I97 0 34).toInt ≤ 500 := by rw [fI97 0 34 (by decide)]; exact (by show 0 ≤ (I39 0 34).toInt ∧ (I39 0 34).toInt ≤ 500; rw [eI39, z_up_n (by decide)]; exact k12)
        have k103 : 0 ≤ (I97 0 35).toInt ∧ (I97 0 35).toInt ≤ 500 := by rw [fI97 0 35 (by decide)]; exact (by show 0 ≤ (I39 0 35).toInt ∧ (I39 0 35).toInt ≤ 500; rw [eI39, z_up_n (by decide)]; exact k13)
        have k104 : 0 ≤ (I97 0 36).toInt ∧ (I97 0 36).toInt ≤ 4 := by rw [fI97 0 36 (by decide)]; exact (by show 0 ≤ (I39 0 36).toInt ∧ (I39 0 36).toInt ≤ 4; rw [eI39, z_up_n (by decide)]; exact k14)
        have k105 : 0 ≤ (I97 0 42).toInt ∧ (I97 0 42).toInt ≤ 1 := by rw [fI97 0 42 (by decide)]; exact (by show 0 ≤ (I39 0 42).toInt ∧ (I39 0 42).toInt ≤ 1; rw [eI39, z_up_n (by decide)]; exact k15)
        have k106 : 0 ≤ (I97 0 15).toInt ∧ (I97 0 15).toInt ≤ 6100 := by rw [fI97 0 15 (by decide)]; exact (by show 0 ≤ (I39 0 15).toInt ∧ (I39 0 15).toInt ≤ 6100; rw [eI39, z_up_n (by decide)]; exact hI7mn)
        have k107 : 0 ≤ (I97 0 35).toInt ∧ (I97 0 35).toInt ≤ (I97 0 34).toInt ∧ (I97 0 34).toInt ≤ (I97 0 33).toInt ∧ (I97 0 33).toInt ≤ 500 ∧ ((I97 0 36).toInt = 0 ∨ (I97 0 35).toInt + 1 ≤ (I97 0 34).toInt) := (by have q0 : (I97 0 35) = (I7 0 35) := (by rw [fI97 0 35 (by decide), eI39, z_up_n (by decide)]); have q1 : (I97 0 34) = (I7 0 34) := (by rw [fI97 0 34 (by decide), eI39, z_up_n (by decide)]); have q2 : (I97 0 33) = (I7 0 33) := (by rw [fI97 0 33 (by decide), eI39, z_up_n (by decide)]); have q3 : (I97 0 36) = (I7 0 36) := (by rw [fI97 0 36 (by decide), eI39, z_up_n (by decide)]); show 0 ≤ (I97 0 35).toInt ∧ (I97 0 35).toInt ≤ (I97 0 34).toInt ∧ (I97 0 34).toInt ≤ (I97 0 33).toInt ∧ (I97 0 33).toInt ≤ 500 ∧ ((I97 0 36).toInt = 0 ∨ (I97 0 35).toInt + 1 ≤ (I97 0 34).toInt); rw [q0, q1, q2, q3]; first | omega | decide)
        have k108 : (I97 0 35).toInt = (I7 0 35).toInt := by rw [fI97 0 35 (by decide), eI39, z_up_n (by decide)]
        have k109 : (I97 0 34).toInt = (I7 0 34).toInt := by rw [fI97 0 34 (by decide), eI39, z_up_n (by decide)]
        have k110 : (I97 0 36).toInt = (I7 0 36).toInt := by rw [fI97 0 36 (by decide), eI39, z_up_n (by decide)]
        have k111 : (I97 0 42).toInt = (I7 0 42).toInt := by rw [fI97 0 42 (by decide), eI39, z_up_n (by decide)]
        have k112 : (I97 0 39).toInt = (I7 0 39).toInt := by rw [fI97 0 39 (by decide), eI39, z_up_n (by decide)]
        have k113 : (I97 0 15).toInt = (I7 0 15).toInt := by rw [fI97 0 15 (by decide), eI39, z_up_n (by decide)]
        obtain ⟨hp, h114, hJ115⟩ := hp
        have h116 := hp
        have h117 := hp
        rw [show (I39 0 47) = (I7 0 47) from by rw [eI39, z_up_n (by decide)]] at h117
        have hE118 : zm_E gt gv gp ge gh gm n0 gI I97 J99 (.inr (tq, FS, fo, ((n0 : Int) + ((NN).length : Int)), NN ++ [(12, fx, fg)])) := zm_E_ends hE42 h116 h114 (by omega) fI97 (by decide) hJ115
        have h119 := zm_E_W hE118
        have h120 := zm_E_D hE118
        exact z_vret hx hb hr hK hS (Nat.le_of_ble_eq_true rfl) (Nat.le_of_ble_eq_true rfl) hlocks dX12_chain_127 (shM, ad, I97, J99, PM ad) hW ⟨I97, J99, rfl, ⟨(by show 0 ≤ (I97 0 31).toInt ∧ (I97 0 31).toInt ≤ 500; exact k100), (by show 0 ≤ (I97 0 33).toInt ∧ (I97 0 33).toInt ≤ 500; exact k101), (by show 0 ≤ (I97 0 34).toInt ∧ (I97 0 34).toInt ≤ 500; exact k102), (by show 0 ≤ (I97 0 35).toInt ∧ (I97 0 35).toInt ≤ 500; exact k103)⟩, ⟨(by show 0 ≤ (I97 0 36).toInt ∧ (I97 0 36).toInt ≤ 4; exact k104), (by show 0 ≤ (I97 0 42).toInt ∧ (I97 0 42).toInt ≤ 1; exact k105)⟩, ⟨(by show 0 ≤ (I97 0 47).toInt ∧ (I97 0 47).toInt ≤ 119; exact hI97md.1), (by show 0 ≤ (I97 0 39).toInt ∧ (I97 0 39).toInt ≤ 100; exact hI97md.2)⟩, (by show 0 ≤ (I97 0 40).toInt ∧ (I97 0 40).toInt ≤ 6199; exact hI97mg), (by show 0 ≤ (I97 0 15).toInt ∧ (I97 0 15).toInt ≤ 6100; exact k106), (z_Nd_fr a41 fI97 (by decide)), (by show 0 ≤ (I97 0 35).toInt ∧ (I97 0 35).toInt ≤ (I97 0 34).toInt ∧ (I97 0 34).toInt ≤ (I97 0 33).toInt ∧ (I97 0 33).toInt ≤ 500 ∧ ((I97 0 36).toInt = 0 ∨ (I97 0 35).toInt + 1 ≤ (I97 0 34).toInt); first | omega | decide), f98, ⟨((Classical.em ((I97 0 42).toInt = 0)).elim (fun hw9 => Or.inr ⟨a1.toNatClampNeg, by have w1 := z_fw_4np (a := va.toInt) (o := vo.toInt) (by omega) (by omega); have w2 := z_fo_4n (a := va.toInt); exact z_POP (d := a1.toNatClampNeg) hPS (fun i hi => ⟨by rw [fI97 26 i (z_wr_c (by decide)), eI39, z_up_n (by decide), fI7 26 i (z_wr_c (by decide))], by rw [fI97 27 i (z_wr_c (by decide)), eI39, z_up_n (by decide), fI7 27 i (z_wr_c (by decide))], by rw [fI97 28 i (z_wr_c (by decide)), eI39, z_up_k (by omega), fI7 28 i (z_wr_c (by decide))], by rw [fI97 29 i (z_wr_c (by decide)), eI39, z_up_n (by decide), fI7 29 i (z_wr_c (by decide))]⟩) (by omega) (by omega) (by omega) (by omega) (by omega) (by omega)⟩) Or.inl), (by have hz9 : zp_st gt gv (n0 : Int) (.inr (tq, (4, fa, fx, fs) :: FS, fo, fg, NN)) = .inr (tq, FS, fo, ((n0 : Int) + ((NN).length : Int)), NN ++ [(12, fx, fg)]) := (by first | (simp [zp_st, zp_op, zp_cm, zp_cb, (show ¬ fa = 0 by omega), (show ¬ fx < 0 by omega), ht95]; done) | (exfalso; omega)); rw [hz9]; exact hE118)⟩⟩
    · have g121 := z_f_nge rfl z_l0 c3
      refine lv_aload_n hx hb dX12_chain_44 rfl (lv_at hl 0 rfl) ?_
      have r122 : 0 ≤ (I 0 40).toInt ∧ (I 0 40).toInt ≤ 6199 := hmg
      refine z_get (T := TX12) (N := 96) (ci := 12) (i := 0) (v := .int (I 0 40)) hx hb hts zj_X12_chain_X12 hown hK hW rfl rfl 40 (by decide) (hts (.fieldLink RX12 343 "PetrolBoardModel" "got" "I") (me_s (me_l (me_l (List.mem_of_getElem? (i := 2) rfl))))) (fun _ h => h) rfl dX12_chain_45 ?_
      refine lv_goto (tgt := 76) hx hb dX12_chain_48 (by decide) ?_
      refine z_iast (i := 28) hx hb hK hW hS rfl (z_ix rfl (by omega) (by omega)) dX12_chain_76 (fun H locs hz1 hW hS => ?_)
      obtain ⟨I123, eI123⟩ : ∃ K : z_I, K = z_up I 28 a1.toNatClampNeg (I 0 40) := ⟨_, rfl⟩
      rw [← eI123] at hW
      have f124 := z_fr_a z_fr_0 (show z_wa L_X12_chain_0_x 28 = true by decide) eI123
      have a125 := z_Nd_n hNd (by decide) eI123
      have hE126 : zm_E gt gv gp ge gh gm n0 gI I123 J (.inr (tq, (4, fa, fg, fs) :: FS, fo, fg, NN)) := zm_E_top hE eI123 hdk (Or.inr (Or.inl ⟨rfl, by omega, rfl, rfl, rfl⟩))
      have h127 := zm_E_W hE126
      have h128 := zm_E_D hE126
      refine lv_aload_n hx hb dX12_chain_77 rfl (lv_at hl 0 rfl) ?_
      refine lv_iload_n hx hb dX12_chain_78 rfl (lv_at hl 2 rfl) ?_
      refine lv_if_eq (tgt := 88) hx hb dX12_chain_79 (by decide) (fun c129 => ?_) (fun c129 => absurd (by decide) c129)
      refine lv_ldc2 (v := 1111) hx hb hown (hts (.constantLong RX12 392 (1111)) (me_s (me_l (me_l (List.mem_of_getElem? (i := 4) rfl))))) dX12_chain_88 ?_
      refine z_ci hW hS hA (va_runV (As := [.long 1111]) (rest := []) ⟨hx, hb, hml, hown, hts⟩ (sx_X12_isWord_x l G ad I123 J ⟨(by show 0 ≤ (I123 0 36).toInt ∧ (I123 0 36).toInt ≤ 4; rw [eI123, z_up_n (by decide)]; exact hmt.1), (by show 0 ≤ (I123 0 42).toInt ∧ (I123 0 42).toInt ≤ 1; rw [eI123, z_up_n (by decide)]; exact hmt.2)⟩ 1111 _) (cwV 1 hts gX12_chain_X12_isWord rfl rfl rfl (by decide +kernel) ⟨Nat.le_of_ble_eq_true rfl, Nat.le_of_ble_eq_true rfl⟩) (z_preV (i := 0) hK hW rfl rfl) rfl rfl hl.1 rfl (lv_room (Nat.le_of_ble_eq_true rfl)) dX12_chain_91 ⟨Nat.le_of_ble_eq_true rfl, Nat.le_of_ble_eq_true rfl⟩) (fun r u1 H locs hp hW hS => ?_)
      obtain ⟨e9, hp⟩ := hp
      rw [e9] at hW
      rcases hp with ⟨rfl, h130, h131⟩ | ⟨rfl, h130⟩
      · have ht132 : gt (tq) = 310 := (zm_E_wo (i := 10) (by decide) hE126).mp ⟨h130, h131.trans (show (1111 : Int64).toInt = zp_K.getD 10 0 by decide)⟩
        have h133 := h130
        rw [show (I123 0 36) = (I 0 36) from by rw [eI123, z_up_n (by decide)]] at h133
        have h134 : (I 0 35).toInt + 1 ≤ (I 0 34).toInt := by omega
        refine lv_if_eq (tgt := 117) hx hb dX12_chain_94 (by decide) (fun c135 => absurd c135 (by decide)) (fun c135 => ?_)
        refine lv_aload_n hx hb dX12_chain_97 rfl (lv_at hl 0 rfl) ?_
        refine z_cv hW hS hA (va_runV (As := []) (rest := []) ⟨hx, hb, hml, hown, hts⟩ (sx_X12_next_x l G ad I123 J ⟨(by show 0 ≤ (I123 0 31).toInt ∧ (I123 0 31).toInt ≤ 500; rw [eI123, z_up_n (by decide)]; exact hmp.1), (by show 0 ≤ (I123 0 33).toInt ∧ (I123 0 33).toInt ≤ 500; rw [eI123, z_up_n (by decide)]; exact hmp.2.1), (by show 0 ≤ (I123 0 34).toInt ∧ (I123 0 34).toInt ≤ 500; rw [eI123, z_up_n (by decide)]; exact hmp.2.2.1), (by show 0 ≤ (I123 0 35).toInt ∧ (I123 0 35).toInt ≤ 500; rw [eI123, z_up_n (by decide)]; exact hmp.2.2.2)⟩ ⟨(by show 0 ≤ (I123 0 36).toInt ∧ (I123 0 36).toInt ≤ 4; rw [eI123, z_up_n (by decide)]; exact hmt.1), (by show 0 ≤ (I123 0 42).toInt ∧ (I123 0 42).toInt ≤ 1; rw [eI123, z_up_n (by decide)]; exact hmt.2)⟩ (by have q0 : (I123 0 34) = (I 0 34) := (by rw [eI123, z_up_n (by decide)]); have q1 : (I123 0 33) = (I 0 33) := (by rw [eI123, z_up_n (by decide)]); show 0 ≤ (I123 0 34).toInt ∧ (I123 0 34).toInt ≤ (I123 0 33).toInt ∧ (I123 0 33).toInt ≤ 500; rw [q0, q1]; first | omega | decide)  _) (cwV 0 hts gX12_chain_X12_next rfl rfl rfl (by decide +kernel) ⟨Nat.le_of_ble_eq_true rfl, Nat.le_of_ble_eq_true rfl⟩) (z_preV (i := 0) hK hW rfl rfl) rfl rfl hl.1 rfl (lv_room (Nat.le_of_ble_eq_true rfl)) dX12_chain_98 ⟨Nat.le_of_ble_eq_true rfl, Nat.le_of_ble_eq_true rfl⟩) (fun u1 H locs hp hW hS => ?_)
        obtain ⟨I136, J138, e9, hI136mp, hI136mt, hI136rp, fI136, hp⟩ := hp
        rw [e9] at hW
        have f137 := z_fr_sub (L := L_X12_chain_0_x) f124 fI136 (by decide)
        have k139 : 0 ≤ (I136 0 47).toInt ∧ (I136 0 47).toInt ≤ 119 := by rw [fI136 0 47 (by decide)]; exact (by show 0 ≤ (I123 0 47).toInt ∧ (I123 0 47).toInt ≤ 119; rw [eI123, z_up_n (by decide)]; exact hmd.1)
        have k140 : 0 ≤ (I136 0 39).toInt ∧ (I136 0 39).toInt ≤ 100 := by rw [fI136 0 39 (by decide)]; exact (by show 0 ≤ (I123 0 39).toInt ∧ (I123 0 39).toInt ≤ 100; rw [eI123, z_up_n (by decide)]; exact hmd.2)
        have k141 : 0 ≤ (I136 0 40).toInt ∧ (I136 0 40).toInt ≤ 6199 := by rw [fI136 0 40 (by decide)]; exact (by show 0 ≤ (I123 0 40).toInt ∧ (I123 0 40).toInt ≤ 6199; rw [eI123, z_up_n (by decide)]; exact hmg)
        have k142 : 0 ≤ (I136 0 15).toInt ∧ (I136 0 15).toInt ≤ 6100 := by rw [fI136 0 15 (by decide)]; exact (by show 0 ≤ (I123 0 15).toInt ∧ (I123 0 15).toInt ≤ 6100; rw [eI123, z_up_n (by decide)]; exact hmn)
        have k143 : 0 ≤ (I136 0 35).toInt ∧ (I136 0 35).toInt ≤ (I136 0 34).toInt ∧ (I136 0 34).toInt ≤ (I136 0 33).toInt ∧ (I136 0 33).toInt ≤ 500 ∧ ((I136 0 36).toInt = 0 ∨ (I136 0 35).toInt + 1 ≤ (I136 0 34).toInt) := hI136rp
        have k144 : (I136 0 42).toInt = (I 0 42).toInt := by rw [fI136 0 42 (by decide), eI123, z_up_n (by decide)]
        have k145 : (I136 0 47).toInt = (I 0 47).toInt := by rw [fI136 0 47 (by decide), eI123, z_up_n (by decide)]
        have k146 : (I136 0 39).toInt = (I 0 39).toInt := by rw [fI136 0 39 (by decide), eI123, z_up_n (by decide)]
        have k147 : (I136 0 15).toInt = (I 0 15).toInt := by rw [fI136 0 15 (by decide), eI123, z_up_n (by decide)]
        have k148 : (I136 0 40).toInt = (I 0 40).toInt := by rw [fI136 0 40 (by decide), eI123, z_up_n (by decide)]
        obtain ⟨hp, hp149⟩ := hp
        have h150 := hp
        rw [show (I123 0 34) = (I 0 34) from by rw [eI123, z_up_n (by decide)]] at h150
        have hE151 : zm_E gt gv gp ge gh gm n0 gI I136 J138 (.inr (tq + 1, (4, fa, fg, fs) :: FS, fo, fg, NN)) := zm_E_next hSM hE126 (by omega) hp149 fI136 (by decide)
        have h152 := zm_E_W hE151
        have h153 := zm_E_D hE151
        refine lv_aload_n hx hb dX12_chain_101 rfl (lv_at hl 0 rfl) ?_
        refine lv_iload_n hx hb dX12_chain_102 rfl (lv_at hl 2 rfl) ?_
        refine lv_if_eq (tgt := 110) hx hb dX12_chain_103 (by decide) (fun c154 => ?_) (fun c154 => absurd (by decide) c154)
        refine lv_iconst (v := 5) hx hb dX12_chain_110 (by decide) ?_
        refine z_cv hW hS hA (va_runV (As := [.int 5]) (rest := []) ⟨hx, hb, hml, hown, hts⟩ (sx_X12_begin_x l G ad I136 J138 ⟨(by show 0 ≤ (I136 0 47).toInt ∧ (I136 0 47).toInt ≤ 119; exact k139), (by show 0 ≤ (I136 0 39).toInt ∧ (I136 0 39).toInt ≤ 100; exact k140)⟩ 5 (by show (I136 0 47).toInt ≤ 118; omega) _) (cwV 1 hts gX12_chain_X12_begin rfl rfl rfl (by decide +kernel) ⟨Nat.le_of_ble_eq_true rfl, Nat.le_of_ble_eq_true rfl⟩) (z_preV (i := 0) hK hW rfl rfl) rfl rfl hl.1 rfl (lv_room (Nat.le_of_ble_eq_true rfl)) dX12_chain_111 ⟨Nat.le_of_ble_eq_true rfl, Nat.le_of_ble_eq_true rfl⟩) (fun u1 H locs hp hW hS => ?_)
        obtain ⟨I155, J157, e9, hI155md, fI155, hp⟩ := hp
        rw [e9] at hW
        have f156 := z_fr_sub (L := L_X12_chain_0_x) f137 fI155 (by decide)
        have k158 : 0 ≤ (I155 0 31).toInt ∧ (I155 0 31).toInt ≤ 500 := by rw [fI155 0 31 (by decide)]; exact (by show 0 ≤ (I136 0 31).toInt ∧ (I136 0 31).toInt ≤ 500; exact hI136mp.1)
        have k159 : 0 ≤ (I155 0 33).toInt ∧ (I155 0 33).toInt ≤ 500 := by rw [fI155 0 33 (by decide)]; exact (by show 0 ≤ (I136 0 33).toInt ∧ (I136 0 33).toInt ≤ 500; exact hI136mp.2.1)
        have k160 : 0 ≤ (I155 0 34).toInt ∧ (I155 0 34).toInt ≤ 500 := by rw [fI155 0 34 (by decide)]; exact (by show 0 ≤ (I136 0 34).toInt ∧ (I136 0 34).toInt ≤ 500; exact hI136mp.2.2.1)
        have k161 : 0 ≤ (I155 0 35).toInt ∧ (I155 0 35).toInt ≤ 500 := by rw [fI155 0 35 (by decide)]; exact (by show 0 ≤ (I136 0 35).toInt ∧ (I136 0 35).toInt ≤ 500; exact hI136mp.2.2.2)
        have k162 : 0 ≤ (I155 0 36).toInt ∧ (I155 0 36).toInt ≤ 4 := by rw [fI155 0 36 (by decide)]; exact (by show 0 ≤ (I136 0 36).toInt ∧ (I136 0 36).toInt ≤ 4; exact hI136mt.1)
        have k163 : 0 ≤ (I155 0 42).toInt ∧ (I155 0 42).toInt ≤ 1 := by rw [fI155 0 42 (by decide)]; exact (by show 0 ≤ (I136 0 42).toInt ∧ (I136 0 42).toInt ≤ 1; exact hI136mt.2)
        have k164 : 0 ≤ (I155 0 40).toInt ∧ (I155 0 40).toInt ≤ 6199 := by rw [fI155 0 40 (by decide)]; exact (by show 0 ≤ (I136 0 40).toInt ∧ (I136 0 40).toInt ≤ 6199; exact k141)
        have k165 : 0 ≤ (I155 0 15).toInt ∧ (I155 0 15).toInt ≤ 6100 := by rw [fI155 0 15 (by decide)]; exact (by show 0 ≤ (I136 0 15).toInt ∧ (I136 0 15).toInt ≤ 6100; exact k142)
        have k166 : 0 ≤ (I155 0 35).toInt ∧ (I155 0 35).toInt ≤ (I155 0 34).toInt ∧ (I155 0 34).toInt ≤ (I155 0 33).toInt ∧ (I155 0 33).toInt ≤ 500 ∧ ((I155 0 36).toInt = 0 ∨ (I155 0 35).toInt + 1 ≤ (I155 0 34).toInt) := (by have q0 : (I155 0 35) = (I136 0 35) := (by rw [fI155 0 35 (by decide)]); have q1 : (I155 0 34) = (I136 0 34) := (by rw [fI155 0 34 (by decide)]); have q2 : (I155 0 33) = (I136 0 33) := (by rw [fI155 0 33 (by decide)]); have q3 : (I155 0 36) = (I136 0 36) := (by rw [fI155 0 36 (by decide)]); show 0 ≤ (I155 0 35).toInt ∧ (I155 0 35).toInt ≤ (I155 0 34).toInt ∧ (I155 0 34).toInt ≤ (I155 0 33).toInt ∧ (I155 0 33).toInt ≤ 500 ∧ ((I155 0 36).toInt = 0 ∨ (I155 0 35).toInt + 1 ≤ (I155 0 34).toInt); rw [q0, q1, q2, q3]; first | omega | decide)
        have k167 : (I155 0 35).toInt = (I136 0 35).toInt := by rw [fI155 0 35 (by decide)]
        have k168 : (I155 0 34).toInt = (I136 0 34).toInt := by rw [fI155 0 34 (by decide)]
        have k169 : (I155 0 36).toInt = (I136 0 36).toInt := by rw [fI155 0 36 (by decide)]
        have k170 : (I155 0 42).toInt = (I136 0 42).toInt := by rw [fI155 0 42 (by decide)]
        have k171 : (I155 0 39).toInt = (I136 0 39).toInt := by rw [fI155 0 39 (by decide)]
        have k172 : (I155 0 15).toInt = (I136 0 15).toInt := by rw [fI155 0 15 (by decide)]
        have k173 : (I155 0 40).toInt = (I136 0 40).toInt := by rw [fI155 0 40 (by decide)]
        obtain ⟨hp, hJ174⟩ := hp
        have h175 := hp
        have hE176 : zm_E gt gv gp ge gh gm n0 gI I155 J157 (.inr (tq + 1, (5, 0, -1, 0) :: (4, fa, fg, fs) :: FS, fo, fg, NN)) := zm_E_begin hE151 h175 z_l5 fI155 (by decide) hJ174
        have h177 := zm_E_W hE176
        have h178 := zm_E_D hE176
        refine lv_goto (tgt := 127) hx hb dX12_chain_114 (by decide) ?_
        exact z_vret hx hb hr hK hS (Nat.le_of_ble_eq_true rfl) (Nat.le_of_ble_eq_true rfl) hlocks dX12_chain_127 (shM, ad, I155, J157, PM ad) hW ⟨I155, J157, rfl, ⟨(by show 0 ≤ (I155 0 31).toInt ∧ (I155 0 31).toInt ≤ 500; exact k158), (by show 0 ≤ (I155 0 33).toInt ∧ (I155 0 33).toInt ≤ 500; exact k159), (by show 0 ≤ (I155 0 34).toInt ∧ (I155 0 34).toInt ≤ 500; exact k160), (by show 0 ≤ (I155 0 35).toInt ∧ (I155 0 35).toInt ≤ 500; exact k161)⟩, ⟨(by show 0 ≤ (I155 0 36).toInt ∧ (I155 0 36).toInt ≤ 4; exact k162), (by show 0 ≤ (I155 0 42).toInt ∧ (I155 0 42).toInt ≤ 1; exact k163)⟩, ⟨(by show 0 ≤ (I155 0 47).toInt ∧ (I155 0 47).toInt ≤ 119; exact hI155md.1), (by show 0 ≤ (I155 0 39).toInt ∧ (I155 0 39).toInt ≤ 100; exact hI155md.2)⟩, (by show 0 ≤ (I155 0 40).toInt ∧ (I155 0 40).toInt ≤ 6199; exact k164), (by show 0 ≤ (I155 0 15).toInt ∧ (I155 0 15).toInt ≤ 6100; exact k165), (z_Nd_fr (z_Nd_fr a125 fI136 (by decide)) fI155 (by decide)), (by show 0 ≤ (I155 0 35).toInt ∧ (I155 0 35).toInt ≤ (I155 0 34).toInt ∧ (I155 0 34).toInt ≤ (I155 0 33).toInt ∧ (I155 0 33).toInt ≤ 500 ∧ ((I155 0 36).toInt = 0 ∨ (I155 0 35).toInt + 1 ≤ (I155 0 34).toInt); first | omega | decide), f156, ⟨((Classical.em ((I155 0 42).toInt = 0)).elim (fun hw9 => Or.inr ⟨a1.toNatClampNeg + 2, by have w1 := z_fw_4nm (a := va.toInt) (o := vo.toInt) (by omega) (by omega); have w2 := z_fo_4n (a := va.toInt); have w3 := z_fw_4np (a := va.toInt) (o := (I 0 40).toInt) (by omega) (by omega); have w4 := z_fo_4n (a := va.toInt); have w5 := z_fw_50 (a := 0) (o := -1) (by omega); have w6 := z_rk_4; have w7 := z_rk_5; exact z_PUSH (d := a1.toNatClampNeg) (w := 4) (a := va.toInt) (o := (I 0 40).toInt) (s := vs.toInt) (wi := 5) hPS (fun i hi => ⟨by rw [fI136 26 i (z_wr_c (by decide)), eI123, z_up_n (by decide)], by rw [fI136 27 i (z_wr_c (by decide)), eI123, z_up_n (by decide)], by rw [fI136 28 i (z_wr_c (by decide)), eI123, z_up_k (by omega)], by rw [fI136 29 i (z_wr_c (by decide)), eI123, z_up_n (by decide)]⟩) (by rw [show I136 26 a1.toNatClampNeg = vw from (by rw [fI136 26 a1.toNatClampNeg (z_wr_c (by decide)), eI123, z_up_n (by decide)]; exact evw.symm)]; exact hvw) (by rw [show I136 27 a1.toNatClampNeg = va from (by rw [fI136 27 a1.toNatClampNeg (z_wr_c (by decide)), eI123, z_up_n (by decide)]; exact eva.symm)]) (by rw [show I136 28 a1.toNatClampNeg = (I 0 40) from (by rw [fI136 28 a1.toNatClampNeg (z_wr_c (by decide)), eI123, z_up_s])]) (by rw [show I136 29 a1.toNatClampNeg = vs from (by rw [fI136 29 a1.toNatClampNeg (z_wr_c (by decide)), eI123, z_up_n (by decide)]; exact evs.symm)]) (by unfold z_fv; omega) hwd (by omega) h175 z_l5 (by omega) (by omega) (by omega) (by omega) (by omega) (by omega) (by omega) (by omega)⟩) Or.inl), (by have hz9 : zp_st gt gv (n0 : Int) (.inr (tq, (4, fa, fx, fs) :: FS, fo, fg, NN)) = .inr (tq + 1, (5, 0, -1, 0) :: (4, fa, fg, fs) :: FS, fo, fg, NN) := (by first | (simp [zp_st, zp_op, zp_cm, zp_cb, (show ¬ fa = 0 by omega), (show fx < 0 by omega), ht132]; done) | (exfalso; omega)); rw [hz9]; exact hE176)⟩⟩
      · have ht179 : ¬ gt (tq) = 310 := fun q => h130 (by have q9 := (zm_E_wo (i := 10) (by decide) hE126).mpr q; exact ⟨q9.1, q9.2.trans (show (1111 : Int64).toInt = zp_K.getD 10 0 by decide).symm⟩)
        refine lv_if_eq (tgt := 117) hx hb dX12_chain_94 (by decide) (fun c180 => ?_) (fun c180 => absurd (by decide) c180)
        refine lv_aload_n hx hb dX12_chain_117 rfl (lv_at hl 0 rfl) ?_
        refine lv_aload_n hx hb dX12_chain_118 rfl (lv_at hl 0 rfl) ?_
        refine z_get (T := TX12) (N := 96) (ci := 12) (i := 0) (v := .ref (ad 28)) hx hb hts zj_X12_chain_X12 hown hK hW rfl rfl 45 (by decide) (hts (.fieldLink RX12 97 "PetrolBoardModel" "one" "[I") (me_s (me_l (me_l (List.mem_of_getElem? (i := 1) rfl))))) (fun _ h => h) rfl dX12_chain_119 ?_
        refine lv_iload_n hx hb dX12_chain_122 rfl (lv_at hl 1 rfl) ?_
        refine z_iald (i := 28) hx hb hK hW rfl (z_ix rfl (by omega) (by omega)) dX12_chain_123 ?_
        refine z_topi (v := (I 0 40)) (by rw [eI123, z_up_s]) ?_
        refine z_cv hW hS hA (va_runV (As := [.int (I 0 40)]) (rest := []) ⟨hx, hb, hml, hown, hts⟩ (sx_X12_ends_x l G ad I123 J ⟨(by show 0 ≤ (I123 0 47).toInt ∧ (I123 0 47).toInt ≤ 119; rw [eI123, z_up_n (by decide)]; exact hmd.1), (by show 0 ≤ (I123 0 39).toInt ∧ (I123 0 39).toInt ≤ 100; rw [eI123, z_up_n (by decide)]; exact hmd.2)⟩ (by show 0 ≤ (I123 0 40).toInt ∧ (I123 0 40).toInt ≤ 6199; rw [eI123, z_up_n (by decide)]; exact hmg) (I 0 40) (by first | omega | decide) (by have q0 : (I123 0 47) = (I 0 47) := (by rw [eI123, z_up_n (by decide)]); show 1 ≤ (I123 0 47).toInt; rw [q0]; omega) _) (cwV 1 hts gX12_chain_X12_ends rfl rfl rfl (by decide +kernel) ⟨Nat.le_of_ble_eq_true rfl, Nat.le_of_ble_eq_true rfl⟩) (z_preV (i := 0) hK hW rfl rfl) rfl rfl hl.1 rfl (lv_room (Nat.le_of_ble_eq_true rfl)) dX12_chain_124 ⟨Nat.le_of_ble_eq_true rfl, Nat.le_of_ble_eq_true rfl⟩) (fun u1 H locs hp hW hS => ?_)
        obtain ⟨I181, J183, e9, hI181md, hI181mg, fI181, hp⟩ := hp
        rw [e9] at hW
        have f182 := z_fr_sub (L := L_X12_chain_0_x) f124 fI181 (by decide)
        have k184 : 0 ≤ (I181 0 31).toInt ∧ (I181 0 31).toInt ≤ 500 := by rw [fI181 0 31 (by decide)]; exact (by show 0 ≤ (I123 0 31).toInt ∧ (I123 0 31).toInt ≤ 500; rw [eI123, z_up_n (by decide)]; exact hmp.1)
        have k185 : 0 ≤ (I181 0 33).toInt ∧ (I181 0 33).toInt ≤ 500 := by rw [fI181 0 33 (by decide)]; exact (by show 0 ≤ (I123 0 33).toInt ∧ (I123 0 33).toInt ≤ 500; rw [eI123, z_up_n (by decide)]; exact hmp.2.1)
        have k186 : 0 ≤ (I181 0 34).toInt ∧ (I181 0 34).toInt ≤ 500 := by rw [fI181 0 34 (by decide)]; exact (by show 0 ≤ (I123 0 34).toInt ∧ (I123 0 34).toInt ≤ 500; rw [eI123, z_up_n (by decide)]; exact hmp.2.2.1)
        have k187 : 0 ≤ (I181 0 35).toInt ∧ (I181 0 35).toInt ≤ 500 := by rw [fI181 0 35 (by decide)]; exact (by show 0 ≤ (I123 0 35).toInt ∧ (I123 0 35).toInt ≤ 500; rw [eI123, z_up_n (by decide)]; exact hmp.2.2.2)
        have k188 : 0 ≤ (I181 0 36).toInt ∧ (I181 0 36).toInt ≤ 4 := by rw [fI181 0 36 (by decide)]; exact (by show 0 ≤ (I123 0 36).toInt ∧ (I123 0 36).toInt ≤ 4; rw [eI123, z_up_n (by decide)]; exact hmt.1)
        have k189 : 0 ≤ (I181 0 42).toInt ∧ (I181 0 42).toInt ≤ 1 := by rw [fI181 0 42 (by decide)]; exact (by show 0 ≤ (I123 0 42).toInt ∧ (I123 0 42).toInt ≤ 1; rw [eI123, z_up_n (by decide)]; exact hmt.2)
        have k190 : 0 ≤ (I181 0 15).toInt ∧ (I181 0 15).toInt ≤ 6100 := by rw [fI181 0 15 (by decide)]; exact (by show 0 ≤ (I123 0 15).toInt ∧ (I123 0 15).toInt ≤ 6100; rw [eI123, z_up_n (by decide)]; exact hmn)
        have k191 : 0 ≤ (I181 0 35).toInt ∧ (I181 0 35).toInt ≤ (I181 0 34).toInt ∧ (I181 0 34).toInt ≤ (I181 0 33).toInt ∧ (I181 0 33).toInt ≤ 500 ∧ ((I181 0 36).toInt = 0 ∨ (I181 0 35).toInt + 1 ≤ (I181 0 34).toInt) := (by have q0 : (I181 0 35) = (I 0 35) := (by rw [fI181 0 35 (by decide), eI123, z_up_n (by decide)]); have q1 : (I181 0 34) = (I 0 34) := (by rw [fI181 0 34 (by decide), eI123, z_up_n (by decide)]); have q2 : (I181 0 33) = (I 0 33) := (by rw [fI181 0 33 (by decide), eI123, z_up_n (by decide)]); have q3 : (I181 0 36) = (I 0 36) := (by rw [fI181 0 36 (by decide), eI123, z_up_n (by decide)]); show 0 ≤ (I181 0 35).toInt ∧ (I181 0 35).toInt ≤ (I181 0 34).toInt ∧ (I181 0 34).toInt ≤ (I181 0 33).toInt ∧ (I181 0 33).toInt ≤ 500 ∧ ((I181 0 36).toInt = 0 ∨ (I181 0 35).toInt + 1 ≤ (I181 0 34).toInt); rw [q0, q1, q2, q3]; first | omega | decide)
        have k192 : (I181 0 35).toInt = (I 0 35).toInt := by rw [fI181 0 35 (by decide), eI123, z_up_n (by decide)]
        have k193 : (I181 0 34).toInt = (I 0 34).toInt := by rw [fI181 0 34 (by decide), eI123, z_up_n (by decide)]
        have k194 : (I181 0 36).toInt = (I 0 36).toInt := by rw [fI181 0 36 (by decide), eI123, z_up_n (by decide)]
        have k195 : (I181 0 42).toInt = (I 0 42).toInt := by rw [fI181 0 42 (by decide), eI123, z_up_n (by decide)]
        have k196 : (I181 0 39).toInt = (I 0 39).toInt := by rw [fI181 0 39 (by decide), eI123, z_up_n (by decide)]
        have k197 : (I181 0 15).toInt = (I 0 15).toInt := by rw [fI181 0 15 (by decide), eI123, z_up_n (by decide)]
        obtain ⟨hp, h198, hJ199⟩ := hp
        have h200 := hp
        have h201 := hp
        rw [show (I123 0 47) = (I 0 47) from by rw [eI123, z_up_n (by decide)]] at h201
        have hE202 : zm_E gt gv gp ge gh gm n0 gI I181 J183 (.inr (tq, FS, fo, fg, NN)) := zm_E_ends hE126 h200 h198 (by omega) fI181 (by decide) hJ199
        have h203 := zm_E_W hE202
        have h204 := zm_E_D hE202
        exact z_vret hx hb hr hK hS (Nat.le_of_ble_eq_true rfl) (Nat.le_of_ble_eq_true rfl) hlocks dX12_chain_127 (shM, ad, I181, J183, PM ad) hW ⟨I181, J183, rfl, ⟨(by show 0 ≤ (I181 0 31).toInt ∧ (I181 0 31).toInt ≤ 500; exact k184), (by show 0 ≤ (I181 0 33).toInt ∧ (I181 0 33).toInt ≤ 500; exact k185), (by show 0 ≤ (I181 0 34).toInt ∧ (I181 0 34).toInt ≤ 500; exact k186), (by show 0 ≤ (I181 0 35).toInt ∧ (I181 0 35).toInt ≤ 500; exact k187)⟩, ⟨(by show 0 ≤ (I181 0 36).toInt ∧ (I181 0 36).toInt ≤ 4; exact k188), (by show 0 ≤ (I181 0 42).toInt ∧ (I181 0 42).toInt ≤ 1; exact k189)⟩, ⟨(by show 0 ≤ (I181 0 47).toInt ∧ (I181 0 47).toInt ≤ 119; exact hI181md.1), (by show 0 ≤ (I181 0 39).toInt ∧ (I181 0 39).toInt ≤ 100; exact hI181md.2)⟩, (by show 0 ≤ (I181 0 40).toInt ∧ (I181 0 40).toInt ≤ 6199; exact hI181mg), (by show 0 ≤ (I181 0 15).toInt ∧ (I181 0 15).toInt ≤ 6100; exact k190), (z_Nd_fr a125 fI181 (by decide)), (by show 0 ≤ (I181 0 35).toInt ∧ (I181 0 35).toInt ≤ (I181 0 34).toInt ∧ (I181 0 34).toInt ≤ (I181 0 33).toInt ∧ (I181 0 33).toInt ≤ 500 ∧ ((I181 0 36).toInt = 0 ∨ (I181 0 35).toInt + 1 ≤ (I181 0 34).toInt); first | omega | decide), f182, ⟨((Classical.em ((I181 0 42).toInt = 0)).elim (fun hw9 => Or.inr ⟨a1.toNatClampNeg, by have w1 := z_fw_4nm (a := va.toInt) (o := vo.toInt) (by omega) (by omega); have w2 := z_fo_4n (a := va.toInt); exact z_POP (d := a1.toNatClampNeg) hPS (fun i hi => ⟨by rw [fI181 26 i (z_wr_c (by decide)), eI123, z_up_n (by decide)], by rw [fI181 27 i (z_wr_c (by decide)), eI123, z_up_n (by decide)], by rw [fI181 28 i (z_wr_c (by decide)), eI123, z_up_k (by omega)], by rw [fI181 29 i (z_wr_c (by decide)), eI123, z_up_n (by decide)]⟩) (by omega) (by omega) (by omega) (by omega) (by omega) (by omega)⟩) Or.inl), (by have hz9 : zp_st gt gv (n0 : Int) (.inr (tq, (4, fa, fx, fs) :: FS, fo, fg, NN)) = .inr (tq, FS, fo, fg, NN) := (by first | (simp [zp_st, zp_op, zp_cm, zp_cb, (show ¬ fa = 0 by omega), (show fx < 0 by omega), ht179]; done) | (exfalso; omega)); rw [hz9]; exact hE202)⟩⟩
  · have g205 := z_f_eq rfl z_l0 c1
    refine lv_aload_n hx hb dX12_chain_9 rfl (lv_at hl 0 rfl) ?_
    refine z_get (T := TX12) (N := 96) (ci := 12) (i := 0) (v := .ref (ad 27)) hx hb hts zj_X12_chain_X12 hown hK hW rfl rfl 44 (by decide) (hts (.fieldLink RX12 94 "PetrolBoardModel" "at" "[I") (me_s (me_l (me_l (List.mem_of_getElem? (i := 0) rfl))))) (fun _ h => h) rfl dX12_chain_10 ?_
    refine lv_iload_n hx hb dX12_chain_13 rfl (lv_at hl 1 rfl) ?_
    refine lv_iconst (v := 1) hx hb dX12_chain_14 (by decide) ?_
    refine z_iast (i := 27) hx hb hK hW hS rfl (z_ix rfl (by omega) (by omega)) dX12_chain_15 (fun H locs hz1 hW hS => ?_)
    obtain ⟨I206, eI206⟩ : ∃ K : z_I, K = z_up I 27 a1.toNatClampNeg 1 := ⟨_, rfl⟩
    rw [← eI206] at hW
    have f207 := z_fr_a z_fr_0 (show z_wa L_X12_chain_0_x 27 = true by decide) eI206
    have a208 := z_Nd_n hNd (by decide) eI206
    have z209 := z_l1
    have hE210 : zm_E gt gv gp ge gh gm n0 gI I206 J (.inr (tq, (4, 1, fx, fs) :: FS, fo, fg, NN)) := zm_E_top hE eI206 hdk (Or.inl ⟨rfl, by omega, rfl, rfl, rfl⟩)
    have h211 := zm_E_W hE210
    have h212 := zm_E_D hE210
    refine lv_aload_n hx hb dX12_chain_16 rfl (lv_at hl 0 rfl) ?_
    refine lv_iload_n hx hb dX12_chain_17 rfl (lv_at hl 2 rfl) ?_
    refine lv_if_eq (tgt := 25) hx hb dX12_chain_18 (by decide) (fun c213 => ?_) (fun c213 => absurd (by decide) c213)
    refine lv_iconst (v := 5) hx hb dX12_chain_25 (by decide) ?_
    refine z_cv hW hS hA (va_runV (As := [.int 5]) (rest := []) ⟨hx, hb, hml, hown, hts⟩ (sx_X12_begin_x l G ad I206 J ⟨(by show 0 ≤ (I206 0 47).toInt ∧ (I206 0 47).toInt ≤ 119; rw [eI206, z_up_n (by decide)]; exact hmd.1), (by show 0 ≤ (I206 0 39).toInt ∧ (I206 0 39).toInt ≤ 100; rw [eI206, z_up_n (by decide)]; exact hmd.2)⟩ 5 (by have q0 : (I206 0 47) = (I 0 47) := (by rw [eI206, z_up_n (by decide)]); show (I206 0 47).toInt ≤ 118; rw [q0]; omega) _) (cwV 1 hts gX12_chain_X12_begin rfl rfl rfl (by decide +kernel) ⟨Nat.le_of_ble_eq_true rfl, Nat.le_of_ble_eq_true rfl⟩) (z_preV (i := 0) hK hW rfl rfl) rfl rfl hl.1 rfl (lv_room (Nat.le_of_ble_eq_true rfl)) dX12_chain_26 ⟨Nat.le_of_ble_eq_true rfl, Nat.le_of_ble_eq_true rfl⟩) (fun u1 H locs hp hW hS => ?_)
    obtain ⟨I214, J216, e9, hI214md, fI214, hp⟩ := hp
    rw [e9] at hW
    have f215 := z_fr_sub (L := L_X12_chain_0_x) f207 fI214 (by decide)
    have k217 : 0 ≤ (I214 0 31).toInt ∧ (I214 0 31).toInt ≤ 500 := by rw [fI214 0 31 (by decide)]; exact (by show 0 ≤ (I206 0 31).toInt ∧ (I206 0 31).toInt ≤ 500; rw [eI206, z_up_n (by decide)]; exact hmp.1)
    have k218 : 0 ≤ (I214 0 33).toInt ∧ (I214 0 33).toInt ≤ 500 := by rw [fI214 0 33 (by decide)]; exact (by show 0 ≤ (I206 0 33).toInt ∧ (I206 0 33).toInt ≤ 500; rw [eI206, z_up_n (by decide)]; exact hmp.2.1)
    have k219 : 0 ≤ (I214 0 34).toInt ∧ (I214 0 34).toInt ≤ 500 := by rw [fI214 0 34 (by decide)]; exact (by show 0 ≤ (I206 0 34).toInt ∧ (I206 0 34).toInt ≤ 500; rw [eI206, z_up_n (by decide)]; exact hmp.2.2.1)
    have k220 : 0 ≤ (I214 0 35).toInt ∧ (I214 0 35).toInt ≤ 500 := by rw [fI214 0 35 (by decide)]; exact (by show 0 ≤ (I206 0 35).toInt ∧ (I206 0 35).toInt ≤ 500; rw [eI206, z_up_n (by decide)]; exact hmp.2.2.2)
    have k221 : 0 ≤ (I214 0 36).toInt ∧ (I214 0 36).toInt ≤ 4 := by rw [fI214 0 36 (by decide)]; exact (by show 0 ≤ (I206 0 36).toInt ∧ (I206 0 36).toInt ≤ 4; rw [eI206, z_up_n (by decide)]; exact hmt.1)
    have k222 : 0 ≤ (I214 0 42).toInt ∧ (I214 0 42).toInt ≤ 1 := by rw [fI214 0 42 (by decide)]; exact (by show 0 ≤ (I206 0 42).toInt ∧ (I206 0 42).toInt ≤ 1; rw [eI206, z_up_n (by decide)]; exact hmt.2)
    have k223 : 0 ≤ (I214 0 40).toInt ∧ (I214 0 40).toInt ≤ 6199 := by rw [fI214 0 40 (by decide)]; exact (by show 0 ≤ (I206 0 40).toInt ∧ (I206 0 40).toInt ≤ 6199; rw [eI206, z_up_n (by decide)]; exact hmg)
    have k224 : 0 ≤ (I214 0 15).toInt ∧ (I214 0 15).toInt ≤ 6100 := by rw [fI214 0 15 (by decide)]; exact (by show 0 ≤ (I206 0 15).toInt ∧ (I206 0 15).toInt ≤ 6100; rw [eI206, z_up_n (by decide)]; exact hmn)
    have k225 : 0 ≤ (I214 0 35).toInt ∧ (I214 0 35).toInt ≤ (I214 0 34).toInt ∧ (I214 0 34).toInt ≤ (I214 0 33).toInt ∧ (I214 0 33).toInt ≤ 500 ∧ ((I214 0 36).toInt = 0 ∨ (I214 0 35).toInt + 1 ≤ (I214 0 34).toInt) := (by have q0 : (I214 0 35) = (I 0 35) := (by rw [fI214 0 35 (by decide), eI206, z_up_n (by decide)]); have q1 : (I214 0 34) = (I 0 34) := (by rw [fI214 0 34 (by decide), eI206, z_up_n (by decide)]); have q2 : (I214 0 33) = (I 0 33) := (by rw [fI214 0 33 (by decide), eI206, z_up_n (by decide)]); have q3 : (I214 0 36) = (I 0 36) := (by rw [fI214 0 36 (by decide), eI206, z_up_n (by decide)]); show 0 ≤ (I214 0 35).toInt ∧ (I214 0 35).toInt ≤ (I214 0 34).toInt ∧ (I214 0 34).toInt ≤ (I214 0 33).toInt ∧ (I214 0 33).toInt ≤ 500 ∧ ((I214 0 36).toInt = 0 ∨ (I214 0 35).toInt + 1 ≤ (I214 0 34).toInt); rw [q0, q1, q2, q3]; first | omega | decide)
    have k226 : (I214 0 35).toInt = (I 0 35).toInt := by rw [fI214 0 35 (by decide), eI206, z_up_n (by decide)]
    have k227 : (I214 0 34).toInt = (I 0 34).toInt := by rw [fI214 0 34 (by decide), eI206, z_up_n (by decide)]
    have k228 : (I214 0 36).toInt = (I 0 36).toInt := by rw [fI214 0 36 (by decide), eI206, z_up_n (by decide)]
    have k229 : (I214 0 42).toInt = (I 0 42).toInt := by rw [fI214 0 42 (by decide), eI206, z_up_n (by decide)]
    have k230 : (I214 0 39).toInt = (I 0 39).toInt := by rw [fI214 0 39 (by decide), eI206, z_up_n (by decide)]
    have k231 : (I214 0 15).toInt = (I 0 15).toInt := by rw [fI214 0 15 (by decide), eI206, z_up_n (by decide)]
    have k232 : (I214 0 40).toInt = (I 0 40).toInt := by rw [fI214 0 40 (by decide), eI206, z_up_n (by decide)]
    obtain ⟨hp, hJ233⟩ := hp
    have h234 := hp
    have hE235 : zm_E gt gv gp ge gh gm n0 gI I214 J216 (.inr (tq, (5, 0, -1, 0) :: (4, 1, fx, fs) :: FS, fo, fg, NN)) := zm_E_begin hE210 h234 z_l5 fI214 (by decide) hJ233
    have h236 := zm_E_W hE235
    have h237 := zm_E_D hE235
    exact z_vret hx hb hr hK hS (Nat.le_of_ble_eq_true rfl) (Nat.le_of_ble_eq_true rfl) hlocks dX12_chain_29 (shM, ad, I214, J216, PM ad) hW ⟨I214, J216, rfl, ⟨(by show 0 ≤ (I214 0 31).toInt ∧ (I214 0 31).toInt ≤ 500; exact k217), (by show 0 ≤ (I214 0 33).toInt ∧ (I214 0 33).toInt ≤ 500; exact k218), (by show 0 ≤ (I214 0 34).toInt ∧ (I214 0 34).toInt ≤ 500; exact k219), (by show 0 ≤ (I214 0 35).toInt ∧ (I214 0 35).toInt ≤ 500; exact k220)⟩, ⟨(by show 0 ≤ (I214 0 36).toInt ∧ (I214 0 36).toInt ≤ 4; exact k221), (by show 0 ≤ (I214 0 42).toInt ∧ (I214 0 42).toInt ≤ 1; exact k222)⟩, ⟨(by show 0 ≤ (I214 0 47).toInt ∧ (I214 0 47).toInt ≤ 119; exact hI214md.1), (by show 0 ≤ (I214 0 39).toInt ∧ (I214 0 39).toInt ≤ 100; exact hI214md.2)⟩, (by show 0 ≤ (I214 0 40).toInt ∧ (I214 0 40).toInt ≤ 6199; exact k223), (by show 0 ≤ (I214 0 15).toInt ∧ (I214 0 15).toInt ≤ 6100; exact k224), (z_Nd_fr a208 fI214 (by decide)), (by show 0 ≤ (I214 0 35).toInt ∧ (I214 0 35).toInt ≤ (I214 0 34).toInt ∧ (I214 0 34).toInt ≤ (I214 0 33).toInt ∧ (I214 0 33).toInt ≤ 500 ∧ ((I214 0 36).toInt = 0 ∨ (I214 0 35).toInt + 1 ≤ (I214 0 34).toInt); first | omega | decide), f215, ⟨((Classical.em ((I214 0 42).toInt = 0)).elim (fun hw9 => Or.inr ⟨a1.toNatClampNeg + 2, by have w1 := z_fw_40 (a := va.toInt) (o := vo.toInt) (by omega); have w2 := z_fo_4n (a := va.toInt); have w3 := z_fw_4nm (a := 1) (o := vo.toInt) (by omega) (by omega); have w4 := z_fo_4n (a := 1); have w5 := z_fw_50 (a := 0) (o := -1) (by omega); have w6 := z_rk_4; have w7 := z_rk_5; exact z_PUSH (d := a1.toNatClampNeg) (w := 4) (a := 1) (o := vo.toInt) (s := vs.toInt) (wi := 5) hPS (fun i hi => ⟨by rw [eI206, z_up_n (by decide)], by rw [eI206, z_up_k (by omega)], by rw [eI206, z_up_n (by decide)], by rw [eI206, z_up_n (by decide)]⟩) (by rw [show I206 26 a1.toNatClampNeg = vw from (by rw [eI206, z_up_n (by decide)]; exact evw.symm)]; exact hvw) (by rw [show I206 27 a1.toNatClampNeg = 1 from (by rw [eI206, z_up_s])]; exact z_l1) (by rw [show I206 28 a1.toNatClampNeg = vo from (by rw [eI206, z_up_n (by decide)]; exact evo.symm)]) (by rw [show I206 29 a1.toNatClampNeg = vs from (by rw [eI206, z_up_n (by decide)]; exact evs.symm)]) (by unfold z_fv; omega) hwd (by rw [eI206, z_up_n (by decide)]; omega) h234 z_l5 (by omega) (by omega) (by omega) (by omega) (by omega) (by omega) (by omega) (by omega)⟩) Or.inl), (by have hz9 : zp_st gt gv (n0 : Int) (.inr (tq, (4, fa, fx, fs) :: FS, fo, fg, NN)) = .inr (tq, (5, 0, -1, 0) :: (4, 1, fx, fs) :: FS, fo, fg, NN) := (by first | (simp [zp_st, zp_op, zp_cm, zp_cb, (show fa = 0 by omega)]; done) | (exfalso; omega)); rw [hz9]; exact hE235)⟩⟩
