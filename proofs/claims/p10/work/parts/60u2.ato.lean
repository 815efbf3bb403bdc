

noncomputable def L_X12_atom_x : z_L := [(0, 35), (0, 36), (0, 37), (0, 38), (0, 34), (0, 42), (0, 32), (0, 39), (21, 999), (22, 999), (23, 999), (0, 15), (26, 999), (27, 999), (28, 999), (29, 999), (0, 47), (0, 40)]
set_option maxHeartbeats 8000000 in
set_option maxRecDepth 100000 in
theorem sx_X12_atom_x (l : Launch) (G : z_G) (ad : Nat → Nat) (I : z_I) (J : z_J) (hmp : z_imp I) (hmt : z_imt I) (hmd : z_imd I) (hmg : z_img I) (hmn : z_imn I) (hNd : z_Nd I) (hrp : z_irp I) (B : Int) (gt gv : Nat → Int) (gp ge : Nat → Nat) (gh : Nat → Int) (gm n0 : Nat) (gI : z_I) (tq : Nat) (FS : List zp_F) (fa fx fs fo fg : Int) (NN : List zp_N) (a1 : Int32) (q1 : 0 ≤ a1.toInt ∧ a1.toInt ≤ 33) (hwd : (I 26 a1.toNatClampNeg).toInt = 2) (hPS : z_PS I (a1.toNatClampNeg + 1) B) (hE : zm_E gt gv gp ge gh gm n0 gI I J (.inr (tq, (2, fa, fx, fs) :: FS, fo, fg, NN))) (hdk : a1.toNatClampNeg = FS.length) (hSM : zp_SM gh gt gv gp ge gm) : z_Mv l yX12_atom wsX12_atom { frames := 4, cells := 0, slots := 0, locals := 76 } [.ref (ad 0), .int a1] G (shM, ad, I, J, PM ad) (fun u1 => ∃ (I1 : z_I) (J1 : z_J), u1 = (shM, ad, I1, J1, PM ad) ∧ z_imp I1 ∧ z_imt I1 ∧ z_imd I1 ∧ z_img I1 ∧ z_imn I1 ∧ z_Nd I1 ∧ z_irp I1 ∧ z_fr L_X12_atom_x I1 I ∧ ((¬ (I1 0 42).toInt = 0 ∨ ∃ n, z_PS I1 n (B - 1)) ∧ zm_E gt gv gp ge gh gm n0 gI I1 J1 (zp_st gt gv (n0 : Int) (.inr (tq, (2, fa, fx, fs) :: FS, fo, fg, NN))))) 0 0 := by
  intro sz
  refine z_headQ (cc := cX12_atom) (maxL := 3) (ret := none) (by decide) rfl (Nat.le_of_ble_eq_true rfl) ?_
  intro p e s m below meth c0 ls hIn hK hsz hW hl
  obtain ⟨hx, hb, hr, hml, hown, hts, hlocks, hname⟩ := hIn
  subst hsz
  have hown : s.vm.findClass RX12 = some m.cls := hown
  have hA : ∀ q : Nat, s.heap.size ≤ q → z_A (shM, ad, I, J, PM ad) s.heap.size q := fun q h => Or.inr h
  generalize hAe : z_A (shM, ad, I, J, PM ad) s.heap.size = A at *
  have hS : va_S A s.heap s.heap [] := va_S.rf
  have hl : lv_has ls 3 [(0, .ref (ad 0)), (1, .int a1)] := hl
  obtain ⟨va, eva⟩ : ∃ y, y = I 27 a1.toNatClampNeg := ⟨_, rfl⟩
  obtain ⟨vo, evo⟩ : ∃ y, y = I 28 a1.toNatClampNeg := ⟨_, rfl⟩
  obtain ⟨vs, evs⟩ : ∃ y, y = I 29 a1.toNatClampNeg := ⟨_, rfl⟩
  have hT := z_top hPS
  unfold z_fv at hT
  rw [hwd, ← eva, ← evo, ← evs] at hT
  obtain ⟨t1, t2, t3, t4, t5, t6, t7, t8, t9, t10, t11, t12, t13, t14, t15, t16, t17, t18, t19, t20, t21⟩ := hT
  have hk9 := z_clt (x := a1) rfl q1.1
  have hcw := z_fwc_2 va.toInt vo.toInt
  have hcf := z_foc_2 va.toInt
  obtain ⟨vw, evw⟩ : ∃ y, y = I 26 a1.toNatClampNeg := ⟨_, rfl⟩
  have hvw : vw.toInt = 2 := by rw [evw]; exact hwd
  have hE1 := zm_E_W hE
  have hE2 := zm_E_D hE
  have hE4 := zm_E_nu hE
  have hE5 := zm_E_w1 hE
  have hE3 := zm_E_F hE
  rw [← hdk, ← eva, ← evo, ← evs] at hE3
  have krp : 0 ≤ (I 0 35).toInt ∧ (I 0 35).toInt ≤ (I 0 34).toInt ∧ (I 0 34).toInt ≤ (I 0 33).toInt ∧ (I 0 33).toInt ≤ 500 ∧ ((I 0 36).toInt = 0 ∨ (I 0 35).toInt + 1 ≤ (I 0 34).toInt) := hrp
  refine lv_aload_n hx hb dX12_atom_0 rfl (lv_at hl 0 rfl) ?_
  refine z_get (T := TX12) (N := 96) (ci := 12) (i := 0) (v := .ref (ad 27)) hx hb hts zj_X12_atom_X12 hown hK hW rfl rfl 44 (by decide) (hts (.fieldLink RX12 94 "PetrolBoardModel" "at" "[I") (me_s (me_l (me_l (List.mem_of_getElem? (i := 0) rfl))))) (fun _ h => h) rfl dX12_atom_1 ?_
  refine lv_iload_n hx hb dX12_atom_4 rfl (lv_at hl 1 rfl) ?_
  refine z_iald (i := 27) hx hb hK hW rfl (z_ix rfl (by omega) (by omega)) dX12_atom_5 ?_
  refine z_topi (v := va) eva.symm ?_
  refine lv_if_ne (tgt := 198) hx hb dX12_atom_6 (by decide) (fun c1 => ?_) (fun c1 => ?_)
  · have g2 := z_f_ne rfl z_l0 c1
    refine lv_aload_n hx hb dX12_atom_198 rfl (lv_at hl 0 rfl) ?_
    refine z_get (T := TX12) (N := 96) (ci := 12) (i := 0) (v := .ref (ad 27)) hx hb hts zj_X12_atom_X12 hown hK hW rfl rfl 44 (by decide) (hts (.fieldLink RX12 94 "PetrolBoardModel" "at" "[I") (me_s (me_l (me_l (List.mem_of_getElem? (i := 0) rfl))))) (fun _ h => h) rfl dX12_atom_199 ?_
    refine lv_iload_n hx hb dX12_atom_202 rfl (lv_at hl 1 rfl) ?_
    refine z_iald (i := 27) hx hb hK hW rfl (z_ix rfl (by omega) (by omega)) dX12_atom_203 ?_
    refine z_topi (v := va) eva.symm ?_
    refine lv_iconst (v := 2) hx hb dX12_atom_204 (by decide) ?_
    refine lv_icmp_ne (tgt := 246) hx hb dX12_atom_205 (by decide) (fun c3 => ?_) (fun c3 => ?_)
    · have g4 := z_f_ne rfl z_l2 c3
      refine lv_aload_n hx hb dX12_atom_246 rfl (lv_at hl 0 rfl) ?_
      refine lv_bipush (v := 41) hx hb dX12_atom_247 (by decide) ?_
      refine z_cv hW hS hA (va_runV (As := [.int 41]) (rest := []) ⟨hx, hb, hml, hown, hts⟩ (sx_X12_must_x l G ad I J ⟨(by show 0 ≤ (I 0 31).toInt ∧ (I 0 31).toInt ≤ 500; exact hmp.1), (by show 0 ≤ (I 0 33).toInt ∧ (I 0 33).toInt ≤ 500; exact hmp.2.1), (by show 0 ≤ (I 0 34).toInt ∧ (I 0 34).toInt ≤ 500; exact hmp.2.2.1), (by show 0 ≤ (I 0 35).toInt ∧ (I 0 35).toInt ≤ 500; exact hmp.2.2.2)⟩ ⟨(by show 0 ≤ (I 0 36).toInt ∧ (I 0 36).toInt ≤ 4; exact hmt.1), (by show 0 ≤ (I 0 42).toInt ∧ (I 0 42).toInt ≤ 1; exact hmt.2)⟩ (by show 0 ≤ (I 0 35).toInt ∧ (I 0 35).toInt ≤ (I 0 34).toInt ∧ (I 0 34).toInt ≤ (I 0 33).toInt ∧ (I 0 33).toInt ≤ 500 ∧ ((I 0 36).toInt = 0 ∨ (I 0 35).toInt + 1 ≤ (I 0 34).toInt); first | omega | decide) gt gv gp ge gh gm n0 gI (tq) ((2, fa, fx, fs) :: FS) (fo) (fg) (NN) 41 hE hSM (show zp_sg (41 : Int32).toInt by have := z_l41; unfold zp_sg; omega) _) (cwV 1 hts gX12_atom_X12_must rfl rfl rfl (by decide +kernel) ⟨Nat.le_of_ble_eq_true rfl, Nat.le_of_ble_eq_true rfl⟩) (z_preV (i := 0) hK hW rfl rfl) rfl rfl hl.1 rfl (lv_room (Nat.le_of_ble_eq_true rfl)) dX12_atom_249 ⟨Nat.le_of_ble_eq_true rfl, Nat.le_of_ble_eq_true rfl⟩) (fun u1 H locs hp hW hS => ?_)
      obtain ⟨I5, J7, e9, hI5mp, hI5mt, hI5rp, fI5, hp⟩ := hp
      rw [e9] at hW
      have f6 := z_fr_sub (L := L_X12_atom_x) z_fr_0 fI5 (by decide)
      have k8 : 0 ≤ (I5 0 47).toInt ∧ (I5 0 47).toInt ≤ 119 := by rw [fI5 0 47 (by decide)]; exact (by show 0 ≤ (I 0 47).toInt ∧ (I 0 47).toInt ≤ 119; exact hmd.1)
      have k9 : 0 ≤ (I5 0 39).toInt ∧ (I5 0 39).toInt ≤ 100 := by rw [fI5 0 39 (by decide)]; exact (by show 0 ≤ (I 0 39).toInt ∧ (I 0 39).toInt ≤ 100; exact hmd.2)
      have k10 : 0 ≤ (I5 0 40).toInt ∧ (I5 0 40).toInt ≤ 6199 := by rw [fI5 0 40 (by decide)]; exact (by show 0 ≤ (I 0 40).toInt ∧ (I 0 40).toInt ≤ 6199; exact hmg)
      have k11 : 0 ≤ (I5 0 15).toInt ∧ (I5 0 15).toInt ≤ 6100 := by rw [fI5 0 15 (by decide)]; exact (by show 0 ≤ (I 0 15).toInt ∧ (I 0 15).toInt ≤ 6100; exact hmn)
      have k12 : 0 ≤ (I5 0 35).toInt ∧ (I5 0 35).toInt ≤ (I5 0 34).toInt ∧ (I5 0 34).toInt ≤ (I5 0 33).toInt ∧ (I5 0 33).toInt ≤ 500 ∧ ((I5 0 36).toInt = 0 ∨ (I5 0 35).toInt + 1 ≤ (I5 0 34).toInt) := hI5rp
      have k13 : (I5 0 47).toInt = (I 0 47).toInt := by rw [fI5 0 47 (by decide)]
      have k14 : (I5 0 39).toInt = (I 0 39).toInt := by rw [fI5 0 39 (by decide)]
      have k15 : (I5 0 15).toInt = (I 0 15).toInt := by rw [fI5 0 15 (by decide)]
      have k16 : (I5 0 40).toInt = (I 0 40).toInt := by rw [fI5 0 40 (by decide)]
      obtain ⟨h18, h17⟩ := hp
      have h19 := h18
      rcases h17 with ⟨ht20, he21⟩ | ⟨ht20, he21⟩
      · have z22 := z_l41
        have ht23 : gt (tq) = 41 := by omega
        have hE24 : zm_E gt gv gp ge gh gm n0 gI I5 J7 (.inr (tq + 1, (2, fa, fx, fs) :: FS, fo, fg, NN)) := he21
        have h25 := zm_E_W hE24
        have h26 := zm_E_D hE24
        refine lv_aload_n hx hb dX12_atom_252 rfl (lv_at hl 0 rfl) ?_
        refine lv_dup hx hb dX12_atom_253 rfl ?_
        have r27 : 0 ≤ (I5 0 39).toInt ∧ (I5 0 39).toInt ≤ 100 := k9
        refine z_get (T := TX12) (N := 96) (ci := 12) (i := 0) (v := .int (I5 0 39)) hx hb hts zj_X12_atom_X12 hown hK hW rfl rfl 39 (by decide) (hts (.fieldLink RX12 346 "PetrolBoardModel" "open" "I") (me_s (me_l (me_l (List.mem_of_getElem? (i := 10) rfl))))) (fun _ h => h) rfl dX12_atom_254 ?_
        refine lv_iconst (v := 1) hx hb dX12_atom_257 (by decide) ?_
        refine lv_isub hx hb dX12_atom_258 ?_
        refine lv_topi (fun x28 ex28 => ?_)
        have tx28 : x28.toInt = (I5 0 39).toInt - 1 := z_tsub ex28 rfl z_l1 (by omega) (by omega)
        refine z_put (T := TX12) (N := 96) (ci := 12) (i := 0) (v := .int x28) (I1 := z_up I5 0 39 x28) (J1 := J7) (P1 := PM ad) hx hb hts zj_X12_atom_X12 tyX12 tyX12_ok nmX12 hown hK hW hS rfl rfl 39 (by decide) (hts (.fieldLink RX12 346 "PetrolBoardModel" "open" "I") (me_s (me_l (me_l (List.mem_of_getElem? (i := 10) rfl))))) (fun _ h => h) rfl rfl rfl (by first | rfl | exact congrArg _ z_up_s) (fun a b h ty => z_vI h ty) dX12_atom_259 (fun H locs hz1 hW hS => ?_)
        obtain ⟨I29, eI29⟩ : ∃ K : z_I, K = z_up I5 0 39 x28 := ⟨_, rfl⟩
        rw [← eI29] at hW
        have f30 := z_fr_k f6 (show z_wr L_X12_atom_x 0 39 = true by decide) eI29
        have a31 := z_Nd_n (z_Nd_fr hNd fI5 (by decide)) (by decide) eI29
        have hE32 : zm_E gt gv gp ge gh gm n0 gI I29 J7 (.inr (tq + 1, (2, fa, fx, fs) :: FS, fo - 1, fg, NN)) := zm_E_open hE24 eI29 (by omega)
        have h33 := zm_E_W hE32
        have h34 := zm_E_D hE32
        refine lv_aload_n hx hb dX12_atom_262 rfl (lv_at hl 0 rfl) ?_
        have r35 : 0 ≤ (I5 0 42).toInt ∧ (I5 0 42).toInt ≤ 1 := hI5mt.2
        refine z_get (T := TX12) (N := 96) (ci := 12) (i := 0) (v := .int (I5 0 42)) hx hb hts zj_X12_atom_X12 hown hK hW rfl rfl 42 (by decide) (hts (.fieldLink RX12 294 "PetrolBoardModel" "isWrong" "Z") (me_s (me_l (me_l (List.mem_of_getElem? (i := 6) rfl))))) (fun _ h => h) (congrArg Value.int (by rw [eI29, z_up_k (by decide)])) dX12_atom_263 ?_
        refine lv_if_eq (tgt := 270) hx hb dX12_atom_266 (by decide) (fun c36 => ?_) (fun c36 => (by have g := z_f_ne rfl z_l0 c36; omega))
        have g37 := z_f_eq rfl z_l0 c36
        refine lv_aload_n hx hb dX12_atom_270 rfl (lv_at hl 0 rfl) ?_
        refine lv_aload_n hx hb dX12_atom_271 rfl (lv_at hl 0 rfl) ?_
        refine z_get (T := TX12) (N := 96) (ci := 12) (i := 0) (v := .ref (ad 27)) hx hb hts zj_X12_atom_X12 hown hK hW rfl rfl 44 (by decide) (hts (.fieldLink RX12 94 "PetrolBoardModel" "at" "[I") (me_s (me_l (me_l (List.mem_of_getElem? (i := 0) rfl))))) (fun _ h => h) rfl dX12_atom_272 ?_
        refine lv_iload_n hx hb dX12_atom_275 rfl (lv_at hl 1 rfl) ?_
        refine z_iald (i := 27) hx hb hK hW rfl (z_ix rfl (by omega) (by omega)) dX12_atom_276 ?_
        refine z_topi (v := va) (by rw [eI29, z_up_n (by decide), fI5 27 a1.toNatClampNeg (z_wr_c (by decide))]; exact eva.symm) ?_
        refine lv_iconst (v := 1) hx hb dX12_atom_277 (by decide) ?_
        refine lv_icmp_ne (tgt := 288) hx hb dX12_atom_278 (by decide) (fun c38 => ?_) (fun c38 => ?_)
        · have g39 := z_f_ne rfl z_l1 c38
          refine lv_aload_n hx hb dX12_atom_288 rfl (lv_at hl 0 rfl) ?_
          refine lv_aload_n hx hb dX12_atom_289 rfl (lv_at hl 0 rfl) ?_
          refine z_get (T := TX12) (N := 96) (ci := 12) (i := 0) (v := .ref (ad 29)) hx hb hts zj_X12_atom_X12 hown hK hW rfl rfl 46 (by decide) (hts (.fieldLink RX12 100 "PetrolBoardModel" "sort" "[I") (me_s (me_l (me_l (List.mem_of_getElem? (i := 5) rfl))))) (fun _ h => h) rfl dX12_atom_290 ?_
          refine lv_iload_n hx hb dX12_atom_293 rfl (lv_at hl 1 rfl) ?_
          refine z_iald (i := 29) hx hb hK hW rfl (z_ix rfl (by omega) (by omega)) dX12_atom_294 ?_
          refine z_topi (v := vs) (by rw [eI29, z_up_n (by decide), fI5 29 a1.toNatClampNeg (z_wr_c (by decide))]; exact evs.symm) ?_
          refine lv_aload_n hx hb dX12_atom_295 rfl (lv_at hl 0 rfl) ?_
          refine z_get (T := TX12) (N := 96) (ci := 12) (i := 0) (v := .ref (ad 28)) hx hb hts zj_X12_atom_X12 hown hK hW rfl rfl 45 (by decide) (hts (.fieldLink RX12 97 "PetrolBoardModel" "one" "[I") (me_s (me_l (me_l (List.mem_of_getElem? (i := 8) rfl))))) (fun _ h => h) rfl dX12_atom_296 ?_
          refine lv_iload_n hx hb dX12_atom_299 rfl (lv_at hl 1 rfl) ?_
          refine z_iald (i := 28) hx hb hK hW rfl (z_ix rfl (by omega) (by omega)) dX12_atom_300 ?_
          refine z_topi (v := vo) (by rw [eI29, z_up_n (by decide), fI5 28 a1.toNatClampNeg (z_wr_c (by decide))]; exact evo.symm) ?_
          refine lv_aload_n hx hb dX12_atom_301 rfl (lv_at hl 0 rfl) ?_
          have r40 : 0 ≤ (I5 0 40).toInt ∧ (I5 0 40).toInt ≤ 6199 := k10
          refine z_get (T := TX12) (N := 96) (ci := 12) (i := 0) (v := .int (I5 0 40)) hx hb hts zj_X12_atom_X12 hown hK hW rfl rfl 40 (by decide) (hts (.fieldLink RX12 343 "PetrolBoardModel" "got" "I") (me_s (me_l (me_l (List.mem_of_getElem? (i := 9) rfl))))) (fun _ h => h) (congrArg Value.int (by rw [eI29, z_up_k (by decide)])) dX12_atom_302 ?_
          refine z_ci hW hS hA (va_runV (As := [.int vs, .int vo, .int (I5 0 40)]) (rest := [.ref (ad 0)]) ⟨hx, hb, hml, hown, hts⟩ (sx_X12_node_x l G ad I29 J7 (by show 0 ≤ (I29 0 15).toInt ∧ (I29 0 15).toInt ≤ 6100; rw [eI29, z_up_k (by decide)]; exact k11) a31 vs vo (I5 0 40) (by have q0 : (I29 0 15) = (I5 0 15) := (by rw [eI29, z_up_k (by decide)]); show (I29 0 15).toInt ≤ 6099; rw [q0]; omega) (by first | omega | decide) (by first | omega | decide) (by first | omega | decide) _) (cwV 3 hts gX12_atom_X12_node rfl rfl rfl (by decide +kernel) ⟨Nat.le_of_ble_eq_true rfl, Nat.le_of_ble_eq_true rfl⟩) (z_preV (i := 0) hK hW rfl rfl) rfl rfl hl.1 rfl (lv_room (Nat.le_of_ble_eq_true rfl)) dX12_atom_305 ⟨Nat.le_of_ble_eq_true rfl, Nat.le_of_ble_eq_true rfl⟩) (fun r u1 H locs hp hW hS => ?_)
          obtain ⟨I41, J43, e9, hI41mn, hI41Nd, fI41, hp⟩ := hp
          rw [e9] at hW
          have f42 := z_fr_sub (L := L_X12_atom_x) f30 fI41 (by decide)
          have k44 : 0 ≤ (I41 0 31).toInt ∧ (I41 0 31).toInt ≤ 500 := by rw [fI41 0 31 (by decide)]; exact (by show 0 ≤ (I29 0 31).toInt ∧ (I29 0 31).toInt ≤ 500; rw [eI29, z_up_k (by decide)]; exact hI5mp.1)
          have k45 : 0 ≤ (I41 0 33).toInt ∧ (I41 0 33).toInt ≤ 500 := by rw [fI41 0 33 (by decide)]; exact (by show 0 ≤ (I29 0 33).toInt ∧ (I29 0 33).toInt ≤ 500; rw [eI29, z_up_k (by decide)]; exact hI5mp.2.1)
          have k46 : 0 ≤ (I41 0 34).toInt ∧ (I41 0 34).toInt ≤ 500 := by rw [fI41 0 34 (by decide)]; exact (by show 0 ≤ (I29 0 34).toInt ∧ (I29 0 34).toInt ≤ 500; rw [eI29, z_up_k (by decide)]; exact hI5mp.2.2.1)
          have k47 : 0 ≤ (I41 0 35).toInt ∧ (I41 0 35).toInt ≤ 500 := by rw [fI41 0 35 (by decide)]; exact (by show 0 ≤ (I29 0 35).toInt ∧ (I29 0 35).toInt ≤ 500; rw [eI29, z_up_k (by decide)]; exact hI5mp.2.2.2)
          have k48 : 0 ≤ (I41 0 36).toInt ∧ (I41 0 36).toInt ≤ 4 := by rw [fI41 0 36 (by decide)]; exact (by show 0 ≤ (I29 0 36).toInt ∧ (I29 0 36).toInt ≤ 4; rw [eI29, z_up_k (by decide)]; exact hI5mt.1)
          have k49 : 0 ≤ (I41 0 42).toInt ∧ (I41 0 42).toInt ≤ 1 := by rw [fI41 0 42 (by decide)]; exact (by show 0 ≤ (I29 0 42).toInt ∧ (I29 0 42).toInt ≤ 1; rw [eI29, z_up_k (by decide)]; exact hI5mt.2)
          have k50 : 0 ≤ (I41 0 47).toInt ∧ (I41 0 47).toInt ≤ 119 := by rw [fI41 0 47 (by decide)]; exact (by show 0 ≤ (I29 0 47).toInt ∧ (I29 0 47).toInt ≤ 119; rw [eI29, z_up_k (by decide)]; exact k8)
          have k51 : 0 ≤ (I41 0 39).toInt ∧ (I41 0 39).toInt ≤ 100 := by rw [fI41 0 39 (by decide)]; exact (by show 0 ≤ (I29 0 39).toInt ∧ (I29 0 39).toInt ≤ 100; rw [eI29, z_up_s]; omega)
          have k52 : 0 ≤ (I41 0 40).toInt ∧ (I41 0 40).toInt ≤ 6199 := by rw [fI41 0 40 (by decide)]; exact (by show 0 ≤ (I29 0 40).toInt ∧ (I29 0 40).toInt ≤ 6199; rw [eI29, z_up_k (by decide)]; exact k10)
          have k53 : 0 ≤ (I41 0 35).toInt ∧ (I41 0 35).toInt ≤ (I41 0 34).toInt ∧ (I41 0 34).toInt ≤ (I41 0 33).toInt ∧ (I41 0 33).toInt ≤ 500 ∧ ((I41 0 36).toInt = 0 ∨ (I41 0 35).toInt + 1 ≤ (I41 0 34).toInt) := (by have q0 : (I41 0 35) = (I5 0 35) := (by rw [fI41 0 35 (by decide), eI29, z_up_k (by decide)]); have q1 : (I41 0 34) = (I5 0 34) := (by rw [fI41 0 34 (by decide), eI29, z_up_k (by decide)]); have q2 : (I41 0 33) = (I5 0 33) := (by rw [fI41 0 33 (by decide), eI29, z_up_k (by decide)]); have q3 : (I41 0 36) = (I5 0 36) := (by rw [fI41 0 36 (by decide), eI29, z_up_k (by decide)]); show 0 ≤ (I41 0 35).toInt ∧ (I41 0 35).toInt ≤ (I41 0 34).toInt ∧ (I41 0 34).toInt ≤ (I41 0 33).toInt ∧ (I41 0 33).toInt ≤ 500 ∧ ((I41 0 36).toInt = 0 ∨ (I41 0 35).toInt + 1 ≤ (I41 0 34).toInt); rw [q0, q1, q2, q3]; first | omega | decide)
          have k54 : (I41 0 35).toInt = (I5 0 35).toInt := by rw [fI41 0 35 (by decide), eI29, z_up_k (by decide)]
          have k55 : (I41 0 34).toInt = (I5 0 34).toInt := by rw [fI41 0 34 (by decide), eI29, z_up_k (by decide)]
          have k56 : (I41 0 36).toInt = (I5 0 36).toInt := by rw [fI41 0 36 (by decide), eI29, z_up_k (by decide)]
          have k57 : (I41 0 42).toInt = (I5 0 42).toInt := by rw [fI41 0 42 (by decide), eI29, z_up_k (by decide)]
          have k58 : (I41 0 47).toInt = (I5 0 47).toInt := by rw [fI41 0 47 (by decide), eI29, z_up_k (by decide)]
          have k59 : (I41 0 39).toInt = x28.toInt := by rw [fI41 0 39 (by decide), eI29, z_up_s]
          have k60 : (I41 0 40).toInt = (I5 0 40).toInt := by rw [fI41 0 40 (by decide), eI29, z_up_k (by decide)]
          refine lv_topi (fun x65 ex65 => ?_)
          rw [← ex65] at hp
          obtain ⟨h61, h62, h63, hJ64⟩ := hp
          have h66 : 0 ≤ x65.toInt ∧ x65.toInt ≤ 6100 := (by have q9 : 0 ≤ (I29 0 15).toInt ∧ (I29 0 15).toInt ≤ 6100 := (by show 0 ≤ (I29 0 15).toInt ∧ (I29 0 15).toInt ≤ 6100; rw [eI29, z_up_k (by decide)]; exact k11); omega)
          have h67 := h61
          have h68 := h62
          rw [show (I29 0 15) = (I5 0 15) from by rw [eI29, z_up_k (by decide)]] at h61
          rw [show (I29 0 15) = (I5 0 15) from by rw [eI29, z_up_k (by decide)]] at h62
          have hE69 : zm_E gt gv gp ge gh gm n0 gI I41 J43 (.inr (tq + 1, (2, fa, fx, fs) :: FS, fo - 1, fg, NN ++ [(fs, fx, fg)])) := zm_E_node hE32 h63 (by omega) (by omega) (by omega) fI41 (by decide) hJ64
          have h70 := zm_E_W hE69
          have h71 := zm_E_D hE69
          refine z_cv hW hS hA (va_runV (As := [.int x65]) (rest := []) ⟨hx, hb, hml, hown, hts⟩ (sx_X12_ends_x l G ad I41 J43 ⟨(by show 0 ≤ (I41 0 47).toInt ∧ (I41 0 47).toInt ≤ 119; exact k50), (by show 0 ≤ (I41 0 39).toInt ∧ (I41 0 39).toInt ≤ 100; exact k51)⟩ (by show 0 ≤ (I41 0 40).toInt ∧ (I41 0 40).toInt ≤ 6199; exact k52) x65 (by first | omega | decide) (by show 1 ≤ (I41 0 47).toInt; omega) _) (cwV 1 hts gX12_atom_X12_ends rfl rfl rfl (by decide +kernel) ⟨Nat.le_of_ble_eq_true rfl, Nat.le_of_ble_eq_true rfl⟩) (z_preV (i := 0) hK hW rfl rfl) rfl rfl hl.1 rfl (lv_room (Nat.le_of_ble_eq_true rfl)) dX12_atom_308 ⟨Nat.le_of_ble_eq_true rfl, Nat.le_of_ble_eq_true rfl⟩) (fun u1 H locs hp hW hS => ?_)
          obtain ⟨I72, J74, e9, hI72md, hI72mg, fI72, hp⟩ := hp
          rw [e9] at hW
          have f73 := z_fr_sub (L := L_X12_atom_x) f42 fI72 (by decide)
          have k75 : 0 ≤ (I72 0 31).toInt ∧ (I72 0 31).toInt ≤ 500 := by rw [fI72 0 31 (by decide)]; exact (by show 0 ≤ (I41 0 31).toInt ∧ (I41 0 31).toInt ≤ 500; exact k44)
          have k76 : 0 ≤ (I72 0 33).toInt ∧ (I72 0 33).toInt ≤ 500 := by rw [fI72 0 33 (by decide)]; exact (by show 0 ≤ (I41 0 33).toInt ∧ (I41 0 33).toInt ≤ 500; exact k45)
          have k77 : 0 ≤ (I72 0 34).toInt ∧ (I72 0 34).toInt ≤ 500 := by rw [fI72 0 34 (by decide)]; exact (by show 0 ≤ (I41 0 34).toInt ∧ (I41 0 34).toInt ≤ 500; exact k46)
          have k78 : 0 ≤ (I72 0 35).toInt ∧ (I72 0 35).toInt ≤ 500 := by rw [fI72 0 35 (by decide)]; exact (by show 0 ≤ (I41 0 35).toInt ∧ (I41 0 35).toInt ≤ 500; exact k47)
          have k79 : 0 ≤ (I72 0 36).toInt ∧ (I72 0 36).toInt ≤ 4 := by rw [fI72 0 36 (by decide)]; exact (by show 0 ≤ (I41 0 36).toInt ∧ (I41 0 36).toInt ≤ 4; exact k48)
          have k80 : 0 ≤ (I72 0 42).toInt ∧ (I72 0 42).toInt ≤ 1 := by rw [fI72 0 42 (by decide)]; exact (by show 0 ≤ (I41 0 42).toInt ∧ (I41 0 42).toInt ≤ 1; exact k49)
          have k81 : 0 ≤ (I72 0 15).toInt ∧ (I72 0 15).toInt ≤ 6100 := by rw [fI72 0 15 (by decide)]; exact (by show 0 ≤ (I41 0 15).toInt ∧ (I41 0 15).toInt ≤ 6100; exact hI41mn)
          have k82 : 0 ≤ (I72 0 35).toInt ∧ (I72 0 35).toInt ≤ (I72 0 34).toInt ∧ (I72 0 34).toInt ≤ (I72 0 33).toInt ∧ (I72 0 33).toInt ≤ 500 ∧ ((I72 0 36).toInt = 0 ∨ (I72 0 35).toInt + 1 ≤ (I72 0 34).toInt) := (by have q0 : (I72 0 35) = (I41 0 35) := (by rw [fI72 0 35 (by decide)]); have q1 : (I72 0 34) = (I41 0 34) := (by rw [fI72 0 34 (by decide)]); have q2 : (I72 0 33) = (I41 0 33) := (by rw [fI72 0 33 (by decide)]); have q3 : (I72 0 36) = (I41 0 36) := (by rw [fI72 0 36 (by decide)]); show 0 ≤ (I72 0 35).toInt ∧ (I72 0 35).toInt ≤ (I72 0 34).toInt ∧ (I72 0 34).toInt ≤ (I72 0 33).toInt ∧ (I72 0 33).toInt ≤ 500 ∧ ((I72 0 36).toInt = 0 ∨ (I72 0 35).toInt + 1 ≤ (I72 0 34).toInt); rw [q0, q1, q2, q3]; first | omega | decide)
          have k83 : (I72 0 35).toInt = (I41 0 35).toInt := by rw [fI72 0 35 (by decide)]
          have k84 : (I72 0 34).toInt = (I41 0 34).toInt := by rw [fI72 0 34 (by decide)]
          have k85 : (I72 0 36).toInt = (I41 0 36).toInt := by rw [fI72 0 36 (by decide)]
          have k86 : (I72 0 42).toInt = (I41 0 42).toInt := by rw [fI72 0 42 (by decide)]
          have k87 : (I72 0 39).toInt = (I41 0 39).toInt := by rw [fI72 0 39 (by decide)]
          have k88 : (I72 0 15).toInt = (I41 0 15).toInt := by rw [fI72 0 15 (by decide)]
          obtain ⟨hp, h89, hJ90⟩ := hp
          have h91 := hp
          have h92 := hp
          have hE93 : zm_E gt gv gp ge gh gm n0 gI I72 J74 (.inr (tq + 1, FS, fo - 1, ((n0 : Int) + ((NN).length : Int)), NN ++ [(fs, fx, fg)])) := zm_E_ends hE69 h91 h89 (by omega) fI72 (by decide) hJ90
          have h94 := zm_E_W hE93
          have h95 := zm_E_D hE93
          exact z_vret hx hb hr hK hS (Nat.le_of_ble_eq_true rfl) (Nat.le_of_ble_eq_true rfl) hlocks dX12_atom_311 (shM, ad, I72, J74, PM ad) hW ⟨I72, J74, rfl, ⟨(by show 0 ≤ (I72 0 31).toInt ∧ (I72 0 31).toInt ≤ 500; exact k75), (by show 0 ≤ (I72 0 33).toInt ∧ (I72 0 33).toInt ≤ 500; exact k76), (by show 0 ≤ (I72 0 34).toInt ∧ (I72 0 34).toInt ≤ 500; exact k77), (by show 0 ≤ (I72 0 35).toInt ∧ (I72 0 35).toInt ≤ 500; exact k78)⟩, ⟨(by show 0 ≤ (I72 0 36).toInt ∧ (I72 0 36).toInt ≤ 4; exact k79), (by show 0 ≤ (I72 0 42).toInt ∧ (I72 0 42).toInt ≤ 1; exact k80)⟩, ⟨(by show 0 ≤ (I72 0 47).toInt ∧ (I72 0 47).toInt ≤ 119; exact hI72md.1), (by show 0 ≤ (I72 0 39).toInt ∧ (I72 0 39).toInt ≤ 100; exact hI72md.2)⟩, (by show 0 ≤ (I72 0 40).toInt ∧ (I72 0 40).toInt ≤ 6199; exact hI72mg), (by show 0 ≤ (I72 0 15).toInt ∧ (I72 0 15).toInt ≤ 6100; exact k81), (z_Nd_fr hI41Nd fI72 (by decide)), (by show 0 ≤ (I72 0 35).toInt ∧ (I72 0 35).toInt ≤ (I72 0 34).toInt ∧ (I72 0 34).toInt ≤ (I72 0 33).toInt ∧ (I72 0 33).toInt ≤ 500 ∧ ((I72 0 36).toInt = 0 ∨ (I72 0 35).toInt + 1 ≤ (I72 0 34).toInt); first | omega | decide), f73, ⟨((Classical.em ((I72 0 42).toInt = 0)).elim (fun hw9 => Or.inr ⟨a1.toNatClampNeg, by have w1 := z_fw_2n (a := va.toInt) (o := vo.toInt) (by omega); have w2 := z_fo_2y (a := va.toInt) (by omega); exact z_POP (d := a1.toNatClampNeg) hPS (fun i hi => ⟨by rw [fI72 26 i (z_wr_c (by decide)), fI41 26 i (z_wr_c (by decide)), eI29, z_up_n (by decide), fI5 26 i (z_wr_c (by decide))], by rw [fI72 27 i (z_wr_c (by decide)), fI41 27 i (z_wr_c (by decide)), eI29, z_up_n (by decide), fI5 27 i (z_wr_c (by decide))], by rw [fI72 28 i (z_wr_c (by decide)), fI41 28 i (z_wr_c (by decide)), eI29, z_up_n (by decide), fI5 28 i (z_wr_c (by decide))], by rw [fI72 29 i (z_wr_c (by decide)), fI41 29 i (z_wr_c (by decide)), eI29, z_up_n (by decide), fI5 29 i (z_wr_c (by decide))]⟩) (by omega) (by omega) (by omega) (by omega) (by omega) (by omega)⟩) Or.inl), (by have hz9 : zp_st gt gv (n0 : Int) (.inr (tq, (2, fa, fx, fs) :: FS, fo, fg, NN)) = .inr (tq + 1, FS, fo - 1, ((n0 : Int) + ((NN).length : Int)), NN ++ [(fs, fx, fg)]) := (by first | (simp [zp_st, zp_op, zp_cm, zp_cb, (show ¬ fa = 0 by omega), (show ¬ fa = 1 by omega), (show ¬ fa = 2 by omega), ht23]; done) | (exfalso; omega)); rw [hz9]; exact hE93)⟩⟩
        · have g96 := z_f_eq rfl z_l1 c38
          refine lv_aload_n hx hb dX12_atom_281 rfl (lv_at hl 0 rfl) ?_
          have r97 : 0 ≤ (I5 0 40).toInt ∧ (I5 0 40).toInt ≤ 6199 := k10
          refine z_get (T := TX12) (N := 96) (ci := 12) (i := 0) (v := .int (I5 0 40)) hx hb hts zj_X12_atom_X12 hown hK hW rfl rfl 40 (by decide) (hts (.fieldLink RX12 343 "PetrolBoardModel" "got" "I") (me_s (me_l (me_l (List.mem_of_getElem? (i := 9) rfl))))) (fun _ h => h) (congrArg Value.int (by rw [eI29, z_up_k (by decide)])) dX12_atom_282 ?_
          refine lv_goto (tgt := 308) hx hb dX12_atom_285 (by decide) ?_
          refine z_cv hW hS hA (va_runV (As := [.int (I5 0 40)]) (rest := []) ⟨hx, hb, hml, hown, hts⟩ (sx_X12_ends_x l G ad I29 J7 ⟨(by show 0 ≤ (I29 0 47).toInt ∧ (I29 0 47).toInt ≤ 119; rw [eI29, z_up_k (by decide)]; exact k8), (by show 0 ≤ (I29 0 39).toInt ∧ (I29 0 39).toInt ≤ 100; rw [eI29, z_up_s]; omega)⟩ (by show 0 ≤ (I29 0 40).toInt ∧ (I29 0 40).toInt ≤ 6199; rw [eI29, z_up_k (by decide)]; exact k10) (I5 0 40) (by first | omega | decide) (by have q0 : (I29 0 47) = (I5 0 47) := (by rw [eI29, z_up_k (by decide)]); show 1 ≤ (I29 0 47).toInt; rw [q0]; omega) _) (cwV 1 hts gX12_atom_X12_ends rfl rfl rfl (by decide +kernel) ⟨Nat.le_of_ble_eq_true rfl, Nat.le_of_ble_eq_true rfl⟩) (z_preV (i := 0) hK hW rfl rfl) rfl rfl hl.1 rfl (lv_room (Nat.le_of_ble_eq_true rfl)) dX12_atom_308 ⟨Nat.le_of_ble_eq_true rfl, Nat.le_of_ble_eq_true rfl⟩) (fun u1 H locs hp hW hS => ?_)
          obtain ⟨I98, J100, e9, hI98md, hI98mg, fI98, hp⟩ := hp
          rw [e9] at hW
          have f99 := z_fr_sub (L := L_X12_atom_x) f30 fI98 (by decide)
          have k101 : 0 ≤ (I98 0 31).toInt ∧ (I98 0 31).toInt ≤ 500 := by rw [fI98 0 31 (by decide)]; exact (by show 0 ≤ (I29 0 31).toInt ∧ (I29 0 31).toInt ≤ 500; rw [eI29, z_up_k (by decide)]; exact hI5mp.1)
          have k102 : 0 ≤ (I98 0 33).toInt ∧ (I98 0 33).toInt ≤ 500 := by rw [fI98 0 33 (by decide)]; exact (by show 0 ≤ (I29 0 33).toInt ∧ (I29 0 33).toInt ≤ 500; rw [eI29, z_up_k (by decide)]; exact hI5mp.2.1)
          have k103 : 0 ≤ (I98 0 34).toInt ∧ (I98 0 34).toInt ≤ 500 := by rw [fI98 0 34 (by decide)]; exact (by show 0 ≤ (I29 0 34).toInt ∧ (I29 0 34).toInt ≤ 500; rw [eI29, z_up_k (by decide)]; exact hI5mp.2.2.1)
          have k104 : 0 ≤ (I98 0 35).toInt ∧ (I98 0 35).toInt ≤ 500 := by rw [fI98 0 35 (by decide)]; exact (by show 0 ≤ (I29 0 35).toInt ∧ (I29 0 35).toInt ≤ 500; rw [eI29, z_up_k (by decide)]; exact hI5mp.2.2.2)
          have k105 : 0 ≤ (I98 0 36).toInt ∧ (I98 0 36).toInt ≤ 4 := by rw [fI98 0 36 (by decide)]; exact (by show 0 ≤ (I29 0 36).toInt ∧ (I29 0 36).toInt ≤ 4; rw [eI29, z_up_k (by decide)]; exact hI5mt.1)
          have k106 : 0 ≤ (I98 0 42).toInt ∧ (I98 0 42).toInt ≤ 1 := by rw [fI98 0 42 (by decide)]; exact (by show 0 ≤ (I29 0 42).toInt ∧ (I29 0 42).toInt ≤ 1; rw [eI29, z_up_k (by decide)]; exact hI5mt.2)
          have k107 : (I98 0 39).toInt = x28.toInt := by rw [fI98 0 39 (by decide), eI29, z_up_s]
          have k108 : 0 ≤ (I98 0 15).toInt ∧ (I98 0 15).toInt ≤ 6100 := by rw [fI98 0 15 (by decide)]; exact (by show 0 ≤ (I29 0 15).toInt ∧ (I29 0 15).toInt ≤ 6100; rw [eI29, z_up_k (by decide)]; exact k11)
          have k109 : 0 ≤ (I98 0 35).toInt ∧ (I98 0 35).toInt ≤ (I98 0 34).toInt ∧ (I98 0 34).toInt ≤ (I98 0 33).toInt ∧ (I98 0 33).toInt ≤ 500 ∧ ((I98 0 36).toInt = 0 ∨ (I98 0 35).toInt + 1 ≤ (I98 0 34).toInt) := (by have q0 : (I98 0 35) = (I5 0 35) := (by rw [fI98 0 35 (by decide), eI29, z_up_k (by decide)]); have q1 : (I98 0 34) = (I5 0 34) := (by rw [fI98 0 34 (by decide), eI29, z_up_k (by decide)]); have q2 : (I98 0 33) = (I5 0 33) := (by rw [fI98 0 33 (by decide), eI29, z_up_k (by decide)]); have q3 : (I98 0 36) = (I5 0 36) := (by rw [fI98 0 36 (by decide), eI29, z_up_k (by decide)]); show 0 ≤ (I98 0 35).toInt ∧ (I98 0 35).toInt ≤ (I98 0 34).toInt ∧ (I98 0 34).toInt ≤ (I98 0 33).toInt ∧ (I98 0 33).toInt ≤ 500 ∧ ((I98 0 36).toInt = 0 ∨ (I98 0 35).toInt + 1 ≤ (I98 0 34).toInt); rw [q0, q1, q2, q3]; first | omega | decide)
          have k110 : (I98 0 35).toInt = (I5 0 35).toInt := by rw [fI98 0 35 (by decide), eI29, z_up_k (by decide)]
          have k111 : (I98 0 34).toInt = (I5 0 34).toInt := by rw [fI98 0 34 (by decide), eI29, z_up_k (by decide)]
          have k112 : (I98 0 36).toInt = (I5 0 36).toInt := by rw [fI98 0 36 (by decide), eI29, z_up_k (by decide)]
          have k113 : (I98 0 42).toInt = (I5 0 42).toInt := by rw [fI98 0 42 (by decide), eI29, z_up_k (by decide)]
          have k114 : (I98 0 39).toInt = x28.toInt := by rw [fI98 0 39 (by decide), eI29, z_up_s]
          have k115 : (I98 0 15).toInt = (I5 0 15).toInt := by rw [fI98 0 15 (by decide), eI29, z_up_k (by decide)]
          obtain ⟨hp, h116, hJ117⟩ := hp
          have h118 := hp
          have h119 := hp
          rw [show (I29 0 47) = (I5 0 47) from by rw [eI29, z_up_k (by decide)]] at h119
          have hE120 : zm_E gt gv gp ge gh gm n0 gI I98 J100 (.inr (tq + 1, FS, fo - 1, fg, NN)) := zm_E_ends hE32 h118 h116 (by omega) fI98 (by decide) hJ117
          have h121 := zm_E_W hE120
          have h122 := zm_E_D hE120
          exact z_vret hx hb hr hK hS (Nat.le_of_ble_eq_true rfl) (Nat.le_of_ble_eq_true rfl) hlocks dX12_atom_311 (shM, ad, I98, J100, PM ad) hW ⟨I98, J100, rfl, ⟨(by show 0 ≤ (I98 0 31).toInt ∧ (I98 0 31).toInt ≤ 500; exact k101), (by show 0 ≤ (I98 0 33).toInt ∧ (I98 0 33).toInt ≤ 500; exact k102), (by show 0 ≤ (I98 0 34).toInt ∧ (I98 0 34).toInt ≤ 500; exact k103), (by show 0 ≤ (I98 0 35).toInt ∧ (I98 0 35).toInt ≤ 500; exact k104)⟩, ⟨(by show 0 ≤ (I98 0 36).toInt ∧ (I98 0 36).toInt ≤ 4; exact k105), (by show 0 ≤ (I98 0 42).toInt ∧ (I98 0 42).toInt ≤ 1; exact k106)⟩, ⟨(by show 0 ≤ (I98 0 47).toInt ∧ (I98 0 47).toInt ≤ 119; exact hI98md.1), (by show 0 ≤ (I98 0 39).toInt ∧ (I98 0 39).toInt ≤ 100; exact hI98md.2)⟩, (by show 0 ≤ (I98 0 40).toInt ∧ (I98 0 40).toInt ≤ 6199; exact hI98mg), (by show 0 ≤ (I98 0 15).toInt ∧ (I98 0 15).toInt ≤ 6100; exact k108), (z_Nd_fr a31 fI98 (by decide)), (by show 0 ≤ (I98 0 35).toInt ∧ (I98 0 35).toInt ≤ (I98 0 34).toInt ∧ (I98 0 34).toInt ≤ (I98 0 33).toInt ∧ (I98 0 33).toInt ≤ 500 ∧ ((I98 0 36).toInt = 0 ∨ (I98 0 35).toInt + 1 ≤ (I98 0 34).toInt); first | omega | decide), f99, ⟨((Classical.em ((I98 0 42).toInt = 0)).elim (fun hw9 => Or.inr ⟨a1.toNatClampNeg, by have w1 := z_fw_2n (a := va.toInt) (o := vo.toInt) (by omega); have w2 := z_fo_2y (a := va.toInt) (by omega); exact z_POP (d := a1.toNatClampNeg) hPS (fun i hi => ⟨by rw [fI98 26 i (z_wr_c (by decide)), eI29, z_up_n (by decide), fI5 26 i (z_wr_c (by decide))], by rw [fI98 27 i (z_wr_c (by decide)), eI29, z_up_n (by decide), fI5 27 i (z_wr_c (by decide))], by rw [fI98 28 i (z_wr_c (by decide)), eI29, z_up_n (by decide), fI5 28 i (z_wr_c (by decide))], by rw [fI98 29 i (z_wr_c (by decide)), eI29, z_up_n (by decide), fI5 29 i (z_wr_c (by decide))]⟩) (by omega) (by omega) (by omega) (by omega) (by omega) (by omega)⟩) Or.inl), (by have hz9 : zp_st gt gv (n0 : Int) (.inr (tq, (2, fa, fx, fs) :: FS, fo, fg, NN)) = .inr (tq + 1, FS, fo - 1, fg, NN) := (by first | (simp [zp_st, zp_op, zp_cm, zp_cb, (show fa = 1 by omega), ht23]; done) | (exfalso; omega)); rw [hz9]; exact hE120)⟩⟩
      · have z123 := z_l41
        have ht124 : ¬ gt (tq) = 41 := by omega
        have hE125 : zm_E gt gv gp ge gh gm n0 gI I5 J7 (.inl (tq)) := he21
        have h126 := zm_E_L hE125
        refine lv_aload_n hx hb dX12_atom_252 rfl (lv_at hl 0 rfl) ?_
        refine lv_dup hx hb dX12_atom_253 rfl ?_
        have r127 : 0 ≤ (I5 0 39).toInt ∧ (I5 0 39).toInt ≤ 100 := k9
        refine z_get (T := TX12) (N := 96) (ci := 12) (i := 0) (v := .int (I5 0 39)) hx hb hts zj_X12_atom_X12 hown hK hW rfl rfl 39 (by decide) (hts (.fieldLink RX12 346 "PetrolBoardModel" "open" "I") (me_s (me_l (me_l (List.mem_of_getElem? (i := 10) rfl))))) (fun _ h => h) rfl dX12_atom_254 ?_
        refine lv_iconst (v := 1) hx hb dX12_atom_257 (by decide) ?_
        refine lv_isub hx hb dX12_atom_258 ?_
        refine lv_topi (fun x128 ex128 => ?_)
        have tx128 : x128.toInt = (I5 0 39).toInt - 1 := z_tsub ex128 rfl z_l1 (by omega) (by omega)
        refine z_put (T := TX12) (N := 96) (ci := 12) (i := 0) (v := .int x128) (I1 := z_up I5 0 39 x128) (J1 := J7) (P1 := PM ad) hx hb hts zj_X12_atom_X12 tyX12 tyX12_ok nmX12 hown hK hW hS rfl rfl 39 (by decide) (hts (.fieldLink RX12 346 "PetrolBoardModel" "open" "I") (me_s (me_l (me_l (List.mem_of_getElem? (i := 10) rfl))))) (fun _ h => h) rfl rfl rfl (by first | rfl | exact congrArg _ z_up_s) (fun a b h ty => z_vI h ty) dX12_atom_259 (fun H locs hz1 hW hS => ?_)
        obtain ⟨I129, eI129⟩ : ∃ K : z_I, K = z_up I5 0 39 x128 := ⟨_, rfl⟩
        rw [← eI129] at hW
        have f130 := z_fr_k f6 (show z_wr L_X12_atom_x 0 39 = true by decide) eI129
        have a131 := z_Nd_n (z_Nd_fr hNd fI5 (by decide)) (by decide) eI129
        have hE132 : zm_E gt gv gp ge gh gm n0 gI I129 J7 (.inl (tq)) := zm_E_k hE125 eI129 (by decide)
        have h133 := zm_E_L hE132
        refine lv_aload_n hx hb dX12_atom_262 rfl (lv_at hl 0 rfl) ?_
        have r134 : 0 ≤ (I5 0 42).toInt ∧ (I5 0 42).toInt ≤ 1 := hI5mt.2
        refine z_get (T := TX12) (N := 96) (ci := 12) (i := 0) (v := .int (I5 0 42)) hx hb hts zj_X12_atom_X12 hown hK hW rfl rfl 42 (by decide) (hts (.fieldLink RX12 294 "PetrolBoardModel" "isWrong" "Z") (me_s (me_l (me_l (List.mem_of_getElem? (i := 6) rfl))))) (fun _ h => h) (congrArg Value.int (by rw [eI129, z_up_k (by decide)])) dX12_atom_263 ?_
        refine lv_if_eq (tgt := 270) hx hb dX12_atom_266 (by decide) (fun c135 => (by have g := z_f_eq rfl z_l0 c135; omega)) (fun c135 => ?_)
        have g136 := z_f_ne rfl z_l0 c135
        exact z_vret hx hb hr hK hS (Nat.le_of_ble_eq_true rfl) (Nat.le_of_ble_eq_true rfl) hlocks dX12_atom_269 (shM, ad, I129, J7, PM ad) hW ⟨I129, J7, rfl, ⟨(by show 0 ≤ (I129 0 31).toInt ∧ (I129 0 31).toInt ≤ 500; rw [eI129, z_up_k (by decide)]; exact hI5mp.1), (by show 0 ≤ (I129 0 33).toInt ∧ (I129 0 33).toInt ≤ 500; rw [eI129, z_up_k (by decide)]; exact hI5mp.2.1), (by show 0 ≤ (I129 0 34).toInt ∧ (I129 0 34).toInt ≤ 500; rw [eI129, z_up_k (by decide)]; exact hI5mp.2.2.1), (by show 0 ≤ (I129 0 35).toInt ∧ (I129 0 35).toInt ≤ 500; rw [eI129, z_up_k (by decide)]; exact hI5mp.2.2.2)⟩, ⟨(by show 0 ≤ (I129 0 36).toInt ∧ (I129 0 36).toInt ≤ 4; rw [eI129, z_up_k (by decide)]; exact hI5mt.1), (by show 0 ≤ (I129 0 42).toInt ∧ (I129 0 42).toInt ≤ 1; rw [eI129, z_up_k (by decide)]; exact hI5mt.2)⟩, ⟨(by show 0 ≤ (I129 0 47).toInt ∧ (I129 0 47).toInt ≤ 119; rw [eI129, z_up_k (by decide)]; exact k8), (by show 0 ≤ (I129 0 39).toInt ∧ (I129 0 39).toInt ≤ 100; rw [eI129, z_up_s]; omega)⟩, (by show 0 ≤ (I129 0 40).toInt ∧ (I129 0 40).toInt ≤ 6199; rw [eI129, z_up_k (by decide)]; exact k10), (by show 0 ≤ (I129 0 15).toInt ∧ (I129 0 15).toInt ≤ 6100; rw [eI129, z_up_k (by decide)]; exact k11), a131, (by have q0 : (I129 0 35) = (I5 0 35) := (by rw [eI129, z_up_k (by decide)]); have q1 : (I129 0 34) = (I5 0 34) := (by rw [eI129, z_up_k (by decide)]); have q2 : (I129 0 33) = (I5 0 33) := (by rw [eI129, z_up_k (by decide)]); have q3 : (I129 0 36) = (I5 0 36) := (by rw [eI129, z_up_k (by decide)]); show 0 ≤ (I129 0 35).toInt ∧ (I129 0 35).toInt ≤ (I129 0 34).toInt ∧ (I129 0 34).toInt ≤ (I129 0 33).toInt ∧ (I129 0 33).toInt ≤ 500 ∧ ((I129 0 36).toInt = 0 ∨ (I129 0 35).toInt + 1 ≤ (I129 0 34).toInt); rw [q0, q1, q2, q3]; first | omega | decide), f130, ⟨(Or.inl (by have q0 : (I129 0 42) = (I5 0 42) := (by rw [eI129, z_up_k (by decide)]); show ¬ (I129 0 42).toInt = 0; rw [q0]; omega)), (by have hz9 : zp_st gt gv (n0 : Int) (.inr (tq, (2, fa, fx, fs) :: FS, fo, fg, NN)) = .inl (tq) := (by first | (simp [zp_st, zp_op, zp_cm, zp_cb, (show ¬ fa = 0 by omega), (show ¬ fa = 2 by omega), ht124]; done) | (exfalso; omega)); rw [hz9]; exact hE132)⟩⟩
    · have g137 := z_f_eq rfl z_l2 c3
      refine lv_aload_n hx hb dX12_atom_208 rfl (lv_at hl 0 rfl) ?_
      refine z_get (T := TX12) (N := 96) (ci := 12) (i := 0) (v := .ref (ad 28)) hx hb hts zj_X12_atom_X12 hown hK hW rfl rfl 45 (by decide) (hts (.fieldLink RX12 97 "PetrolBoardModel" "one" "[I") (me_s (me_l (me_l (List.mem_of_getElem? (i := 8) rfl))))) (fun _ h => h) rfl dX12_atom_209 ?_
      refine lv_iload_n hx hb dX12_atom_212 rfl (lv_at hl 1 rfl) ?_
      refine lv_aload_n hx hb dX12_atom_213 rfl (lv_at hl 0 rfl) ?_
      have r138 : 0 ≤ (I 0 40).toInt ∧ (I 0 40).toInt ≤ 6199 := hmg
      refine z_get (T := TX12) (N := 96) (ci := 12) (i := 0) (v := .int (I 0 40)) hx hb hts zj_X12_atom_X12 hown hK hW rfl rfl 40 (by decide) (hts (.fieldLink RX12 343 "PetrolBoardModel" "got" "I") (me_s (me_l (me_l (List.mem_of_getElem? (i := 9) rfl))))) (fun _ h => h) rfl dX12_atom_214 ?_
      refine z_iast (i := 28) hx hb hK hW hS rfl (z_ix rfl (by omega) (by omega)) dX12_atom_217 (fun H locs hz1 hW hS => ?_)
      obtain ⟨I139, eI139⟩ : ∃ K : z_I, K = z_up I 28 a1.toNatClampNeg (I 0 40) := ⟨_, rfl⟩
      rw [← eI139] at hW
      have f140 := z_fr_a z_fr_0 (show z_wa L_X12_atom_x 28 = true by decide) eI139
      have a141 := z_Nd_n hNd (by decide) eI139
      have hE142 : zm_E gt gv gp ge gh gm n0 gI I139 J (.inr (tq, (2, fa, fg, fs) :: FS, fo, fg, NN)) := zm_E_top hE eI139 hdk (Or.inr (Or.inl ⟨rfl, by omega, rfl, rfl, rfl⟩))
      have h143 := zm_E_W hE142
      have h144 := zm_E_D hE142
      refine lv_aload_n hx hb dX12_atom_218 rfl (lv_at hl 0 rfl) ?_
      refine lv_bipush (v := 44) hx hb dX12_atom_219 (by decide) ?_
      refine z_cv hW hS hA (va_runV (As := [.int 44]) (rest := []) ⟨hx, hb, hml, hown, hts⟩ (sx_X12_must_x l G ad I139 J ⟨(by show 0 ≤ (I139 0 31).toInt ∧ (I139 0 31).toInt ≤ 500; rw [eI139, z_up_n (by decide)]; exact hmp.1), (by show 0 ≤ (I139 0 33).toInt ∧ (I139 0 33).toInt ≤ 500; rw [eI139, z_up_n (by decide)]; exact hmp.2.1), (by show 0 ≤ (I139 0 34).toInt ∧ (I139 0 34).toInt ≤ 500; rw [eI139, z_up_n (by decide)]; exact hmp.2.2.1), (by show 0 ≤ (I139 0 35).toInt ∧ (I139 0 35).toInt ≤ 500; rw [eI139, z_up_n (by decide)]; exact hmp.2.2.2)⟩ ⟨(by show 0 ≤ (I139 0 36).toInt ∧ (I139 0 36).toInt ≤ 4; rw [eI139, z_up_n (by decide)]; exact hmt.1), (by show 0 ≤ (I139 0 42).toInt ∧ (I139 0 42).toInt ≤ 1; rw [eI139, z_up_n (by decide)]; exact hmt.2)⟩ (by have q0 : (I139 0 35) = (I 0 35) := (by rw [eI139, z_up_n (by decide)]); have q1 : (I139 0 34) = (I 0 34) := (by rw [eI139, z_up_n (by decide)]); have q2 : (I139 0 33) = (I 0 33) := (by rw [eI139, z_up_n (by decide)]); have q3 : (I139 0 36) = (I 0 36) := (by rw [eI139, z_up_n (by decide)]); show 0 ≤ (I139 0 35).toInt ∧ (I139 0 35).toInt ≤ (I139 0 34).toInt ∧ (I139 0 34).toInt ≤ (I139 0 33).toInt ∧ (I139 0 33).toInt ≤ 500 ∧ ((I139 0 36).toInt = 0 ∨ (I139 0 35).toInt + 1 ≤ (I139 0 34).toInt); rw [q0, q1, q2, q3]; first | omega | decide) gt gv gp ge gh gm n0 gI (tq) ((2, fa, fg, fs) :: FS) (fo) (fg) (NN) 44 hE142 hSM (show zp_sg (44 : Int32).toInt by have := z_l44; unfold zp_sg; omega) _) (cwV 1 hts gX12_atom_X12_must rfl rfl rfl (by decide +kernel) ⟨Nat.le_of_ble_eq_true rfl, Nat.le_of_ble_eq_true rfl⟩) (z_preV (i := 0) hK hW rfl rfl) rfl rfl hl.1 rfl (lv_room (Nat.le_of_ble_eq_true rfl)) dX12_atom_221 ⟨Nat.le_of_ble_eq_true rfl, Nat.le_of_ble_eq_true rfl⟩) (fun u1 H locs hp hW hS => ?_)
      obtain ⟨I145, J147, e9, hI145mp, hI145mt, hI145rp, fI145, hp⟩ := hp
      rw [e9] at hW
      have f146 := z_fr_sub (L := L_X12_atom_x) f140 fI145 (by decide)
      have k148 : 0 ≤ (I145 0 47).toInt ∧ (I145 0 47).toInt ≤ 119 := by rw [fI145 0 47 (by decide)]; exact (by show 0 ≤ (I139 0 47).toInt ∧ (I139 0 47).toInt ≤ 119; rw [eI139, z_up_n (by decide)]; exact hmd.1)
      have k149 : 0 ≤ (I145 0 39).toInt ∧ (I145 0 39).toInt ≤ 100 := by rw [fI145 0 39 (by decide)]; exact (by show 0 ≤ (I139 0 39).toInt ∧ (I139 0 39).toInt ≤ 100; rw [eI139, z_up_n (by decide)]; exact hmd.2)
      have k150 : 0 ≤ (I145 0 40).toInt ∧ (I145 0 40).toInt ≤ 6199 := by rw [fI145 0 40 (by decide)]; exact (by show 0 ≤ (I139 0 40).toInt ∧ (I139 0 40).toInt ≤ 6199; rw [eI139, z_up_n (by decide)]; exact hmg)
      have k151 : 0 ≤ (I145 0 15).toInt ∧ (I145 0 15).toInt ≤ 6100 := by rw [fI145 0 15 (by decide)]; exact (by show 0 ≤ (I139 0 15).toInt ∧ (I139 0 15).toInt ≤ 6100; rw [eI139, z_up_n (by decide)]; exact hmn)
      have k152 : 0 ≤ (I145 0 35).toInt ∧ (I145 0 35).toInt ≤ (I145 0 34).toInt ∧ (I145 0 34).toInt ≤ (I145 0 33).toInt ∧ (I145 0 33).toInt ≤ 500 ∧ ((I145 0 36).toInt = 0 ∨ (I145 0 35).toInt + 1 ≤ (I145 0 34).toInt) := hI145rp
      have k153 : (I145 0 47).toInt = (I 0 47).toInt := by rw [fI145 0 47 (by decide), eI139, z_up_n (by decide)]
      have k154 : (I145 0 39).toInt = (I 0 39).toInt := by rw [fI145 0 39 (by decide), eI139, z_up_n (by decide)]
      have k155 : (I145 0 15).toInt = (I 0 15).toInt := by rw [fI145 0 15 (by decide), eI139, z_up_n (by decide)]
      have k156 : (I145 0 40).toInt = (I 0 40).toInt := by rw [fI145 0 40 (by decide), eI139, z_up_n (by decide)]
      obtain ⟨h158, h157⟩ := hp
      have h159 := h158
      rw [show (I139 0 35) = (I 0 35) from by rw [eI139, z_up_n (by decide)]] at h158
      rcases h157 with ⟨ht160, he161⟩ | ⟨ht160, he161⟩
      · have z162 := z_l44
        have ht163 : gt (tq) = 44 := by omega
        have hE164 : zm_E gt gv gp ge gh gm n0 gI I145 J147 (.inr (tq + 1, (2, fa, fg, fs) :: FS, fo, fg, NN)) := he161
        have h165 := zm_E_W hE164
        have h166 := zm_E_D hE164
        refine lv_aload_n hx hb dX12_atom_224 rfl (lv_at hl 0 rfl) ?_
        refine z_get (T := TX12) (N := 96) (ci := 12) (i := 0) (v := .ref (ad 27)) hx hb hts zj_X12_atom_X12 hown hK hW rfl rfl 44 (by decide) (hts (.fieldLink RX12 94 "PetrolBoardModel" "at" "[I") (me_s (me_l (me_l (List.mem_of_getElem? (i := 0) rfl))))) (fun _ h => h) rfl dX12_atom_225 ?_
        refine lv_iload_n hx hb dX12_atom_228 rfl (lv_at hl 1 rfl) ?_
        refine lv_iconst (v := 3) hx hb dX12_atom_229 (by decide) ?_
        refine z_iast (i := 27) hx hb hK hW hS rfl (z_ix rfl (by omega) (by omega)) dX12_atom_230 (fun H locs hz1 hW hS => ?_)
        obtain ⟨I167, eI167⟩ : ∃ K : z_I, K = z_up I145 27 a1.toNatClampNeg 3 := ⟨_, rfl⟩
        rw [← eI167] at hW
        have f168 := z_fr_a f146 (show z_wa L_X12_atom_x 27 = true by decide) eI167
        have a169 := z_Nd_n (z_Nd_fr a141 fI145 (by decide)) (by decide) eI167
        have z170 := z_l3
        have hE171 : zm_E gt gv gp ge gh gm n0 gI I167 J147 (.inr (tq + 1, (2, 3, fg, fs) :: FS, fo, fg, NN)) := zm_E_top hE164 eI167 hdk (Or.inl ⟨rfl, by omega, rfl, rfl, rfl⟩)
        have h172 := zm_E_W hE171
        have h173 := zm_E_D hE171
        refine lv_aload_n hx hb dX12_atom_231 rfl (lv_at hl 0 rfl) ?_
        have r174 : 0 ≤ (I145 0 42).toInt ∧ (I145 0 42).toInt ≤ 1 := hI145mt.2
        refine z_get (T := TX12) (N := 96) (ci := 12) (i := 0) (v := .int (I145 0 42)) hx hb hts zj_X12_atom_X12 hown hK hW rfl rfl 42 (by decide) (hts (.fieldLink RX12 294 "PetrolBoardModel" "isWrong" "Z") (me_s (me_l (me_l (List.mem_of_getElem? (i := 6) rfl))))) (fun _ h => h) (congrArg Value.int (by rw [eI167, z_up_n (by decide)])) dX12_atom_232 ?_
        refine lv_if_ne (tgt := 311) hx hb dX12_atom_235 (by decide) (fun c175 => (by have g := z_f_ne rfl z_l0 c175; omega)) (fun c175 => ?_)
        have g176 := z_f_eq rfl z_l0 c175
        refine lv_aload_n hx hb dX12_atom_238 rfl (lv_at hl 0 rfl) ?_
        refine lv_iconst (v := 0) hx hb dX12_atom_239 (by decide) ?_
        refine z_cv hW hS hA (va_runV (As := [.int 0]) (rest := []) ⟨hx, hb, hml, hown, hts⟩ (sx_X12_begin_x l G ad I167 J147 ⟨(by show 0 ≤ (I167 0 47).toInt ∧ (I167 0 47).toInt ≤ 119; rw [eI167, z_up_n (by decide)]; exact k148), (by show 0 ≤ (I167 0 39).toInt ∧ (I167 0 39).toInt ≤ 100; rw [eI167, z_up_n (by decide)]; exact k149)⟩ 0 (by have q0 : (I167 0 47) = (I145 0 47) := (by rw [eI167, z_up_n (by decide)]); show (I167 0 47).toInt ≤ 118; rw [q0]; omega) _) (cwV 1 hts gX12_atom_X12_begin rfl rfl rfl (by decide +kernel) ⟨Nat.le_of_ble_eq_true rfl, Nat.le_of_ble_eq_true rfl⟩) (z_preV (i := 0) hK hW rfl rfl) rfl rfl hl.1 rfl (lv_room (Nat.le_of_ble_eq_true rfl)) dX12_atom_240 ⟨Nat.le_of_ble_eq_true rfl, Nat.le_of_ble_eq_true rfl⟩) (fun u1 H locs hp hW hS => ?_)
        obtain ⟨I177, J179, e9, hI177md, fI177, hp⟩ := hp
        rw [e9] at hW
        have f178 := z_fr_sub (L := L_X12_atom_x) f168 fI177 (by decide)
        have k180 : 0 ≤ (I177 0 31).toInt ∧ (I177 0 31).toInt ≤ 500 := by rw [fI177 0 31 (by decide)]; exact (by show 0 ≤ (I167 0 31).toInt ∧ (I167 0 31).toInt ≤ 500; rw [eI167, z_up_n (by decide)]; exact hI145mp.1)
        have k181 : 0 ≤ (I177 0 33).toInt ∧ (I177 0 33).toInt ≤ 500 := by rw [fI177 0 33 (by decide)]; exact (by show 0 ≤ (I167 0 33).toInt ∧ (I167 0 33).toInt ≤ 500; rw [eI167, z_up_n (by decide)]; exact hI145mp.2.1)
        have k182 : 0 ≤ (I177 0 34).toInt ∧ (I177 0 34).toInt ≤ 500 := by rw [fI177 0 34 (by decide)]; exact (by show 0 ≤ (I167 0 34).toInt ∧ (I167 0 34).toInt ≤ 500; rw [eI167, z_up_n (by decide)]; exact hI145mp.2.2.1)
        have k183 : 0 ≤ (I177 0 35).toInt ∧ (I177 0 35).toInt ≤ 500 := by rw [fI177 0 35 (by decide)]; exact (by show 0 ≤ (I167 0 35).toInt ∧ (I167 0 35).toInt ≤ 500; rw [eI167, z_up_n (by decide)]; exact hI145mp.2.2.2)
        have k184 : 0 ≤ (I177 0 36).toInt ∧ (I177 0 36).toInt ≤ 4 := by rw [fI177 0 36 (by decide)]; exact (by show 0 ≤ (I167 0 36).toInt ∧ (I167 0 36).toInt ≤ 4; rw [eI167, z_up_n (by decide)]; exact hI145mt.1)
        have k185 : 0 ≤ (I177 0 42).toInt ∧ (I177 0 42).toInt ≤ 1 := by rw [fI177 0 42 (by decide)]; exact (by show 0 ≤ (I167 0 42).toInt ∧ (I167 0 42).toInt ≤ 1; rw [eI167, z_up_n (by decide)]; exact hI145mt.2)
        have k186 : 0 ≤ (I177 0 40).toInt ∧ (I177 0 40).toInt ≤ 6199 := by rw [fI177 0 40 (by decide)]; exact (by show 0 ≤ (I167 0 40).toInt ∧ (I167 0 40).toInt ≤ 6199; rw [eI167, z_up_n (by decide)]; exact k150)
        have k187 : 0 ≤ (I177 0 15).toInt ∧ (I177 0 15).toInt ≤ 6100 := by rw [fI177 0 15 (by decide)]; exact (by show 0 ≤ (I167 0 15).toInt ∧ (I167 0 15).toInt ≤ 6100; rw [eI167, z_up_n (by decide)]; exact k151)
        have k188 : 0 ≤ (I177 0 35).toInt ∧ (I177 0 35).toInt ≤ (I177 0 34).toInt ∧ (I177 0 34).toInt ≤ (I177 0 33).toInt ∧ (I177 0 33).toInt ≤ 500 ∧ ((I177 0 36).toInt = 0 ∨ (I177 0 35).toInt + 1 ≤ (I177 0 34).toInt) := (by have q0 : (I177 0 35) = (I145 0 35) := (by rw [fI177 0 35 (by decide), eI167, z_up_n (by decide)]); have q1 : (I177 0 34) = (I145 0 34) := (by rw [fI177 0 34 (by decide), eI167, z_up_n (by decide)]); have q2 : (I177 0 33) = (I145 0 33) := (by rw [fI177 0 33 (by decide), eI167, z_up_n (by decide)]); have q3 : (I177 0 36) = (I145 0 36) := (by rw [fI177 0 36 (by decide), eI167, z_up_n (by decide)]); show 0 ≤ (I177 0 35).toInt ∧ (I177 0 35).toInt ≤ (I177 0 34).toInt ∧ (I177 0 34).toInt ≤ (I177 0 33).toInt ∧ (I177 0 33).toInt ≤ 500 ∧ ((I177 0 36).toInt = 0 ∨ (I177 0 35).toInt + 1 ≤ (I177 0 34).toInt); rw [q0, q1, q2, q3]; first | omega | decide)
        have k189 : (I177 0 35).toInt = (I145 0 35).toInt := by rw [fI177 0 35 (by decide), eI167, z_up_n (by decide)]
        have k190 : (I177 0 34).toInt = (I145 0 34).toInt := by rw [fI177 0 34 (by decide), eI167, z_up_n (by decide)]
        have k191 : (I177 0 36).toInt = (I145 0 36).toInt := by rw [fI177 0 36 (by decide), eI167, z_up_n (by decide)]
        have k192 : (I177 0 42).toInt = (I145 0 42).toInt := by rw [fI177 0 42 (by decide), eI167, z_up_n (by decide)]
        have k193 : (I177 0 39).toInt = (I145 0 39).toInt := by rw [fI177 0 39 (by decide), eI167, z_up_n (by decide)]
        have k194 : (I177 0 15).toInt = (I145 0 15).toInt := by rw [fI177 0 15 (by decide), eI167, z_up_n (by decide)]
        have k195 : (I177 0 40).toInt = (I145 0 40).toInt := by rw [fI177 0 40 (by decide), eI167, z_up_n (by decide)]
        obtain ⟨hp, hJ196⟩ := hp
        have h197 := hp
        have hE198 : zm_E gt gv gp ge gh gm n0 gI I177 J179 (.inr (tq + 1, (0, 0, -1, 0) :: (2, 3, fg, fs) :: FS, fo, fg, NN)) := zm_E_begin hE171 h197 z_l0 fI177 (by decide) hJ196
        have h199 := zm_E_W hE198
        have h200 := zm_E_D hE198
        refine lv_goto (tgt := 311) hx hb dX12_atom_243 (by decide) ?_
        exact z_vret hx hb hr hK hS (Nat.le_of_ble_eq_true rfl) (Nat.le_of_ble_eq_true rfl) hlocks dX12_atom_311 (shM, ad, I177, J179, PM ad) hW ⟨I177, J179, rfl, ⟨(by show 0 ≤ (I177 0 31).toInt ∧ (I177 0 31).toInt ≤ 500; exact k180), (by show 0 ≤ (I177 0 33).toInt ∧ (I177 0 33).toInt ≤ 500; exact k181), (by show 0 ≤ (I177 0 34).toInt ∧ (I177 0 34).toInt ≤ 500; exact k182), (by show 0 ≤ (I177 0 35).toInt ∧ (I177 0 35).toInt ≤ 500; exact k183)⟩, ⟨(by show 0 ≤ (I177 0 36).toInt ∧ (I177 0 36).toInt ≤ 4; exact k184), (by show 0 ≤ (I177 0 42).toInt ∧ (I177 0 42).toInt ≤ 1; exact k185)⟩, ⟨(by show 0 ≤ (I177 0 47).toInt ∧ (I177 0 47).toInt ≤ 119; exact hI177md.1), (by show 0 ≤ (I177 0 39).toInt ∧ (I177 0 39).toInt ≤ 100; exact hI177md.2)⟩, (by show 0 ≤ (I177 0 40).toInt ∧ (I177 0 40).toInt ≤ 6199; exact k186), (by show 0 ≤ (I177 0 15).toInt ∧ (I177 0 15).toInt ≤ 6100; exact k187), (z_Nd_fr a169 fI177 (by decide)), (by show 0 ≤ (I177 0 35).toInt ∧ (I177 0 35).toInt ≤ (I177 0 34).toInt ∧ (I177 0 34).toInt ≤ (I177 0 33).toInt ∧ (I177 0 33).toInt ≤ 500 ∧ ((I177 0 36).toInt = 0 ∨ (I177 0 35).toInt + 1 ≤ (I177 0 34).toInt); first | omega | decide), f178, ⟨((Classical.em ((I177 0 42).toInt = 0)).elim (fun hw9 => Or.inr ⟨a1.toNatClampNeg + 2, by have w1 := z_fw_2n (a := va.toInt) (o := vo.toInt) (by omega); have w2 := z_fo_2y (a := va.toInt) (by omega); have w3 := z_fw_2n (a := 3) (o := (I 0 40).toInt) (by omega); have w4 := z_fo_2y (a := 3) (by omega); have w5 := z_fw_00 (a := 0) (o := -1) (by omega); have w6 := z_rk_2; have w7 := z_rk_0; exact z_PUSH (d := a1.toNatClampNeg) (w := 2) (a := 3) (o := (I 0 40).toInt) (s := vs.toInt) (wi := 0) hPS (fun i hi => ⟨by rw [eI167, z_up_n (by decide), fI145 26 i (z_wr_c (by decide)), eI139, z_up_n (by decide)], by rw [eI167, z_up_k (by omega), fI145 27 i (z_wr_c (by decide)), eI139, z_up_n (by decide)], by rw [eI167, z_up_n (by decide), fI145 28 i (z_wr_c (by decide)), eI139, z_up_k (by omega)], by rw [eI167, z_up_n (by decide), fI145 29 i (z_wr_c (by decide)), eI139, z_up_n (by decide)]⟩) (by rw [show I167 26 a1.toNatClampNeg = vw from (by rw [eI167, z_up_n (by decide), fI145 26 a1.toNatClampNeg (z_wr_c (by decide)), eI139, z_up_n (by decide)]; exact evw.symm)]; exact hvw) (by rw [show I167 27 a1.toNatClampNeg = 3 from (by rw [eI167, z_up_s])]; exact z_l3) (by rw [show I167 28 a1.toNatClampNeg = (I 0 40) from (by rw [eI167, z_up_n (by decide), fI145 28 a1.toNatClampNeg (z_wr_c (by decide)), eI139, z_up_s])]) (by rw [show I167 29 a1.toNatClampNeg = vs from (by rw [eI167, z_up_n (by decide), fI145 29 a1.toNatClampNeg (z_wr_c (by decide)), eI139, z_up_n (by decide)]; exact evs.symm)]) (by unfold z_fv; omega) hwd (by rw [eI167, z_up_n (by decide)]; omega) h197 z_l0 (by omega) (by omega) (by omega) (by omega) (by omega) (by omega) (by omega) (by omega)⟩) Or.inl), (by have hz9 : zp_st gt gv (n0 : Int) (.inr (tq, (2, fa, fx, fs) :: FS, fo, fg, NN)) = .inr (tq + 1, (0, 0, -1, 0) :: (2, 3, fg, fs) :: FS, fo, fg, NN) := (by first | (simp [zp_st, zp_op, zp_cm, zp_cb, (show fa = 2 by omega), ht163]; done) | (exfalso; omega)); rw [hz9]; exact hE198)⟩⟩
      · have z201 := z_l44
        have ht202 : ¬ gt (tq) = 44 := by omega
        have hE203 : zm_E gt gv gp ge gh gm n0 gI I145 J147 (.inl (tq)) := he161
        have h204 := zm_E_L hE203
        refine lv_aload_n hx hb dX12_atom_224 rfl (lv_at hl 0 rfl) ?_
        refine z_get (T := TX12) (N := 96) (ci := 12) (i := 0) (v := .ref (ad 27)) hx hb hts zj_X12_atom_X12 hown hK hW rfl rfl 44 (by decide) (hts (.fieldLink RX12 94 "PetrolBoardModel" "at" "[I") (me_s (me_l (me_l (List.mem_of_getElem? (i := 0) rfl))))) (fun _ h => h) rfl dX12_atom_225 ?_
        refine lv_iload_n hx hb dX12_atom_228 rfl (lv_at hl 1 rfl) ?_
        refine lv_iconst (v := 3) hx hb dX12_atom_229 (by decide) ?_
        refine z_iast (i := 27) hx hb hK hW hS rfl (z_ix rfl (by omega) (by omega)) dX12_atom_230 (fun H locs hz1 hW hS => ?_)
        obtain ⟨I205, eI205⟩ : ∃ K : z_I, K = z_up I145 27 a1.toNatClampNeg 3 := ⟨_, rfl⟩
        rw [← eI205] at hW
        have f206 := z_fr_a f146 (show z_wa L_X12_atom_x 27 = true by decide) eI205
        have a207 := z_Nd_n (z_Nd_fr a141 fI145 (by decide)) (by decide) eI205
        have hE208 : zm_E gt gv gp ge gh gm n0 gI I205 J147 (.inl (tq)) := zm_E_w hE203 eI205 (by decide)
        have h209 := zm_E_L hE208
        refine lv_aload_n hx hb dX12_atom_231 rfl (lv_at hl 0 rfl) ?_
        have r210 : 0 ≤ (I145 0 42).toInt ∧ (I145 0 42).toInt ≤ 1 := hI145mt.2
        refine z_get (T := TX12) (N := 96) (ci := 12) (i := 0) (v := .int (I145 0 42)) hx hb hts zj_X12_atom_X12 hown hK hW rfl rfl 42 (by decide) (hts (.fieldLink RX12 294 "PetrolBoardModel" "isWrong" "Z") (me_s (me_l (me_l (List.mem_of_getElem? (i := 6) rfl))))) (fun _ h => h) (congrArg Value.int (by rw [eI205, z_up_n (by decide)])) dX12_atom_232 ?_
        refine lv_if_ne (tgt := 311) hx hb dX12_atom_235 (by decide) (fun c211 => ?_) (fun c211 => (by have g := z_f_eq rfl z_l0 c211; omega))
        have g212 := z_f_ne rfl z_l0 c211
        exact z_vret hx hb hr hK hS (Nat.le_of_ble_eq_true rfl) (Nat.le_of_ble_eq_true rfl) hlocks dX12_atom_311 (shM, ad, I205, J147, PM ad) hW ⟨I205, J147, rfl, ⟨(by show 0 ≤ (I205 0 31).toInt ∧ (I205 0 31).toInt ≤ 500; rw [eI205, z_up_n (by decide)]; exact hI145mp.1), (by show 0 ≤ (I205 0 33).toInt ∧ (I205 0 33).toInt ≤ 500; rw [eI205, z_up_n (by decide)]; exact hI145mp.2.1), (by show 0 ≤ (I205 0 34).toInt ∧ (I205 0 34).toInt ≤ 500; rw [eI205, z_up_n (by decide)]; exact hI145mp.2.2.1), (by show 0 ≤ (I205 0 35).toInt ∧ (I205 0 35).toInt ≤ 500; rw [eI205, z_up_n (by decide)]; exact hI145mp.2.2.2)⟩, ⟨(by show 0 ≤ (I205 0 36).toInt ∧ (I205 0 36).toInt ≤ 4; rw [eI205, z_up_n (by decide)]; exact hI145mt.1), (by show 0 ≤ (I205 0 42).toInt ∧ (I205 0 42).toInt ≤ 1; rw [eI205, z_up_n (by decide)]; exact hI145mt.2)⟩, ⟨(by show 0 ≤ (I205 0 47).toInt ∧ (I205 0 47).toInt ≤ 119; rw [eI205, z_up_n (by decide)]; exact k148), (by show 0 ≤ (I205 0 39).toInt ∧ (I205 0 39).toInt ≤ 100; rw [eI205, z_up_n (by decide)]; exact k149)⟩, (by show 0 ≤ (I205 0 40).toInt ∧ (I205 0 40).toInt ≤ 6199; rw [eI205, z_up_n (by decide)]; exact k150), (by show 0 ≤ (I205 0 15).toInt ∧ (I205 0 15).toInt ≤ 6100; rw [eI205, z_up_n (by decide)]; exact k151), a207, (by have q0 : (I205 0 35) = (I145 0 35) := (by rw [eI205, z_up_n (by decide)]); have q1 : (I205 0 34) = (I145 0 34) := (by rw [eI205, z_up_n (by decide)]); have q2 : (I205 0 33) = (I145 0 33) := (by rw [eI205, z_up_n (by decide)]); have q3 : (I205 0 36) = (I145 0 36) := (by rw [eI205, z_up_n (by decide)]); show 0 ≤ (I205 0 35).toInt ∧ (I205 0 35).toInt ≤ (I205 0 34).toInt ∧ (I205 0 34).toInt ≤ (I205 0 33).toInt ∧ (I205 0 33).toInt ≤ 500 ∧ ((I205 0 36).toInt = 0 ∨ (I205 0 35).toInt + 1 ≤ (I205 0 34).toInt); rw [q0, q1, q2, q3]; first | omega | decide), f206, ⟨(Or.inl (by have q0 : (I205 0 42) = (I145 0 42) := (by rw [eI205, z_up_n (by decide)]); show ¬ (I205 0 42).toInt = 0; rw [q0]; omega)), (by have hz9 : zp_st gt gv (n0 : Int) (.inr (tq, (2, fa, fx, fs) :: FS, fo, fg, NN)) = .inl (tq) := (by first | (simp [zp_st, zp_op, zp_cm, zp_cb, (show fa = 2 by omega), ht202]; done) | (exfalso; omega)); rw [hz9]; exact hE208)⟩⟩
  · have g213 := z_f_eq rfl z_l0 c1
    refine lv_aload_n hx hb dX12_atom_9 rfl (lv_at hl 0 rfl) ?_
    have r214 : 0 ≤ (I 0 36).toInt ∧ (I 0 36).toInt ≤ 4 := hmt.1
    refine z_get (T := TX12) (N := 96) (ci := 12) (i := 0) (v := .int (I 0 36)) hx hb hts zj_X12_atom_X12 hown hK hW rfl rfl 36 (by decide) (hts (.fieldLink RX12 281 "PetrolBoardModel" "token" "I") (me_s (me_l (me_l (List.mem_of_getElem? (i := 1) rfl))))) (fun _ h => h) rfl dX12_atom_10 ?_
    refine lv_iconst (v := 2) hx hb dX12_atom_13 (by decide) ?_
    refine lv_icmp_ne (tgt := 40) hx hb dX12_atom_14 (by decide) (fun c215 => ?_) (fun c215 => ?_)
    · have g216 := z_f_ne rfl z_l2 c215
      refine lv_aload_n hx hb dX12_atom_40 rfl (lv_at hl 0 rfl) ?_
      refine lv_bipush (v := 40) hx hb dX12_atom_41 (by decide) ?_
      refine z_ci hW hS hA (va_runV (As := [.int 40]) (rest := []) ⟨hx, hb, hml, hown, hts⟩ (sx_X12_isSign_x l G ad I J ⟨(by show 0 ≤ (I 0 36).toInt ∧ (I 0 36).toInt ≤ 4; exact hmt.1), (by show 0 ≤ (I 0 42).toInt ∧ (I 0 42).toInt ≤ 1; exact hmt.2)⟩ 40 _) (cwV 1 hts gX12_atom_X12_isSign rfl rfl rfl (by decide +kernel) ⟨Nat.le_of_ble_eq_true rfl, Nat.le_of_ble_eq_true rfl⟩) (z_preV (i := 0) hK hW rfl rfl) rfl rfl hl.1 rfl (lv_room (Nat.le_of_ble_eq_true rfl)) dX12_atom_43 ⟨Nat.le_of_ble_eq_true rfl, Nat.le_of_ble_eq_true rfl⟩) (fun r u1 H locs hp hW hS => ?_)
      obtain ⟨e9, hp⟩ := hp
      rw [e9] at hW
      rcases hp with ⟨rfl, h217, h218⟩ | ⟨rfl, h217⟩
      · have z219 := z_l40
        have ht220 : gt (tq) = 40 := (zm_E_sg (show zp_sg 40 by unfold zp_sg; omega) hE).mp ⟨h217, by omega⟩
        have h221 := h217
        have h222 : (I 0 35).toInt + 1 ≤ (I 0 34).toInt := by omega
        refine lv_if_eq (tgt := 68) hx hb dX12_atom_46 (by decide) (fun c223 => absurd c223 (by decide)) (fun c223 => ?_)
        refine lv_aload_n hx hb dX12_atom_49 rfl (lv_at hl 0 rfl) ?_
        refine z_cv hW hS hA (va_runV (As := []) (rest := []) ⟨hx, hb, hml, hown, hts⟩ (sx_X12_opens_x l G ad I J ⟨(by show 0 ≤ (I 0 31).toInt ∧ (I 0 31).toInt ≤ 500; exact hmp.1), (by show 0 ≤ (I 0 33).toInt ∧ (I 0 33).toInt ≤ 500; exact hmp.2.1), (by show 0 ≤ (I 0 34).toInt ∧ (I 0 34).toInt ≤ 500; exact hmp.2.2.1), (by show 0 ≤ (I 0 35).toInt ∧ (I 0 35).toInt ≤ 500; exact hmp.2.2.2)⟩ ⟨(by show 0 ≤ (I 0 36).toInt ∧ (I 0 36).toInt ≤ 4; exact hmt.1), (by show 0 ≤ (I 0 42).toInt ∧ (I 0 42).toInt ≤ 1; exact hmt.2)⟩ (by show 0 ≤ (I 0 35).toInt ∧ (I 0 35).toInt ≤ (I 0 34).toInt ∧ (I 0 34).toInt ≤ (I 0 33).toInt ∧ (I 0 33).toInt ≤ 500 ∧ ((I 0 36).toInt = 0 ∨ (I 0 35).toInt + 1 ≤ (I 0 34).toInt); first | omega | decide) ⟨(by show 0 ≤ (I 0 47).toInt ∧ (I 0 47).toInt ≤ 119; exact hmd.1), (by show 0 ≤ (I 0 39).toInt ∧ (I 0 39).toInt ≤ 100; exact hmd.2)⟩ gt gv gp ge gh gm n0 gI (tq) ((2, fa, fx, fs) :: FS) (fo) (fg) (NN) (by show (I 0 39).toInt ≤ 9; omega) hE hSM (by omega) _) (cwV 0 hts gX12_atom_X12_opens rfl rfl rfl (by decide +kernel) ⟨Nat.le_of_ble_eq_true rfl, Nat.le_of_ble_eq_true rfl⟩) (z_preV (i := 0) hK hW rfl rfl) rfl rfl hl.1 rfl (lv_room (Nat.le_of_ble_eq_true rfl)) dX12_atom_50 ⟨Nat.le_of_ble_eq_true rfl, Nat.le_of_ble_eq_true rfl⟩) (fun u1 H locs hp hW hS => ?_)
        obtain ⟨I224, J226, e9, hI224mp, hI224mt, hI224rp, hI224md, fI224, hp⟩ := hp
        rw [e9] at hW
        have f225 := z_fr_sub (L := L_X12_atom_x) z_fr_0 fI224 (by decide)
        have k227 : 0 ≤ (I224 0 40).toInt ∧ (I224 0 40).toInt ≤ 6199 := by rw [fI224 0 40 (by decide)]; exact (by show 0 ≤ (I 0 40).toInt ∧ (I 0 40).toInt ≤ 6199; exact hmg)
        have k228 : 0 ≤ (I224 0 15).toInt ∧ (I224 0 15).toInt ≤ 6100 := by rw [fI224 0 15 (by decide)]; exact (by show 0 ≤ (I 0 15).toInt ∧ (I 0 15).toInt ≤ 6100; exact hmn)
        have k229 : 0 ≤ (I224 0 35).toInt ∧ (I224 0 35).toInt ≤ (I224 0 34).toInt ∧ (I224 0 34).toInt ≤ (I224 0 33).toInt ∧ (I224 0 33).toInt ≤ 500 ∧ ((I224 0 36).toInt = 0 ∨ (I224 0 35).toInt + 1 ≤ (I224 0 34).toInt) := hI224rp
        have k230 : (I224 0 47).toInt = (I 0 47).toInt := by rw [fI224 0 47 (by decide)]
        have k231 : (I224 0 15).toInt = (I 0 15).toInt := by rw [fI224 0 15 (by decide)]
        have k232 : (I224 0 40).toInt = (I 0 40).toInt := by rw [fI224 0 40 (by decide)]
        obtain ⟨h233, h234, h235, h236⟩ := hp
        rcases h236 with ⟨ht237, he238⟩ | ⟨ht237, he238⟩
        · have hE239 : zm_E gt gv gp ge gh gm n0 gI I224 J226 (.inr (tq + 1, (2, fa, fx, fs) :: FS, fo + 1, fg, NN)) := he238
          have h240 := zm_E_W hE239
          have h241 := zm_E_D hE239
          refine lv_aload_n hx hb dX12_atom_53 rfl (lv_at hl 0 rfl) ?_
          refine z_get (T := TX12) (N := 96) (ci := 12) (i := 0) (v := .ref (ad 27)) hx hb hts zj_X12_atom_X12 hown hK hW rfl rfl 44 (by decide) (hts (.fieldLink RX12 94 "PetrolBoardModel" "at" "[I") (me_s (me_l (me_l (List.mem_of_getElem? (i := 0) rfl))))) (fun _ h => h) rfl dX12_atom_54 ?_
          refine lv_iload_n hx hb dX12_atom_57 rfl (lv_at hl 1 rfl) ?_
          refine lv_iconst (v := 1) hx hb dX12_atom_58 (by decide) ?_
          refine z_iast (i := 27) hx hb hK hW hS rfl (z_ix rfl (by omega) (by omega)) dX12_atom_59 (fun H locs hz1 hW hS => ?_)
          obtain ⟨I242, eI242⟩ : ∃ K : z_I, K = z_up I224 27 a1.toNatClampNeg 1 := ⟨_, rfl⟩
          rw [← eI242] at hW
          have f243 := z_fr_a f225 (show z_wa L_X12_atom_x 27 = true by decide) eI242
          have a244 := z_Nd_n (z_Nd_fr hNd fI224 (by decide)) (by decide) eI242
          have z245 := z_l1
          have hE246 : zm_E gt gv gp ge gh gm n0 gI I242 J226 (.inr (tq + 1, (2, 1, fx, fs) :: FS, fo + 1, fg, NN)) := zm_E_top hE239 eI242 hdk (Or.inl ⟨rfl, by omega, rfl, rfl, rfl⟩)
          have h247 := zm_E_W hE246
          have h248 := zm_E_D hE246
          refine lv_aload_n hx hb dX12_atom_60 rfl (lv_at hl 0 rfl) ?_
          refine lv_iconst (v := 0) hx hb dX12_atom_61 (by decide) ?_
          refine z_cv hW hS hA (va_runV (As := [.int 0]) (rest := []) ⟨hx, hb, hml, hown, hts⟩ (sx_X12_begin_x l G ad I242 J226 ⟨(by show 0 ≤ (I242 0 47).toInt ∧ (I242 0 47).toInt ≤ 119; rw [eI242, z_up_n (by decide)]; exact hI224md.1), (by show 0 ≤ (I242 0 39).toInt ∧ (I242 0 39).toInt ≤ 100; rw [eI242, z_up_n (by decide)]; exact hI224md.2)⟩ 0 (by have q0 : (I242 0 47) = (I224 0 47) := (by rw [eI242, z_up_n (by decide)]); show (I242 0 47).toInt ≤ 118; rw [q0]; omega) _) (cwV 1 hts gX12_atom_X12_begin rfl rfl rfl (by decide +kernel) ⟨Nat.le_of_ble_eq_true rfl, Nat.le_of_ble_eq_true rfl⟩) (z_preV (i := 0) hK hW rfl rfl) rfl rfl hl.1 rfl (lv_room (Nat.le_of_ble_eq_true rfl)) dX12_atom_62 ⟨Nat.le_of_ble_eq_true rfl, Nat.le_of_ble_eq_true rfl⟩) (fun u1 H locs hp hW hS => ?_)
          obtain ⟨I249, J251, e9, hI249md, fI249, hp⟩ := hp
          rw [e9] at hW
          have f250 := z_fr_sub (L := L_X12_atom_x) f243 fI249 (by decide)
          have k252 : 0 ≤ (I249 0 31).toInt ∧ (I249 0 31).toInt ≤ 500 := by rw [fI249 0 31 (by decide)]; exact (by show 0 ≤ (I242 0 31).toInt ∧ (I242 0 31).toInt ≤ 500; rw [eI242, z_up_n (by decide)]; exact hI224mp.1)
          have k253 : 0 ≤ (I249 0 33).toInt ∧ (I249 0 33).toInt ≤ 500 := by rw [fI249 0 33 (by decide)]; exact (by show 0 ≤ (I242 0 33).toInt ∧ (I242 0 33).toInt ≤ 500; rw [eI242, z_up_n (by decide)]; exact hI224mp.2.1)
          have k254 : 0 ≤ (I249 0 34).toInt ∧ (I249 0 34).toInt ≤ 500 := by rw [fI249 0 34 (by decide)]; exact (by show 0 ≤ (I242 0 34).toInt ∧ (I242 0 34).toInt ≤ 500; rw [eI242, z_up_n (by decide)]; exact hI224mp.2.2.1)
          have k255 : 0 ≤ (I249 0 35).toInt ∧ (I249 0 35).toInt ≤ 500 := by rw [fI249 0 35 (by decide)]; exact (by show 0 ≤ (I242 0 35).toInt ∧ (I242 0 35).toInt ≤ 500; rw [eI242, z_up_n (by decide)]; exact hI224mp.2.2.2)
          have k256 : 0 ≤ (I249 0 36).toInt ∧ (I249 0 36).toInt ≤ 4 := by rw [fI249 0 36 (by decide)]; exact (by show 0 ≤ (I242 0 36).toInt ∧ (I242 0 36).toInt ≤ 4; rw [eI242, z_up_n (by decide)]; exact hI224mt.1)
          have k257 : 0 ≤ (I249 0 42).toInt ∧ (I249 0 42).toInt ≤ 1 := by rw [fI249 0 42 (by decide)]; exact (by show 0 ≤ (I242 0 42).toInt ∧ (I242 0 42).toInt ≤ 1; rw [eI242, z_up_n (by decide)]; exact hI224mt.2)
          have k258 : 0 ≤ (I249 0 40).toInt ∧ (I249 0 40).toInt ≤ 6199 := by rw [fI249 0 40 (by decide)]; exact (by show 0 ≤ (I242 0 40).toInt ∧ (I242 0 40).toInt ≤ 6199; rw [eI242, z_up_n (by decide)]; exact k227)
          have k259 : 0 ≤ (I249 0 15).toInt ∧ (I249 0 15).toInt ≤ 6100 := by rw [fI249 0 15 (by decide)]; exact (by show 0 ≤ (I242 0 15).toInt ∧ (I242 0 15).toInt ≤ 6100; rw [eI242, z_up_n (by decide)]; exact k228)
          have k260 : 0 ≤ (I249 0 35).toInt ∧ (I249 0 35).toInt ≤ (I249 0 34).toInt ∧ (I249 0 34).toInt ≤ (I249 0 33).toInt ∧ (I249 0 33).toInt ≤ 500 ∧ ((I249 0 36).toInt = 0 ∨ (I249 0 35).toInt + 1 ≤ (I249 0 34).toInt) := (by have q0 : (I249 0 35) = (I224 0 35) := (by rw [fI249 0 35 (by decide), eI242, z_up_n (by decide)]); have q1 : (I249 0 34) = (I224 0 34) := (by rw [fI249 0 34 (by decide), eI242, z_up_n (by decide)]); have q2 : (I249 0 33) = (I224 0 33) := (by rw [fI249 0 33 (by decide), eI242, z_up_n (by decide)]); have q3 : (I249 0 36) = (I224 0 36) := (by rw [fI249 0 36 (by decide), eI242, z_up_n (by decide)]); show 0 ≤ (I249 0 35).toInt ∧ (I249 0 35).toInt ≤ (I249 0 34).toInt ∧ (I249 0 34).toInt ≤ (I249 0 33).toInt ∧ (I249 0 33).toInt ≤ 500 ∧ ((I249 0 36).toInt = 0 ∨ (I249 0 35).toInt + 1 ≤ (I249 0 34).toInt); rw [q0, q1, q2, q3]; first | omega | decide)
          have k261 : (I249 0 35).toInt = (I224 0 35).toInt := by rw [fI249 0 35 (by decide), eI242, z_up_n (by decide)]
          have k262 : (I249 0 34).toInt = (I224 0 34).toInt := by rw [fI249 0 34 (by decide), eI242, z_up_n (by decide)]
          have k263 : (I249 0 36).toInt = (I224 0 36).toInt := by rw [fI249 0 36 (by decide), eI242, z_up_n (by decide)]
          have k264 : (I249 0 42).toInt = (I224 0 42).toInt := by rw [fI249 0 42 (by decide), eI242, z_up_n (by decide)]
          have k265 : (I249 0 39).toInt = (I224 0 39).toInt := by rw [fI249 0 39 (by decide), eI242, z_up_n (by decide)]
          have k266 : (I249 0 15).toInt = (I224 0 15).toInt := by rw [fI249 0 15 (by decide), eI242, z_up_n (by decide)]
          have k267 : (I249 0 40).toInt = (I224 0 40).toInt := by rw [fI249 0 40 (by decide), eI242, z_up_n (by decide)]
          obtain ⟨hp, hJ268⟩ := hp
          have h269 := hp
          have hE270 : zm_E gt gv gp ge gh gm n0 gI I249 J251 (.inr (tq + 1, (0, 0, -1, 0) :: (2, 1, fx, fs) :: FS, fo + 1, fg, NN)) := zm_E_begin hE246 h269 z_l0 fI249 (by decide) hJ268
          have h271 := zm_E_W hE270
          have h272 := zm_E_D hE270
          refine lv_goto (tgt := 311) hx hb dX12_atom_65 (by decide) ?_
          exact z_vret hx hb hr hK hS (Nat.le_of_ble_eq_true rfl) (Nat.le_of_ble_eq_true rfl) hlocks dX12_atom_311 (shM, ad, I249, J251, PM ad) hW ⟨I249, J251, rfl, ⟨(by show 0 ≤ (I249 0 31).toInt ∧ (I249 0 31).toInt ≤ 500; exact k252), (by show 0 ≤ (I249 0 33).toInt ∧ (I249 0 33).toInt ≤ 500; exact k253), (by show 0 ≤ (I249 0 34).toInt ∧ (I249 0 34).toInt ≤ 500; exact k254), (by show 0 ≤ (I249 0 35).toInt ∧ (I249 0 35).toInt ≤ 500; exact k255)⟩, ⟨(by show 0 ≤ (I249 0 36).toInt ∧ (I249 0 36).toInt ≤ 4; exact k256), (by show 0 ≤ (I249 0 42).toInt ∧ (I249 0 42).toInt ≤ 1; exact k257)⟩, ⟨(by show 0 ≤ (I249 0 47).toInt ∧ (I249 0 47).toInt ≤ 119; exact hI249md.1), (by show 0 ≤ (I249 0 39).toInt ∧ (I249 0 39).toInt ≤ 100; exact hI249md.2)⟩, (by show 0 ≤ (I249 0 40).toInt ∧ (I249 0 40).toInt ≤ 6199; exact k258), (by show 0 ≤ (I249 0 15).toInt ∧ (I249 0 15).toInt ≤ 6100; exact k259), (z_Nd_fr a244 fI249 (by decide)), (by show 0 ≤ (I249 0 35).toInt ∧ (I249 0 35).toInt ≤ (I249 0 34).toInt ∧ (I249 0 34).toInt ≤ (I249 0 33).toInt ∧ (I249 0 33).toInt ≤ 500 ∧ ((I249 0 36).toInt = 0 ∨ (I249 0 35).toInt + 1 ≤ (I249 0 34).toInt); first | omega | decide), f250, ⟨((Classical.em ((I249 0 42).toInt = 0)).elim (fun hw9 => Or.inr ⟨a1.toNatClampNeg + 2, by have w1 := z_fw_20 (a := va.toInt) (o := vo.toInt) (by omega); have w2 := z_fo_2n (a := va.toInt) (by omega); have w3 := z_fw_2n (a := 1) (o := vo.toInt) (by omega); have w4 := z_fo_2y (a := 1) (by omega); have w5 := z_fw_00 (a := 0) (o := -1) (by omega); have w6 := z_rk_2; have w7 := z_rk_0; exact z_PUSH (d := a1.toNatClampNeg) (w := 2) (a := 1) (o := vo.toInt) (s := vs.toInt) (wi := 0) hPS (fun i hi => ⟨by rw [eI242, z_up_n (by decide), fI224 26 i (z_wr_c (by decide))], by rw [eI242, z_up_k (by omega), fI224 27 i (z_wr_c (by decide))], by rw [eI242, z_up_n (by decide), fI224 28 i (z_wr_c (by decide))], by rw [eI242, z_up_n (by decide), fI224 29 i (z_wr_c (by decide))]⟩) (by rw [show I242 26 a1.toNatClampNeg = vw from (by rw [eI242, z_up_n (by decide), fI224 26 a1.toNatClampNeg (z_wr_c (by decide))]; exact evw.symm)]; exact hvw) (by rw [show I242 27 a1.toNatClampNeg = 1 from (by rw [eI242, z_up_s])]; exact z_l1) (by rw [show I242 28 a1.toNatClampNeg = vo from (by rw [eI242, z_up_n (by decide), fI224 28 a1.toNatClampNeg (z_wr_c (by decide))]; exact evo.symm)]) (by rw [show I242 29 a1.toNatClampNeg = vs from (by rw [eI242, z_up_n (by decide), fI224 29 a1.toNatClampNeg (z_wr_c (by decide))]; exact evs.symm)]) (by unfold z_fv; omega) hwd (by rw [eI242, z_up_n (by decide)]; omega) h269 z_l0 (by omega) (by omega) (by omega) (by omega) (by omega) (by omega) (by omega) (by omega)⟩) Or.inl), (by have hz9 : zp_st gt gv (n0 : Int) (.inr (tq, (2, fa, fx, fs) :: FS, fo, fg, NN)) = .inr (tq + 1, (0, 0, -1, 0) :: (2, 1, fx, fs) :: FS, fo + 1, fg, NN) := (by first | (simp [zp_st, zp_op, zp_cm, zp_cb, (show fa = 0 by omega), (show ¬ gt tq = 400 by omega), ht220, ht237]; done) | (exfalso; omega)); rw [hz9]; exact hE270)⟩⟩
        · have hE273 : zm_E gt gv gp ge gh gm n0 gI I224 J226 (.inl (tq)) := he238
          have h274 := zm_E_L hE273
          refine lv_aload_n hx hb dX12_atom_53 rfl (lv_at hl 0 rfl) ?_
          refine z_get (T := TX12) (N := 96) (ci := 12) (i := 0) (v := .ref (ad 27)) hx hb hts zj_X12_atom_X12 hown hK hW rfl rfl 44 (by decide) (hts (.fieldLink RX12 94 "PetrolBoardModel" "at" "[I") (me_s (me_l (me_l (List.mem_of_getElem? (i := 0) rfl))))) (fun _ h => h) rfl dX12_atom_54 ?_
          refine lv_iload_n hx hb dX12_atom_57 rfl (lv_at hl 1 rfl) ?_
          refine lv_iconst (v := 1) hx hb dX12_atom_58 (by decide) ?_
          refine z_iast (i := 27) hx hb hK hW hS rfl (z_ix rfl (by omega) (by omega)) dX12_atom_59 (fun H locs hz1 hW hS => ?_)
          obtain ⟨I275, eI275⟩ : ∃ K : z_I, K = z_up I224 27 a1.toNatClampNeg 1 := ⟨_, rfl⟩
          rw [← eI275] at hW
          have f276 := z_fr_a f225 (show z_wa L_X12_atom_x 27 = true by decide) eI275
          have a277 := z_Nd_n (z_Nd_fr hNd fI224 (by decide)) (by decide) eI275
          have hE278 : zm_E gt gv gp ge gh gm n0 gI I275 J226 (.inl (tq)) := zm_E_w hE273 eI275 (by decide)
          have h279 := zm_E_L hE278
          refine lv_aload_n hx hb dX12_atom_60 rfl (lv_at hl 0 rfl) ?_
          refine lv_iconst (v := 0) hx hb dX12_atom_61 (by decide) ?_
          refine z_cv hW hS hA (va_runV (As := [.int 0]) (rest := []) ⟨hx, hb, hml, hown, hts⟩ (sx_X12_begin_x l G ad I275 J226 ⟨(by show 0 ≤ (I275 0 47).toInt ∧ (I275 0 47).toInt ≤ 119; rw [eI275, z_up_n (by decide)]; exact hI224md.1), (by show 0 ≤ (I275 0 39).toInt ∧ (I275 0 39).toInt ≤ 100; rw [eI275, z_up_n (by decide)]; exact hI224md.2)⟩ 0 (by have q0 : (I275 0 47) = (I224 0 47) := (by rw [eI275, z_up_n (by decide)]); show (I275 0 47).toInt ≤ 118; rw [q0]; omega) _) (cwV 1 hts gX12_atom_X12_begin rfl rfl rfl (by decide +kernel) ⟨Nat.le_of_ble_eq_true rfl, Nat.le_of_ble_eq_true rfl⟩) (z_preV (i := 0) hK hW rfl rfl) rfl rfl hl.1 rfl (lv_room (Nat.le_of_ble_eq_true rfl)) dX12_atom_62 ⟨Nat.le_of_ble_eq_true rfl, Nat.le_of_ble_eq_true rfl⟩) (fun u1 H locs hp hW hS => ?_)
          obtain ⟨I280, J282, e9, hI280md, fI280, hp⟩ := hp
          rw [e9] at hW
          have f281 := z_fr_sub (L := L_X12_atom_x) f276 fI280 (by decide)
          have k283 : 0 ≤ (I280 0 31).toInt ∧ (I280 0 31).toInt ≤ 500 := by rw [fI280 0 31 (by decide)]; exact (by show 0 ≤ (I275 0 31).toInt ∧ (I275 0 31).toInt ≤ 500; rw [eI275, z_up_n (by decide)]; exact hI224mp.1)
          have k284 : 0 ≤ (I280 0 33).toInt ∧ (I280 0 33).toInt ≤ 500 := by rw [fI280 0 33 (by decide)]; exact (by show 0 ≤ (I275 0 33).toInt ∧ (I275 0 33).toInt ≤ 500; rw [eI275, z_up_n (by decide)]; exact hI224mp.2.1)
          have k285 : 0 ≤ (I280 0 34).toInt ∧ (I280 0 34).toInt ≤ 500 := by rw [fI280 0 34 (by decide)]; exact (by show 0 ≤ (I275 0 34).toInt ∧ (I275 0 34).toInt ≤ 500; rw [eI275, z_up_n (by decide)]; exact hI224mp.2.2.1)
          have k286 : 0 ≤ (I280 0 35).toInt ∧ (I280 0 35).toInt ≤ 500 := by rw [fI280 0 35 (by decide)]; exact (by show 0 ≤ (I275 0 35).toInt ∧ (I275 0 35).toInt ≤ 500; rw [eI275, z_up_n (by decide)]; exact hI224mp.2.2.2)
          have k287 : 0 ≤ (I280 0 36).toInt ∧ (I280 0 36).toInt ≤ 4 := by rw [fI280 0 36 (by decide)]; exact (by show 0 ≤ (I275 0 36).toInt ∧ (I275 0 36).toInt ≤ 4; rw [eI275, z_up_n (by decide)]; exact hI224mt.1)
          have k288 : 0 ≤ (I280 0 42).toInt ∧ (I280 0 42).toInt ≤ 1 := by rw [fI280 0 42 (by decide)]; exact (by show 0 ≤ (I275 0 42).toInt ∧ (I275 0 42).toInt ≤ 1; rw [eI275, z_up_n (by decide)]; exact hI224mt.2)
          have k289 : 0 ≤ (I280 0 40).toInt ∧ (I280 0 40).toInt ≤ 6199 := by rw [fI280 0 40 (by decide)]; exact (by show 0 ≤ (I275 0 40).toInt ∧ (I275 0 40).toInt ≤ 6199; rw [eI275, z_up_n (by decide)]; exact k227)
          have k290 : 0 ≤ (I280 0 15).toInt ∧ (I280 0 15).toInt ≤ 6100 := by rw [fI280 0 15 (by decide)]; exact (by show 0 ≤ (I275 0 15).toInt ∧ (I275 0 15).toInt ≤ 6100; rw [eI275, z_up_n (by decide)]; exact k228)
          have k291 : 0 ≤ (I280 0 35).toInt ∧ (I280 0 35).toInt ≤ (I280 0 34).toInt ∧ (I280 0 34).toInt ≤ (I280 0 33).toInt ∧ (I280 0 33).toInt ≤ 500 ∧ ((I280 0 36).toInt = 0 ∨ (I280 0 35).toInt + 1 ≤ (I280 0 34).toInt) := (by have q0 : (I280 0 35) = (I224 0 35) := (by rw [fI280 0 35 (by decide), eI275, z_up_n (by decide)]); have q1 : (I280 0 34) = (I224 0 34) := (by rw [fI280 0 34 (by decide), eI275, z_up_n (by decide)]); have q2 : (I280 0 33) = (I224 0 33) := (by rw [fI280 0 33 (by decide), eI275, z_up_n (by decide)]); have q3 : (I280 0 36) = (I224 0 36) := (by rw [fI280 0 36 (by decide), eI275, z_up_n (by decide)]); show 0 ≤ (I280 0 35).toInt ∧ (I280 0 35).toInt ≤ (I280 0 34).toInt ∧ (I280 0 34).toInt ≤ (I280 0 33).toInt ∧ (I280 0 33).toInt ≤ 500 ∧ ((I280 0 36).toInt = 0 ∨ (I280 0 35).toInt + 1 ≤ (I280 0 34).toInt); rw [q0, q1, q2, q3]; first | omega | decide)
          have k292 : (I280 0 35).toInt = (I224 0 35).toInt := by rw [fI280 0 35 (by decide), eI275, z_up_n (by decide)]
          have k293 : (I280 0 34).toInt = (I224 0 34).toInt := by rw [fI280 0 34 (by decide), eI275, z_up_n (by decide)]
          have k294 : (I280 0 36).toInt = (I224 0 36).toInt := by rw [fI280 0 36 (by decide), eI275, z_up_n (by decide)]
          have k295 : (I280 0 42).toInt = (I224 0 42).toInt := by rw [fI280 0 42 (by decide), eI275, z_up_n (by decide)]
          have k296 : (I280 0 39).toInt = (I224 0 39).toInt := by rw [fI280 0 39 (by decide), eI275, z_up_n (by decide)]
          have k297 : (I280 0 15).toInt = (I224 0 15).toInt := by rw [fI280 0 15 (by decide), eI275, z_up_n (by decide)]
          have k298 : (I280 0 40).toInt = (I224 0 40).toInt := by rw [fI280 0 40 (by decide), eI275, z_up_n (by decide)]
          obtain ⟨hp, hJ299⟩ := hp
          have h300 := hp
          have hE301 : zm_E gt gv gp ge gh gm n0 gI I280 J282 (.inl (tq)) := zm_E_wf hE278 fI280 (by decide) (by decide) (by decide)
          have h302 := zm_E_L hE301
          refine lv_goto (tgt := 311) hx hb dX12_atom_65 (by decide) ?_
          exact z_vret hx hb hr hK hS (Nat.le_of_ble_eq_true rfl) (Nat.le_of_ble_eq_true rfl) hlocks dX12_atom_311 (shM, ad, I280, J282, PM ad) hW ⟨I280, J282, rfl, ⟨(by show 0 ≤ (I280 0 31).toInt ∧ (I280 0 31).toInt ≤ 500; exact k283), (by show 0 ≤ (I280 0 33).toInt ∧ (I280 0 33).toInt ≤ 500; exact k284), (by show 0 ≤ (I280 0 34).toInt ∧ (I280 0 34).toInt ≤ 500; exact k285), (by show 0 ≤ (I280 0 35).toInt ∧ (I280 0 35).toInt ≤ 500; exact k286)⟩, ⟨(by show 0 ≤ (I280 0 36).toInt ∧ (I280 0 36).toInt ≤ 4; exact k287), (by show 0 ≤ (I280 0 42).toInt ∧ (I280 0 42).toInt ≤ 1; exact k288)⟩, ⟨(by show 0 ≤ (I280 0 47).toInt ∧ (I280 0 47).toInt ≤ 119; exact hI280md.1), (by show 0 ≤ (I280 0 39).toInt ∧ (I280 0 39).toInt ≤ 100; exact hI280md.2)⟩, (by show 0 ≤ (I280 0 40).toInt ∧ (I280 0 40).toInt ≤ 6199; exact k289), (by show 0 ≤ (I280 0 15).toInt ∧ (I280 0 15).toInt ≤ 6100; exact k290), (z_Nd_fr a277 fI280 (by decide)), (by show 0 ≤ (I280 0 35).toInt ∧ (I280 0 35).toInt ≤ (I280 0 34).toInt ∧ (I280 0 34).toInt ≤ (I280 0 33).toInt ∧ (I280 0 33).toInt ≤ 500 ∧ ((I280 0 36).toInt = 0 ∨ (I280 0 35).toInt + 1 ≤ (I280 0 34).toInt); first | omega | decide), f281, ⟨((Classical.em ((I280 0 42).toInt = 0)).elim (fun hw9 => Or.inr ⟨a1.toNatClampNeg + 2, by have w1 := z_fw_20 (a := va.toInt) (o := vo.toInt) (by omega); have w2 := z_fo_2n (a := va.toInt) (by omega); have w3 := z_fw_2n (a := 1) (o := vo.toInt) (by omega); have w4 := z_fo_2y (a := 1) (by omega); have w5 := z_fw_00 (a := 0) (o := -1) (by omega); have w6 := z_rk_2; have w7 := z_rk_0; exact z_PUSH (d := a1.toNatClampNeg) (w := 2) (a := 1) (o := vo.toInt) (s := vs.toInt) (wi := 0) hPS (fun i hi => ⟨by rw [eI275, z_up_n (by decide), fI224 26 i (z_wr_c (by decide))], by rw [eI275, z_up_k (by omega), fI224 27 i (z_wr_c (by decide))], by rw [eI275, z_up_n (by decide), fI224 28 i (z_wr_c (by decide))], by rw [eI275, z_up_n (by decide), fI224 29 i (z_wr_c (by decide))]⟩) (by rw [show I275 26 a1.toNatClampNeg = vw from (by rw [eI275, z_up_n (by decide), fI224 26 a1.toNatClampNeg (z_wr_c (by decide))]; exact evw.symm)]; exact hvw) (by rw [show I275 27 a1.toNatClampNeg = 1 from (by rw [eI275, z_up_s])]; exact z_l1) (by rw [show I275 28 a1.toNatClampNeg = vo from (by rw [eI275, z_up_n (by decide), fI224 28 a1.toNatClampNeg (z_wr_c (by decide))]; exact evo.symm)]) (by rw [show I275 29 a1.toNatClampNeg = vs from (by rw [eI275, z_up_n (by decide), fI224 29 a1.toNatClampNeg (z_wr_c (by decide))]; exact evs.symm)]) (by unfold z_fv; omega) hwd (by rw [eI275, z_up_n (by decide)]; omega) h300 z_l0 (by omega) (by omega) (by omega) (by omega) (by omega) (by omega) (by omega) (by omega)⟩) Or.inl), (by have hz9 : zp_st gt gv (n0 : Int) (.inr (tq, (2, fa, fx, fs) :: FS, fo, fg, NN)) = .inl (tq) := (by first | (simp [zp_st, zp_op, zp_cm, zp_cb, (show fa = 0 by omega), (show ¬ gt tq = 400 by omega), ht220, ht237]; done) | (exfalso; omega)); rw [hz9]; exact hE301)⟩⟩
      · have z303 := z_l40
        have ht304 : ¬ gt (tq) = 40 := fun q => h217 (by have q9 := (zm_E_sg (show zp_sg 40 by unfold zp_sg; omega) hE).mpr q; exact ⟨q9.1, by omega⟩)
        refine lv_if_eq (tgt := 68) hx hb dX12_atom_46 (by decide) (fun c305 => ?_) (fun c305 => absurd (by decide) c305)
        refine lv_aload_n hx hb dX12_atom_68 rfl (lv_at hl 0 rfl) ?_
        refine lv_ldc2 (v := 6476969) hx hb hown (hts (.constantLong RX12 375 (6476969)) (me_s (me_l (me_l (List.mem_of_getElem? (i := 3) rfl))))) dX12_atom_69 ?_
        refine z_ci hW hS hA (va_runV (As := [.long 6476969]) (rest := []) ⟨hx, hb, hml, hown, hts⟩ (sx_X12_isWord_x l G ad I J ⟨(by show 0 ≤ (I 0 36).toInt ∧ (I 0 36).toInt ≤ 4; exact hmt.1), (by show 0 ≤ (I 0 42).toInt ∧ (I 0 42).toInt ≤ 1; exact hmt.2)⟩ 6476969 _) (cwV 1 hts gX12_atom_X12_isWord rfl rfl rfl (by decide +kernel) ⟨Nat.le_of_ble_eq_true rfl, Nat.le_of_ble_eq_true rfl⟩) (z_preV (i := 0) hK hW rfl rfl) rfl rfl hl.1 rfl (lv_room (Nat.le_of_ble_eq_true rfl)) dX12_atom_72 ⟨Nat.le_of_ble_eq_true rfl, Nat.le_of_ble_eq_true rfl⟩) (fun r u1 H locs hp hW hS => ?_)
        obtain ⟨e9, hp⟩ := hp
        rw [e9] at hW
        rcases hp with ⟨rfl, h306, h307⟩ | ⟨rfl, h306⟩
        · have ht308 : gt (tq) = 312 := (zm_E_wo (i := 12) (by decide) hE).mp ⟨h306, h307.trans (show (6476969 : Int64).toInt = zp_K.getD 12 0 by decide)⟩
          have h309 := h306
          have h310 : (I 0 35).toInt + 1 ≤ (I 0 34).toInt := by omega
          refine lv_if_ne (tgt := 88) hx hb dX12_atom_75 (by decide) (fun c311 => ?_) (fun c311 => absurd c311 (by decide))
          refine lv_aload_n hx hb dX12_atom_88 rfl (lv_at hl 0 rfl) ?_
          refine z_get (T := TX12) (N := 96) (ci := 12) (i := 0) (v := .ref (ad 29)) hx hb hts zj_X12_atom_X12 hown hK hW rfl rfl 46 (by decide) (hts (.fieldLink RX12 100 "PetrolBoardModel" "sort" "[I") (me_s (me_l (me_l (List.mem_of_getElem? (i := 5) rfl))))) (fun _ h => h) rfl dX12_atom_89 ?_
          refine lv_iload_n hx hb dX12_atom_92 rfl (lv_at hl 1 rfl) ?_
          refine lv_aload_n hx hb dX12_atom_93 rfl (lv_at hl 0 rfl) ?_
          refine lv_ldc2 (v := 6476969) hx hb hown (hts (.constantLong RX12 375 (6476969)) (me_s (me_l (me_l (List.mem_of_getElem? (i := 3) rfl))))) dX12_atom_94 ?_
          refine z_ci hW hS hA (va_runV (As := [.long 6476969]) (rest := [.int a1, .ref (ad 29)]) ⟨hx, hb, hml, hown, hts⟩ (sx_X12_isWord_x l G ad I J ⟨(by show 0 ≤ (I 0 36).toInt ∧ (I 0 36).toInt ≤ 4; exact hmt.1), (by show 0 ≤ (I 0 42).toInt ∧ (I 0 42).toInt ≤ 1; exact hmt.2)⟩ 6476969 _) (cwV 1 hts gX12_atom_X12_isWord rfl rfl rfl (by decide +kernel) ⟨Nat.le_of_ble_eq_true rfl, Nat.le_of_ble_eq_true rfl⟩) (z_preV (i := 0) hK hW rfl rfl) rfl rfl hl.1 rfl (lv_room (Nat.le_of_ble_eq_true rfl)) dX12_atom_97 ⟨Nat.le_of_ble_eq_true rfl, Nat.le_of_ble_eq_true rfl⟩) (fun r u1 H locs hp hW hS => ?_)
          obtain ⟨e9, hp⟩ := hp
          rw [e9] at hW
          rcases hp with ⟨rfl, h312, h313⟩ | ⟨rfl, h312⟩
          · have ht314 : gt (tq) = 312 := (zm_E_wo (i := 12) (by decide) hE).mp ⟨h312, h313.trans (show (6476969 : Int64).toInt = zp_K.getD 12 0 by decide)⟩
            have h315 := h312
            have h316 : (I 0 35).toInt + 1 ≤ (I 0 34).toInt := by omega
            refine lv_if_eq (tgt := 108) hx hb dX12_atom_100 (by decide) (fun c317 => absurd c317 (by decide)) (fun c317 => ?_)
            refine lv_bipush (v := 6) hx hb dX12_atom_103 (by decide) ?_
            refine lv_goto (tgt := 110) hx hb dX12_atom_105 (by decide) ?_
            refine z_iast (i := 29) hx hb hK hW hS rfl (z_ix rfl (by omega) (by omega)) dX12_atom_110 (fun H locs hz1 hW hS => ?_)
            obtain ⟨I318, eI318⟩ : ∃ K : z_I, K = z_up I 29 a1.toNatClampNeg 6 := ⟨_, rfl⟩
            rw [← eI318] at hW
            have f319 := z_fr_a z_fr_0 (show z_wa L_X12_atom_x 29 = true by decide) eI318
            have a320 := z_Nd_n hNd (by decide) eI318
            have z321 := z_l6
            have hE322 : zm_E gt gv gp ge gh gm n0 gI I318 J (.inr (tq, (2, fa, fx, 6) :: FS, fo, fg, NN)) := zm_E_top hE eI318 hdk (Or.inr (Or.inr ⟨rfl, by omega, rfl, rfl, rfl⟩))
            have h323 := zm_E_W hE322
            have h324 := zm_E_D hE322
            refine lv_aload_n hx hb dX12_atom_111 rfl (lv_at hl 0 rfl) ?_
            refine z_cv hW hS hA (va_runV (As := []) (rest := []) ⟨hx, hb, hml, hown, hts⟩ (sx_X12_opens_x l G ad I318 J ⟨(by show 0 ≤ (I318 0 31).toInt ∧ (I318 0 31).toInt ≤ 500; rw [eI318, z_up_n (by decide)]; exact hmp.1), (by show 0 ≤ (I318 0 33).toInt ∧ (I318 0 33).toInt ≤ 500; rw [eI318, z_up_n (by decide)]; exact hmp.2.1), (by show 0 ≤ (I318 0 34).toInt ∧ (I318 0 34).toInt ≤ 500; rw [eI318, z_up_n (by decide)]; exact hmp.2.2.1), (by show 0 ≤ (I318 0 35).toInt ∧ (I318 0 35).toInt ≤ 500; rw [eI318, z_up_n (by decide)]; exact hmp.2.2.2)⟩ ⟨(by show 0 ≤ (I318 0 36).toInt ∧ (I318 0 36).toInt ≤ 4; rw [eI318, z_up_n (by decide)]; exact hmt.1), (by show 0 ≤ (I318 0 42).toInt ∧ (I318 0 42).toInt ≤ 1; rw [eI318, z_up_n (by decide)]; exact hmt.2)⟩ (by have q0 : (I318 0 35) = (I 0 35) := (by rw [eI318, z_up_n (by decide)]); have q1 : (I318 0 34) = (I 0 34) := (by rw [eI318, z_up_n (by decide)]); have q2 : (I318 0 33) = (I 0 33) := (by rw [eI318, z_up_n (by decide)]); have q3 : (I318 0 36) = (I 0 36) := (by rw [eI318, z_up_n (by decide)]); show 0 ≤ (I318 0 35).toInt ∧ (I318 0 35).toInt ≤ (I318 0 34).toInt ∧ (I318 0 34).toInt ≤ (I318 0 33).toInt ∧ (I318 0 33).toInt ≤ 500 ∧ ((I318 0 36).toInt = 0 ∨ (I318 0 35).toInt + 1 ≤ (I318 0 34).toInt); rw [q0, q1, q2, q3]; first | omega | decide) ⟨(by show 0 ≤ (I318 0 47).toInt ∧ (I318 0 47).toInt ≤ 119; rw [eI318, z_up_n (by decide)]; exact hmd.1), (by show 0 ≤ (I318 0 39).toInt ∧ (I318 0 39).toInt ≤ 100; rw [eI318, z_up_n (by decide)]; exact hmd.2)⟩ gt gv gp ge gh gm n0 gI (tq) ((2, fa, fx, 6) :: FS) (fo) (fg) (NN) (by have q0 : (I318 0 39) = (I 0 39) := (by rw [eI318, z_up_n (by decide)]); show (I318 0 39).toInt ≤ 9; rw [q0]; omega) hE322 hSM (by omega) _) (cwV 0 hts gX12_atom_X12_opens rfl rfl rfl (by decide +kernel) ⟨Nat.le_of_ble_eq_true rfl, Nat.le_of_ble_eq_true rfl⟩) (z_preV (i := 0) hK hW rfl rfl) rfl rfl hl.1 rfl (lv_room (Nat.le_of_ble_eq_true rfl)) dX12_atom_112 ⟨Nat.le_of_ble_eq_true rfl, Nat.le_of_ble_eq_true rfl⟩) (fun u1 H locs hp hW hS => ?_)
            obtain ⟨I325, J327, e9, hI325mp, hI325mt, hI325rp, hI325md, fI325, hp⟩ := hp
            rw [e9] at hW
            have f326 := z_fr_sub (L := L_X12_atom_x) f319 fI325 (by decide)
            have k328 : 0 ≤ (I325 0 40).toInt ∧ (I325 0 40).toInt ≤ 6199 := by rw [fI325 0 40 (by decide)]; exact (by show 0 ≤ (I318 0 40).toInt ∧ (I318 0 40).toInt ≤ 6199; rw [eI318, z_up_n (by decide)]; exact hmg)
            have k329 : 0 ≤ (I325 0 15).toInt ∧ (I325 0 15).toInt ≤ 6100 := by rw [fI325 0 15 (by decide)]; exact (by show 0 ≤ (I318 0 15).toInt ∧ (I318 0 15).toInt ≤ 6100; rw [eI318, z_up_n (by decide)]; exact hmn)
            have k330 : 0 ≤ (I325 0 35).toInt ∧ (I325 0 35).toInt ≤ (I325 0 34).toInt ∧ (I325 0 34).toInt ≤ (I325 0 33).toInt ∧ (I325 0 33).toInt ≤ 500 ∧ ((I325 0 36).toInt = 0 ∨ (I325 0 35).toInt + 1 ≤ (I325 0 34).toInt) := hI325rp
            have k331 : (I325 0 47).toInt = (I 0 47).toInt := by rw [fI325 0 47 (by decide), eI318, z_up_n (by decide)]
            have k332 : (I325 0 15).toInt = (I 0 15).toInt := by rw [fI325 0 15 (by decide), eI318, z_up_n (by decide)]
            have k333 : (I325 0 40).toInt = (I 0 40).toInt := by rw [fI325 0 40 (by decide), eI318, z_up_n (by decide)]
            obtain ⟨h334, h335, h336, h337⟩ := hp
            rw [show (I318 0 39) = (I 0 39) from by rw [eI318, z_up_n (by decide)]] at h334
            rw [show (I318 0 34) = (I 0 34) from by rw [eI318, z_up_n (by decide)]] at h335
            rw [show (I318 0 39) = (I 0 39) from by rw [eI318, z_up_n (by decide)]] at h336
            rcases h337 with ⟨ht338, he339⟩ | ⟨ht338, he339⟩
            · have hE340 : zm_E gt gv gp ge gh gm n0 gI I325 J327 (.inr (tq + 1, (2, fa, fx, 6) :: FS, fo + 1, fg, NN)) := he339
              have h341 := zm_E_W hE340
              have h342 := zm_E_D hE340
              refine lv_aload_n hx hb dX12_atom_115 rfl (lv_at hl 0 rfl) ?_
              have r343 : 0 ≤ (I325 0 42).toInt ∧ (I325 0 42).toInt ≤ 1 := hI325mt.2
              refine z_get (T := TX12) (N := 96) (ci := 12) (i := 0) (v := .int (I325 0 42)) hx hb hts zj_X12_atom_X12 hown hK hW rfl rfl 42 (by decide) (hts (.fieldLink RX12 294 "PetrolBoardModel" "isWrong" "Z") (me_s (me_l (me_l (List.mem_of_getElem? (i := 6) rfl))))) (fun _ h => h) rfl dX12_atom_116 ?_
              refine lv_if_ne (tgt := 128) hx hb dX12_atom_119 (by decide) (fun c344 => (by have g := z_f_ne rfl z_l0 c344; omega)) (fun c344 => ?_)
              have g345 := z_f_eq rfl z_l0 c344
              refine lv_aload_n hx hb dX12_atom_122 rfl (lv_at hl 0 rfl) ?_
              refine lv_bipush (v := 40) hx hb dX12_atom_123 (by decide) ?_
              refine z_cv hW hS hA (va_runV (As := [.int 40]) (rest := []) ⟨hx, hb, hml, hown, hts⟩ (sx_X12_must_x l G ad I325 J327 ⟨(by show 0 ≤ (I325 0 31).toInt ∧ (I325 0 31).toInt ≤ 500; exact hI325mp.1), (by show 0 ≤ (I325 0 33).toInt ∧ (I325 0 33).toInt ≤ 500; exact hI325mp.2.1), (by show 0 ≤ (I325 0 34).toInt ∧ (I325 0 34).toInt ≤ 500; exact hI325mp.2.2.1), (by show 0 ≤ (I325 0 35).toInt ∧ (I325 0 35).toInt ≤ 500; exact hI325mp.2.2.2)⟩ ⟨(by show 0 ≤ (I325 0 36).toInt ∧ (I325 0 36).toInt ≤ 4; exact hI325mt.1), (by show 0 ≤ (I325 0 42).toInt ∧ (I325 0 42).toInt ≤ 1; exact hI325mt.2)⟩ (by show 0 ≤ (I325 0 35).toInt ∧ (I325 0 35).toInt ≤ (I325 0 34).toInt ∧ (I325 0 34).toInt ≤ (I325 0 33).toInt ∧ (I325 0 33).toInt ≤ 500 ∧ ((I325 0 36).toInt = 0 ∨ (I325 0 35).toInt + 1 ≤ (I325 0 34).toInt); first | omega | decide) gt gv gp ge gh gm n0 gI (tq + 1) ((2, fa, fx, 6) :: FS) (fo + 1) (fg) (NN) 40 hE340 hSM (show zp_sg (40 : Int32).toInt by have := z_l40; unfold zp_sg; omega) _) (cwV 1 hts gX12_atom_X12_must rfl rfl rfl (by decide +kernel) ⟨Nat.le_of_ble_eq_true rfl, Nat.le_of_ble_eq_true rfl⟩) (z_preV (i := 0) hK hW rfl rfl) rfl rfl hl.1 rfl (lv_room (Nat.le_of_ble_eq_true rfl)) dX12_atom_125 ⟨Nat.le_of_ble_eq_true rfl, Nat.le_of_ble_eq_true rfl⟩) (fun u1 H locs hp hW hS => ?_)
              obtain ⟨I346, J348, e9, hI346mp, hI346mt, hI346rp, fI346, hp⟩ := hp
              rw [e9] at hW
              have f347 := z_fr_sub (L := L_X12_atom_x) f326 fI346 (by decide)
              have k349 : 0 ≤ (I346 0 47).toInt ∧ (I346 0 47).toInt ≤ 119 := by rw [fI346 0 47 (by decide)]; exact (by show 0 ≤ (I325 0 47).toInt ∧ (I325 0 47).toInt ≤ 119; exact hI325md.1)
              have k350 : 0 ≤ (I346 0 39).toInt ∧ (I346 0 39).toInt ≤ 100 := by rw [fI346 0 39 (by decide)]; exact (by show 0 ≤ (I325 0 39).toInt ∧ (I325 0 39).toInt ≤ 100; exact hI325md.2)
              have k351 : 0 ≤ (I346 0 40).toInt ∧ (I346 0 40).toInt ≤ 6199 := by rw [fI346 0 40 (by decide)]; exact (by show 0 ≤ (I325 0 40).toInt ∧ (I325 0 40).toInt ≤ 6199; exact k328)
              have k352 : 0 ≤ (I346 0 15).toInt ∧ (I346 0 15).toInt ≤ 6100 := by rw [fI346 0 15 (by decide)]; exact (by show 0 ≤ (I325 0 15).toInt ∧ (I325 0 15).toInt ≤ 6100; exact k329)
              have k353 : 0 ≤ (I346 0 35).toInt ∧ (I346 0 35).toInt ≤ (I346 0 34).toInt ∧ (I346 0 34).toInt ≤ (I346 0 33).toInt ∧ (I346 0 33).toInt ≤ 500 ∧ ((I346 0 36).toInt = 0 ∨ (I346 0 35).toInt + 1 ≤ (I346 0 34).toInt) := hI346rp
              have k354 : (I346 0 47).toInt = (I325 0 47).toInt := by rw [fI346 0 47 (by decide)]
              have k355 : (I346 0 39).toInt = (I325 0 39).toInt := by rw [fI346 0 39 (by decide)]
              have k356 : (I346 0 15).toInt = (I325 0 15).toInt := by rw [fI346 0 15 (by decide)]
              have k357 : (I346 0 40).toInt = (I325 0 40).toInt := by rw [fI346 0 40 (by decide)]
              obtain ⟨h359, h358⟩ := hp
              have h360 := h359
              rcases h358 with ⟨ht361, he362⟩ | ⟨ht361, he362⟩
              · have z363 := z_l40
                have ht364 : gt (tq + 1) = 40 := by omega
                have hE365 : zm_E gt gv gp ge gh gm n0 gI I346 J348 (.inr (tq + 2, (2, fa, fx, 6) :: FS, fo + 1, fg, NN)) := he362
                have h366 := zm_E_W hE365
                have h367 := zm_E_D hE365
                refine lv_aload_n hx hb dX12_atom_128 rfl (lv_at hl 0 rfl) ?_
                refine z_get (T := TX12) (N := 96) (ci := 12) (i := 0) (v := .ref (ad 27)) hx hb hts zj_X12_atom_X12 hown hK hW rfl rfl 44 (by decide) (hts (.fieldLink RX12 94 "PetrolBoardModel" "at" "[I") (me_s (me_l (me_l (List.mem_of_getElem? (i := 0) rfl))))) (fun _ h => h) rfl dX12_atom_129 ?_
                refine lv_iload_n hx hb dX12_atom_132 rfl (lv_at hl 1 rfl) ?_
                refine lv_iconst (v := 2) hx hb dX12_atom_133 (by decide) ?_
                refine z_iast (i := 27) hx hb hK hW hS rfl (z_ix rfl (by omega) (by omega)) dX12_atom_134 (fun H locs hz1 hW hS => ?_)
                obtain ⟨I368, eI368⟩ : ∃ K : z_I, K = z_up I346 27 a1.toNatClampNeg 2 := ⟨_, rfl⟩
                rw [← eI368] at hW
                have f369 := z_fr_a f347 (show z_wa L_X12_atom_x 27 = true by decide) eI368
                have a370 := z_Nd_n (z_Nd_fr (z_Nd_fr a320 fI325 (by decide)) fI346 (by decide)) (by decide) eI368
                have z371 := z_l2
                have hE372 : zm_E gt gv gp ge gh gm n0 gI I368 J348 (.inr (tq + 2, (2, 2, fx, 6) :: FS, fo + 1, fg, NN)) := zm_E_top hE365 eI368 hdk (Or.inl ⟨rfl, by omega, rfl, rfl, rfl⟩)
                have h373 := zm_E_W hE372
                have h374 := zm_E_D hE372
                refine lv_aload_n hx hb dX12_atom_135 rfl (lv_at hl 0 rfl) ?_
                have r375 : 0 ≤ (I346 0 42).toInt ∧ (I346 0 42).toInt ≤ 1 := hI346mt.2
                refine z_get (T := TX12) (N := 96) (ci := 12) (i := 0) (v := .int (I346 0 42)) hx hb hts zj_X12_atom_X12 hown hK hW rfl rfl 42 (by decide) (hts (.fieldLink RX12 294 "PetrolBoardModel" "isWrong" "Z") (me_s (me_l (me_l (List.mem_of_getElem? (i := 6) rfl))))) (fun _ h => h) (congrArg Value.int (by rw [eI368, z_up_n (by decide)])) dX12_atom_136 ?_
                refine lv_if_ne (tgt := 311) hx hb dX12_atom_139 (by decide) (fun c376 => (by have g := z_f_ne rfl z_l0 c376; omega)) (fun c376 => ?_)
                have g377 := z_f_eq rfl z_l0 c376
                refine lv_aload_n hx hb dX12_atom_142 rfl (lv_at hl 0 rfl) ?_
                refine lv_iconst (v := 0) hx hb dX12_atom_143 (by decide) ?_
                refine z_cv hW hS hA (va_runV (As := [.int 0]) (rest := []) ⟨hx, hb, hml, hown, hts⟩ (sx_X12_begin_x l G ad I368 J348 ⟨(by show 0 ≤ (I368 0 47).toInt ∧ (I368 0 47).toInt ≤ 119; rw [eI368, z_up_n (by decide)]; exact k349), (by show 0 ≤ (I368 0 39).toInt ∧ (I368 0 39).toInt ≤ 100; rw [eI368, z_up_n (by decide)]; exact k350)⟩ 0 (by have q0 : (I368 0 47) = (I346 0 47) := (by rw [eI368, z_up_n (by decide)]); show (I368 0 47).toInt ≤ 118; rw [q0]; omega) _) (cwV 1 hts gX12_atom_X12_begin rfl rfl rfl (by decide +kernel) ⟨Nat.le_of_ble_eq_true rfl, Nat.le_of_ble_eq_true rfl⟩) (z_preV (i := 0) hK hW rfl rfl) rfl rfl hl.1 rfl (lv_room (Nat.le_of_ble_eq_true rfl)) dX12_atom_144 ⟨Nat.le_of_ble_eq_true rfl, Nat.le_of_ble_eq_true rfl⟩) (fun u1 H locs hp hW hS => ?_)
                obtain ⟨I378, J380, e9, hI378md, fI378, hp⟩ := hp
                rw [e9] at hW
                have f379 := z_fr_sub (L := L_X12_atom_x) f369 fI378 (by decide)
                have k381 : 0 ≤ (I378 0 31).toInt ∧ (I378 0 31).toInt ≤ 500 := by rw [fI378 0 31 (by decide)]; exact (by show 0 ≤ (I368 0 31).toInt ∧ (I368 0 31).toInt ≤ 500; rw [eI368, z_up_n (by decide)]; exact hI346mp.1)
                have k382 : 0 ≤ (I378 0 33).toInt ∧ (I378 0 33).toInt ≤ 500 := by rw [fI378 0 33 (by decide)]; exact (by show 0 ≤ (I368 0 33).toInt ∧ (I368 0 33).toInt ≤ 500; rw [eI368, z_up_n (by decide)]; exact hI346mp.2.1)
                have k383 : 0 ≤ (I378 0 34).toInt ∧ (I378 0 34).toInt ≤ 500 := by rw [fI378 0 34 (by decide)]; exact (by show 0 ≤ (I368 0 34).toInt ∧ (I368 0 34).toInt ≤ 500; rw [eI368, z_up_n (by decide)]; exact hI346mp.2.2.1)
                have k384 : 0 ≤ (I378 0 35).toInt ∧ (I378 0 35).toInt ≤ 500 := by rw [fI378 0 35 (by decide)]; exact (by show 0 ≤ (I368 0 35).toInt ∧ (I368 0 35).toInt ≤ 500; rw [eI368, z_up_n (by decide)]; exact hI346mp.2.2.2)
                have k385 : 0 ≤ (I378 0 36).toInt ∧ (I378 0 36).toInt ≤ 4 := by rw [fI378 0 36 (by decide)]; exact (by show 0 ≤ (I368 0 36).toInt ∧ (I368 0 36).toInt ≤ 4; rw [eI368, z_up_n (by decide)]; exact hI346mt.1)
                have k386 : 0 ≤ (I378 0 42).toInt ∧ (I378 0 42).toInt ≤ 1 := by rw [fI378 0 42 (by decide)]; exact (by show 0 ≤ (I368 0 42).toInt ∧ (I368 0 42).toInt ≤ 1; rw [eI368, z_up_n (by decide)]; exact hI346mt.2)
                have k387 : 0 ≤ (I378 0 40).toInt ∧ (I378 0 40).toInt ≤ 6199 := by rw [fI378 0 40 (by decide)]; exact (by show 0 ≤ (I368 0 40).toInt ∧ (I368 0 40).toInt ≤ 6199; rw [eI368, z_up_n (by decide)]; exact k351)
                have k388 : 0 ≤ (I378 0 15).toInt ∧ (I378 0 15).toInt ≤ 6100 := by rw [fI378 0 15 (by decide)]; exact (by show 0 ≤ (I368 0 15).toInt ∧ (I368 0 15).toInt ≤ 6100; rw [eI368, z_up_n (by decide)]; exact k352)
                have k389 : 0 ≤ (I378 0 35).toInt ∧ (I378 0 35).toInt ≤ (I378 0 34).toInt ∧ (I378 0 34).toInt ≤ (I378 0 33).toInt ∧ (I378 0 33).toInt ≤ 500 ∧ ((I378 0 36).toInt = 0 ∨ (I378 0 35).toInt + 1 ≤ (I378 0 34).toInt) := (by have q0 : (I378 0 35) = (I346 0 35) := (by rw [fI378 0 35 (by decide), eI368, z_up_n (by decide)]); have q1 : (I378 0 34) = (I346 0 34) := (by rw [fI378 0 34 (by decide), eI368, z_up_n (by decide)]); have q2 : (I378 0 33) = (I346 0 33) := (by rw [fI378 0 33 (by decide), eI368, z_up_n (by decide)]); have q3 : (I378 0 36) = (I346 0 36) := (by rw [fI378 0 36 (by decide), eI368, z_up_n (by decide)]); show 0 ≤ (I378 0 35).toInt ∧ (I378 0 35).toInt ≤ (I378 0 34).toInt ∧ (I378 0 34).toInt ≤ (I378 0 33).toInt ∧ (I378 0 33).toInt ≤ 500 ∧ ((I378 0 36).toInt = 0 ∨ (I378 0 35).toInt + 1 ≤ (I378 0 34).toInt); rw [q0, q1, q2, q3]; first | omega | decide)
                have k390 : (I378 0 35).toInt = (I346 0 35).toInt := by rw [fI378 0 35 (by decide), eI368, z_up_n (by decide)]
                have k391 : (I378 0 34).toInt = (I346 0 34).toInt := by rw [fI378 0 34 (by decide), eI368, z_up_n (by decide)]
                have k392 : (I378 0 36).toInt = (I346 0 36).toInt := by rw [fI378 0 36 (by decide), eI368, z_up_n (by decide)]
                have k393 : (I378 0 42).toInt = (I346 0 42).toInt := by rw [fI378 0 42 (by decide), eI368, z_up_n (by decide)]
                have k394 : (I378 0 39).toInt = (I346 0 39).toInt := by rw [fI378 0 39 (by decide), eI368, z_up_n (by decide)]
                have k395 : (I378 0 15).toInt = (I346 0 15).toInt := by rw [fI378 0 15 (by decide), eI368, z_up_n (by decide)]
                have k396 : (I378 0 40).toInt = (I346 0 40).toInt := by rw [fI378 0 40 (by decide), eI368, z_up_n (by decide)]
                obtain ⟨hp, hJ397⟩ := hp
                have h398 := hp
                have hE399 : zm_E gt gv gp ge gh gm n0 gI I378 J380 (.inr (tq + 2, (0, 0, -1, 0) :: (2, 2, fx, 6) :: FS, fo + 1, fg, NN)) := zm_E_begin hE372 h398 z_l0 fI378 (by decide) hJ397
                have h400 := zm_E_W hE399
                have h401 := zm_E_D hE399
                refine lv_goto (tgt := 311) hx hb dX12_atom_147 (by decide) ?_
                exact z_vret hx hb hr hK hS (Nat.le_of_ble_eq_true rfl) (Nat.le_of_ble_eq_true rfl) hlocks dX12_atom_311 (shM, ad, I378, J380, PM ad) hW ⟨I378, J380, rfl, ⟨(by show 0 ≤ (I378 0 31).toInt ∧ (I378 0 31).toInt ≤ 500; exact k381), (by show 0 ≤ (I378 0 33).toInt ∧ (I378 0 33).toInt ≤ 500; exact k382), (by show 0 ≤ (I378 0 34).toInt ∧ (I378 0 34).toInt ≤ 500; exact k383), (by show 0 ≤ (I378 0 35).toInt ∧ (I378 0 35).toInt ≤ 500; exact k384)⟩, ⟨(by show 0 ≤ (I378 0 36).toInt ∧ (I378 0 36).toInt ≤ 4; exact k385), (by show 0 ≤ (I378 0 42).toInt ∧ (I378 0 42).toInt ≤ 1; exact k386)⟩, ⟨(by show 0 ≤ (I378 0 47).toInt ∧ (I378 0 47).toInt ≤ 119; exact hI378md.1), (by show 0 ≤ (I378 0 39).toInt ∧ (I378 0 39).toInt ≤ 100; exact hI378md.2)⟩, (by show 0 ≤ (I378 0 40).toInt ∧ (I378 0 40).toInt ≤ 6199; exact k387), (by show 0 ≤ (I378 0 15).toInt ∧ (I378 0 15).toInt ≤ 6100; exact k388), (z_Nd_fr a370 fI378 (by decide)), (by show 0 ≤ (I378 0 35).toInt ∧ (I378 0 35).toInt ≤ (I378 0 34).toInt ∧ (I378 0 34).toInt ≤ (I378 0 33).toInt ∧ (I378 0 33).toInt ≤ 500 ∧ ((I378 0 36).toInt = 0 ∨ (I378 0 35).toInt + 1 ≤ (I378 0 34).toInt); first | omega | decide), f379, ⟨((Classical.em ((I378 0 42).toInt = 0)).elim (fun hw9 => Or.inr ⟨a1.toNatClampNeg + 2, by have w1 := z_fw_20 (a := va.toInt) (o := vo.toInt) (by omega); have w2 := z_fo_2n (a := va.toInt) (by omega); have w3 := z_fw_2n (a := 2) (o := vo.toInt) (by omega); have w4 := z_fo_2y (a := 2) (by omega); have w5 := z_fw_00 (a := 0) (o := -1) (by omega); have w6 := z_rk_2; have w7 := z_rk_0; exact z_PUSH (d := a1.toNatClampNeg) (w := 2) (a := 2) (o := vo.toInt) (s := 6) (wi := 0) hPS (fun i hi => ⟨by rw [eI368, z_up_n (by decide), fI346 26 i (z_wr_c (by decide)), fI325 26 i (z_wr_c (by decide)), eI318, z_up_n (by decide)], by rw [eI368, z_up_k (by omega), fI346 27 i (z_wr_c (by decide)), fI325 27 i (z_wr_c (by decide)), eI318, z_up_n (by decide)], by rw [eI368, z_up_n (by decide), fI346 28 i (z_wr_c (by decide)), fI325 28 i (z_wr_c (by decide)), eI318, z_up_n (by decide)], by rw [eI368, z_up_n (by decide), fI346 29 i (z_wr_c (by decide)), fI325 29 i (z_wr_c (by decide)), eI318, z_up_k (by omega)]⟩) (by rw [show I368 26 a1.toNatClampNeg = vw from (by rw [eI368, z_up_n (by decide), fI346 26 a1.toNatClampNeg (z_wr_c (by decide)), fI325 26 a1.toNatClampNeg (z_wr_c (by decide)), eI318, z_up_n (by decide)]; exact evw.symm)]; exact hvw) (by rw [show I368 27 a1.toNatClampNeg = 2 from (by rw [eI368, z_up_s])]; exact z_l2) (by rw [show I368 28 a1.toNatClampNeg = vo from (by rw [eI368, z_up_n (by decide), fI346 28 a1.toNatClampNeg (z_wr_c (by decide)), fI325 28 a1.toNatClampNeg (z_wr_c (by decide)), eI318, z_up_n (by decide)]; exact evo.symm)]) (by rw [show I368 29 a1.toNatClampNeg = 6 from (by rw [eI368, z_up_n (by decide), fI346 29 a1.toNatClampNeg (z_wr_c (by decide)), fI325 29 a1.toNatClampNeg (z_wr_c (by decide)), eI318, z_up_s])]; exact z_l6) (by unfold z_fv; omega) hwd (by rw [eI368, z_up_n (by decide)]; omega) h398 z_l0 (by omega) (by omega) (by omega) (by omega) (by omega) (by omega) (by omega) (by omega)⟩) Or.inl), (by have hz9 : zp_st gt gv (n0 : Int) (.inr (tq, (2, fa, fx, fs) :: FS, fo, fg, NN)) = .inr (tq + 2, (0, 0, -1, 0) :: (2, 2, fx, 6) :: FS, fo + 1, fg, NN) := (by first | (simp [zp_st, zp_op, zp_cm, zp_cb, (show fa = 0 by omega), (show ¬ gt tq = 400 by omega), ht304, ht308, ht314, ht338, ht364]; done) | (exfalso; omega)); rw [hz9]; exact hE399)⟩⟩
              · have z402 := z_l40
                have ht403 : ¬ gt (tq + 1) = 40 := by omega
                have hE404 : zm_E gt gv gp ge gh gm n0 gI I346 J348 (.inl (tq + 1)) := he362
                have h405 := zm_E_L hE404
                refine lv_aload_n hx hb dX12_atom_128 rfl (lv_at hl 0 rfl) ?_
                refine z_get (T := TX12) (N := 96) (ci := 12) (i := 0) (v := .ref (ad 27)) hx hb hts zj_X12_atom_X12 hown hK hW rfl rfl 44 (by decide) (hts (.fieldLink RX12 94 "PetrolBoardModel" "at" "[I") (me_s (me_l (me_l (List.mem_of_getElem? (i := 0) rfl))))) (fun _ h => h) rfl dX12_atom_129 ?_
                refine lv_iload_n hx hb dX12_atom_132 rfl (lv_at hl 1 rfl) ?_
                refine lv_iconst (v := 2) hx hb dX12_atom_133 (by decide) ?_
                refine z_iast (i := 27) hx hb hK hW hS rfl (z_ix rfl (by omega) (by omega)) dX12_atom_134 (fun H locs hz1 hW hS => ?_)
                obtain ⟨I406, eI406⟩ : ∃ K : z_I, K = z_up I346 27 a1.toNatClampNeg 2 := ⟨_, rfl⟩
                rw [← eI406] at hW
                have f407 := z_fr_a f347 (show z_wa L_X12_atom_x 27 = true by decide) eI406
                have a408 := z_Nd_n (z_Nd_fr (z_Nd_fr a320 fI325 (by decide)) fI346 (by decide)) (by decide) eI406
                have hE409 : zm_E gt gv gp ge gh gm n0 gI I406 J348 (.inl (tq + 1)) := zm_E_w hE404 eI406 (by decide)
                have h410 := zm_E_L hE409
                refine lv_aload_n hx hb dX12_atom_135 rfl (lv_at hl 0 rfl) ?_
                have r411 : 0 ≤ (I346 0 42).toInt ∧ (I346 0 42).toInt ≤ 1 := hI346mt.2
                refine z_get (T := TX12) (N := 96) (ci := 12) (i := 0) (v := .int (I346 0 42)) hx hb hts zj_X12_atom_X12 hown hK hW rfl rfl 42 (by decide) (hts (.fieldLink RX12 294 "PetrolBoardModel" "isWrong" "Z") (me_s (me_l (me_l (List.mem_of_getElem? (i := 6) rfl))))) (fun _ h => h) (congrArg Value.int (by rw [eI406, z_up_n (by decide)])) dX12_atom_136 ?_
                refine lv_if_ne (tgt := 311) hx hb dX12_atom_139 (by decide) (fun c412 => ?_) (fun c412 => (by have g := z_f_eq rfl z_l0 c412; omega))
                have g413 := z_f_ne rfl z_l0 c412
                exact z_vret hx hb hr hK hS (Nat.le_of_ble_eq_true rfl) (Nat.le_of_ble_eq_true rfl) hlocks dX12_atom_311 (shM, ad, I406, J348, PM ad) hW ⟨I406, J348, rfl, ⟨(by show 0 ≤ (I406 0 31).toInt ∧ (I406 0 31).toInt ≤ 500; rw [eI406, z_up_n (by decide)]; exact hI346mp.1), (by show 0 ≤ (I406 0 33).toInt ∧ (I406 0 33).toInt ≤ 500; rw [eI406, z_up_n (by decide)]; exact hI346mp.2.1), (by show 0 ≤ (I406 0 34).toInt ∧ (I406 0 34).toInt ≤ 500; rw [eI406, z_up_n (by decide)]; exact hI346mp.2.2.1), (by show 0 ≤ (I406 0 35).toInt ∧ (I406 0 35).toInt ≤ 500; rw [eI406, z_up_n (by decide)]; exact hI346mp.2.2.2)⟩, ⟨(by show 0 ≤ (I406 0 36).toInt ∧ (I406 0 36).toInt ≤ 4; rw [eI406, z_up_n (by decide)]; exact hI346mt.1), (by show 0 ≤ (I406 0 42).toInt ∧ (I406 0 42).toInt ≤ 1; rw [eI406, z_up_n (by decide)]; exact hI346mt.2)⟩, ⟨(by show 0 ≤ (I406 0 47).toInt ∧ (I406 0 47).toInt ≤ 119; rw [eI406, z_up_n (by decide)]; exact k349), (by show 0 ≤ (I406 0 39).toInt ∧ (I406 0 39).toInt ≤ 100; rw [eI406, z_up_n (by decide)]; exact k350)⟩, (by show 0 ≤ (I406 0 40).toInt ∧ (I406 0 40).toInt ≤ 6199; rw [eI406, z_up_n (by decide)]; exact k351), (by show 0 ≤ (I406 0 15).toInt ∧ (I406 0 15).toInt ≤ 6100; rw [eI406, z_up_n (by decide)]; exact k352), a408, (by have q0 : (I406 0 35) = (I346 0 35) := (by rw [eI406, z_up_n (by decide)]); have q1 : (I406 0 34) = (I346 0 34) := (by rw [eI406, z_up_n (by decide)]); have q2 : (I406 0 33) = (I346 0 33) := (by rw [eI406, z_up_n (by decide)]); have q3 : (I406 0 36) = (I346 0 36) := (by rw [eI406, z_up_n (by decide)]); show 0 ≤ (I406 0 35).toInt ∧ (I406 0 35).toInt ≤ (I406 0 34).toInt ∧ (I406 0 34).toInt ≤ (I406 0 33).toInt ∧ (I406 0 33).toInt ≤ 500 ∧ ((I406 0 36).toInt = 0 ∨ (I406 0 35).toInt + 1 ≤ (I406 0 34).toInt); rw [q0, q1, q2, q3]; first | omega | decide), f407, ⟨(Or.inl (by have q0 : (I406 0 42) = (I346 0 42) := (by rw [eI406, z_up_n (by decide)]); show ¬ (I406 0 42).toInt = 0; rw [q0]; omega)), (by have hz9 : zp_st gt gv (n0 : Int) (.inr (tq, (2, fa, fx, fs) :: FS, fo, fg, NN)) = .inl (tq + 1) := (by first | (simp [zp_st, zp_op, zp_cm, zp_cb, (show fa = 0 by omega), (show ¬ gt tq = 400 by omega), ht304, ht308, ht314, ht338, ht403]; done) | (exfalso; omega)); rw [hz9]; exact hE409)⟩⟩
            · have hE414 : zm_E gt gv gp ge gh gm n0 gI I325 J327 (.inl (tq)) := he339
              have h415 := zm_E_L hE414
              refine lv_aload_n hx hb dX12_atom_115 rfl (lv_at hl 0 rfl) ?_
              have r416 : 0 ≤ (I325 0 42).toInt ∧ (I325 0 42).toInt ≤ 1 := hI325mt.2
              refine z_get (T := TX12) (N := 96) (ci := 12) (i := 0) (v := .int (I325 0 42)) hx hb hts zj_X12_atom_X12 hown hK hW rfl rfl 42 (by decide) (hts (.fieldLink RX12 294 "PetrolBoardModel" "isWrong" "Z") (me_s (me_l (me_l (List.mem_of_getElem? (i := 6) rfl))))) (fun _ h => h) rfl dX12_atom_116 ?_
              refine lv_if_ne (tgt := 128) hx hb dX12_atom_119 (by decide) (fun c417 => ?_) (fun c417 => (by have g := z_f_eq rfl z_l0 c417; omega))
              have g418 := z_f_ne rfl z_l0 c417
              refine lv_aload_n hx hb dX12_atom_128 rfl (lv_at hl 0 rfl) ?_
              refine z_get (T := TX12) (N := 96) (ci := 12) (i := 0) (v := .ref (ad 27)) hx hb hts zj_X12_atom_X12 hown hK hW rfl rfl 44 (by decide) (hts (.fieldLink RX12 94 "PetrolBoardModel" "at" "[I") (me_s (me_l (me_l (List.mem_of_getElem? (i := 0) rfl))))) (fun _ h => h) rfl dX12_atom_129 ?_
              refine lv_iload_n hx hb dX12_atom_132 rfl (lv_at hl 1 rfl) ?_
              refine lv_iconst (v := 2) hx hb dX12_atom_133 (by decide) ?_
              refine z_iast (i := 27) hx hb hK hW hS rfl (z_ix rfl (by omega) (by omega)) dX12_atom_134 (fun H locs hz1 hW hS => ?_)
              obtain ⟨I419, eI419⟩ : ∃ K : z_I, K = z_up I325 27 a1.toNatClampNeg 2 := ⟨_, rfl⟩
              rw [← eI419] at hW
              have f420 := z_fr_a f326 (show z_wa L_X12_atom_x 27 = true by decide) eI419
              have a421 := z_Nd_n (z_Nd_fr a320 fI325 (by decide)) (by decide) eI419
              have hE422 : zm_E gt gv gp ge gh gm n0 gI I419 J327 (.inl (tq)) := zm_E_w hE414 eI419 (by decide)
              have h423 := zm_E_L hE422
              refine lv_aload_n hx hb dX12_atom_135 rfl (lv_at hl 0 rfl) ?_
              refine z_get (T := TX12) (N := 96) (ci := 12) (i := 0) (v := .int (I325 0 42)) hx hb hts zj_X12_atom_X12 hown hK hW rfl rfl 42 (by decide) (hts (.fieldLink RX12 294 "PetrolBoardModel" "isWrong" "Z") (me_s (me_l (me_l (List.mem_of_getElem? (i := 6) rfl))))) (fun _ h => h) (congrArg Value.int (by rw [eI419, z_up_n (by decide)])) dX12_atom_136 ?_
              refine lv_if_ne (tgt := 311) hx hb dX12_atom_139 (by decide) (fun c424 => ?_) (fun c424 => (by have g := z_f_eq rfl z_l0 c424; omega))
              have g425 := z_f_ne rfl z_l0 c424
              exact z_vret hx hb hr hK hS (Nat.le_of_ble_eq_true rfl) (Nat.le_of_ble_eq_true rfl) hlocks dX12_atom_311 (shM, ad, I419, J327, PM ad) hW ⟨I419, J327, rfl, ⟨(by show 0 ≤ (I419 0 31).toInt ∧ (I419 0 31).toInt ≤ 500; rw [eI419, z_up_n (by decide)]; exact hI325mp.1), (by show 0 ≤ (I419 0 33).toInt ∧ (I419 0 33).toInt ≤ 500; rw [eI419, z_up_n (by decide)]; exact hI325mp.2.1), (by show 0 ≤ (I419 0 34).toInt ∧ (I419 0 34).toInt ≤ 500; rw [eI419, z_up_n (by decide)]; exact hI325mp.2.2.1), (by show 0 ≤ (I419 0 35).toInt ∧ (I419 0 35).toInt ≤ 500; rw [eI419, z_up_n (by decide)]; exact hI325mp.2.2.2)⟩, ⟨(by show 0 ≤ (I419 0 36).toInt ∧ (I419 0 36).toInt ≤ 4; rw [eI419, z_up_n (by decide)]; exact hI325mt.1), (by show 0 ≤ (I419 0 42).toInt ∧ (I419 0 42).toInt ≤ 1; rw [eI419, z_up_n (by decide)]; exact hI325mt.2)⟩, ⟨(by show 0 ≤ (I419 0 47).toInt ∧ (I419 0 47).toInt ≤ 119; rw [eI419, z_up_n (by decide)]; exact hI325md.1), (by show 0 ≤ (I419 0 39).toInt ∧ (I419 0 39).toInt ≤ 100; rw [eI419, z_up_n (by decide)]; exact hI325md.2)⟩, (by show 0 ≤ (I419 0 40).toInt ∧ (I419 0 40).toInt ≤ 6199; rw [eI419, z_up_n (by decide)]; exact k328), (by show 0 ≤ (I419 0 15).toInt ∧ (I419 0 15).toInt ≤ 6100; rw [eI419, z_up_n (by decide)]; exact k329), a421, (by have q0 : (I419 0 35) = (I325 0 35) := (by rw [eI419, z_up_n (by decide)]); have q1 : (I419 0 34) = (I325 0 34) := (by rw [eI419, z_up_n (by decide)]); have q2 : (I419 0 33) = (I325 0 33) := (by rw [eI419, z_up_n (by decide)]); have q3 : (I419 0 36) = (I325 0 36) := (by rw [eI419, z_up_n (by decide)]); show 0 ≤ (I419 0 35).toInt ∧ (I419 0 35).toInt ≤ (I419 0 34).toInt ∧ (I419 0 34).toInt ≤ (I419 0 33).toInt ∧ (I419 0 33).toInt ≤ 500 ∧ ((I419 0 36).toInt = 0 ∨ (I419 0 35).toInt + 1 ≤ (I419 0 34).toInt); rw [q0, q1, q2, q3]; first | omega | decide), f420, ⟨(Or.inl (by have q0 : (I419 0 42) = (I325 0 42) := (by rw [eI419, z_up_n (by decide)]); show ¬ (I419 0 42).toInt = 0; rw [q0]; omega)), (by have hz9 : zp_st gt gv (n0 : Int) (.inr (tq, (2, fa, fx, fs) :: FS, fo, fg, NN)) = .inl (tq) := (by first | (simp [zp_st, zp_op, zp_cm, zp_cb, (show fa = 0 by omega), (show ¬ gt tq = 400 by omega), ht304, ht308, ht314, ht338]; done) | (exfalso; omega)); rw [hz9]; exact hE422)⟩⟩
          · have ht426 : ¬ gt (tq) = 312 := fun q => h312 (by have q9 := (zm_E_wo (i := 12) (by decide) hE).mpr q; exact ⟨q9.1, q9.2.trans (show (6476969 : Int64).toInt = zp_K.getD 12 0 by decide).symm⟩)
            refine lv_if_eq (tgt := 108) hx hb dX12_atom_100 (by decide) (fun c427 => ?_) (fun c427 => absurd (by decide) c427)
            refine lv_bipush (v := 7) hx hb dX12_atom_108 (by decide) ?_
            refine z_iast (i := 29) hx hb hK hW hS rfl (z_ix rfl (by omega) (by omega)) dX12_atom_110 (fun H locs hz1 hW hS => ?_)
            obtain ⟨I428, eI428⟩ : ∃ K : z_I, K = z_up I 29 a1.toNatClampNeg 7 := ⟨_, rfl⟩
            rw [← eI428] at hW
            have f429 := z_fr_a z_fr_0 (show z_wa L_X12_atom_x 29 = true by decide) eI428
            have a430 := z_Nd_n hNd (by decide) eI428
            have z431 := z_l7
            have hE432 : zm_E gt gv gp ge gh gm n0 gI I428 J (.inr (tq, (2, fa, fx, 7) :: FS, fo, fg, NN)) := zm_E_top hE eI428 hdk (Or.inr (Or.inr ⟨rfl, by omega, rfl, rfl, rfl⟩))
            have h433 := zm_E_W hE432
            have h434 := zm_E_D hE432
            refine lv_aload_n hx hb dX12_atom_111 rfl (lv_at hl 0 rfl) ?_
            refine z_cv hW hS hA (va_runV (As := []) (rest := []) ⟨hx, hb, hml, hown, hts⟩ (sx_X12_opens_x l G ad I428 J ⟨(by show 0 ≤ (I428 0 31).toInt ∧ (I428 0 31).toInt ≤ 500; rw [eI428, z_up_n (by decide)]; exact hmp.1), (by show 0 ≤ (I428 0 33).toInt ∧ (I428 0 33).toInt ≤ 500; rw [eI428, z_up_n (by decide)]; exact hmp.2.1), (by show 0 ≤ (I428 0 34).toInt ∧ (I428 0 34).toInt ≤ 500; rw [eI428, z_up_n (by decide)]; exact hmp.2.2.1), (by show 0 ≤ (I428 0 35).toInt ∧ (I428 0 35).toInt ≤ 500; rw [eI428, z_up_n (by decide)]; exact hmp.2.2.2)⟩ ⟨(by show 0 ≤ (I428 0 36).toInt ∧ (I428 0 36).toInt ≤ 4; rw [eI428, z_up_n (by decide)]; exact hmt.1), (by show 0 ≤ (I428 0 42).toInt ∧ (I428 0 42).toInt ≤ 1; rw [eI428, z_up_n (by decide)]; exact hmt.2)⟩ (by have q0 : (I428 0 35) = (I 0 35) := (by rw [eI428, z_up_n (by decide)]); have q1 : (I428 0 34) = (I 0 34) := (by rw [eI428, z_up_n (by decide)]); have q2 : (I428 0 33) = (I 0 33) := (by rw [eI428, z_up_n (by decide)]); have q3 : (I428 0 36) = (I 0 36) := (by rw [eI428, z_up_n (by decide)]); show 0 ≤ (I428 0 35).toInt ∧ (I428 0 35).toInt ≤ (I428 0 34).toInt ∧ (I428 0 34).toInt ≤ (I428 0 33).toInt ∧ (I428 0 33).toInt ≤ 500 ∧ ((I428 0 36).toInt = 0 ∨ (I428 0 35).toInt + 1 ≤ (I428 0 34).toInt); rw [q0, q1, q2, q3]; first | omega | decide) ⟨(by show 0 ≤ (I428 0 47).toInt ∧ (I428 0 47).toInt ≤ 119; rw [eI428, z_up_n (by decide)]; exact hmd.1), (by show 0 ≤ (I428 0 39).toInt ∧ (I428 0 39).toInt ≤ 100; rw [eI428, z_up_n (by decide)]; exact hmd.2)⟩ gt gv gp ge gh gm n0 gI (tq) ((2, fa, fx, 7) :: FS) (fo) (fg) (NN) (by have q0 : (I428 0 39) = (I 0 39) := (by rw [eI428, z_up_n (by decide)]); show (I428 0 39).toInt ≤ 9; rw [q0]; omega) hE432 hSM (by omega) _) (cwV 0 hts gX12_atom_X12_opens rfl rfl rfl (by decide +kernel) ⟨Nat.le_of_ble_eq_true rfl, Nat.le_of_ble_eq_true rfl⟩) (z_preV (i := 0) hK hW rfl rfl) rfl rfl hl.1 rfl (lv_room (Nat.le_of_ble_eq_true rfl)) dX12_atom_112 ⟨Nat.le_of_ble_eq_true rfl, Nat.le_of_ble_eq_true rfl⟩) (fun u1 H locs hp hW hS => ?_)
            obtain ⟨I435, J437, e9, hI435mp, hI435mt, hI435rp, hI435md, fI435, hp⟩ := hp
            rw [e9] at hW
            have f436 := z_fr_sub (L := L_X12_atom_x) f429 fI435 (by decide)
            have k438 : 0 ≤ (I435 0 40).toInt ∧ (I435 0 40).toInt ≤ 6199 := by rw [fI435 0 40 (by decide)]; exact (by show 0 ≤ (I428 0 40).toInt ∧ (I428 0 40).toInt ≤ 6199; rw [eI428, z_up_n (by decide)]; exact hmg)
            have k439 : 0 ≤ (I435 0 15).toInt ∧ (I435 0 15).toInt ≤ 6100 := by rw [fI435 0 15 (by decide)]; exact (by show 0 ≤ (I428 0 15).toInt ∧ (I428 0 15).toInt ≤ 6100; rw [eI428, z_up_n (by decide)]; exact hmn)
            have k440 : 0 ≤ (I435 0 35).toInt ∧ (I435 0 35).toInt ≤ (I435 0 34).toInt ∧ (I435 0 34).toInt ≤ (I435 0 33).toInt ∧ (I435 0 33).toInt ≤ 500 ∧ ((I435 0 36).toInt = 0 ∨ (I435 0 35).toInt + 1 ≤ (I435 0 34).toInt) := hI435rp
            have k441 : (I435 0 47).toInt = (I 0 47).toInt := by rw [fI435 0 47 (by decide), eI428, z_up_n (by decide)]
            have k442 : (I435 0 15).toInt = (I 0 15).toInt := by rw [fI435 0 15 (by decide), eI428, z_up_n (by decide)]
            have k443 : (I435 0 40).toInt = (I 0 40).toInt := by rw [fI435 0 40 (by decide), eI428, z_up_n (by decide)]
            obtain ⟨h444, h445, h446, h447⟩ := hp
            rw [show (I428 0 39) = (I 0 39) from by rw [eI428, z_up_n (by decide)]] at h444
            rw [show (I428 0 34) = (I 0 34) from by rw [eI428, z_up_n (by decide)]] at h445
            rw [show (I428 0 39) = (I 0 39) from by rw [eI428, z_up_n (by decide)]] at h446
            rcases h447 with ⟨ht448, he449⟩ | ⟨ht448, he449⟩
            · have hE450 : zm_E gt gv gp ge gh gm n0 gI I435 J437 (.inr (tq + 1, (2, fa, fx, 7) :: FS, fo + 1, fg, NN)) := he449
              have h451 := zm_E_W hE450
              have h452 := zm_E_D hE450
              refine lv_aload_n hx hb dX12_atom_115 rfl (lv_at hl 0 rfl) ?_
              have r453 : 0 ≤ (I435 0 42).toInt ∧ (I435 0 42).toInt ≤ 1 := hI435mt.2
              refine z_get (T := TX12) (N := 96) (ci := 12) (i := 0) (v := .int (I435 0 42)) hx hb hts zj_X12_atom_X12 hown hK hW rfl rfl 42 (by decide) (hts (.fieldLink RX12 294 "PetrolBoardModel" "isWrong" "Z") (me_s (me_l (me_l (List.mem_of_getElem? (i := 6) rfl))))) (fun _ h => h) rfl dX12_atom_116 ?_
              refine lv_if_ne (tgt := 128) hx hb dX12_atom_119 (by decide) (fun c454 => (by have g := z_f_ne rfl z_l0 c454; omega)) (fun c454 => ?_)
              have g455 := z_f_eq rfl z_l0 c454
              refine lv_aload_n hx hb dX12_atom_122 rfl (lv_at hl 0 rfl) ?_
              refine lv_bipush (v := 40) hx hb dX12_atom_123 (by decide) ?_
              refine z_cv hW hS hA (va_runV (As := [.int 40]) (rest := []) ⟨hx, hb, hml, hown, hts⟩ (sx_X12_must_x l G ad I435 J437 ⟨(by show 0 ≤ (I435 0 31).toInt ∧ (I435 0 31).toInt ≤ 500; exact hI435mp.1), (by show 0 ≤ (I435 0 33).toInt ∧ (I435 0 33).toInt ≤ 500; exact hI435mp.2.1), (by show 0 ≤ (I435 0 34).toInt ∧ (I435 0 34).toInt ≤ 500; exact hI435mp.2.2.1), (by show 0 ≤ (I435 0 35).toInt ∧ (I435 0 35).toInt ≤ 500; exact hI435mp.2.2.2)⟩ ⟨(by show 0 ≤ (I435 0 36).toInt ∧ (I435 0 36).toInt ≤ 4; exact hI435mt.1), (by show 0 ≤ (I435 0 42).toInt ∧ (I435 0 42).toInt ≤ 1; exact hI435mt.2)⟩ (by show 0 ≤ (I435 0 35).toInt ∧ (I435 0 35).toInt ≤ (I435 0 34).toInt ∧ (I435 0 34).toInt ≤ (I435 0 33).toInt ∧ (I435 0 33).toInt ≤ 500 ∧ ((I435 0 36).toInt = 0 ∨ (I435 0 35).toInt + 1 ≤ (I435 0 34).toInt); first | omega | decide) gt gv gp ge gh gm n0 gI (tq + 1) ((2, fa, fx, 7) :: FS) (fo + 1) (fg) (NN) 40 hE450 hSM (show zp_sg (40 : Int32).toInt by have := z_l40; unfold zp_sg; omega) _) (cwV 1 hts gX12_atom_X12_must rfl rfl rfl (by decide +kernel) ⟨Nat.le_of_ble_eq_true rfl, Nat.le_of_ble_eq_true rfl⟩) (z_preV (i := 0) hK hW rfl rfl) rfl rfl hl.1 rfl (lv_room (Nat.le_of_ble_eq_true rfl)) dX12_atom_125 ⟨Nat.le_of_ble_eq_true rfl, Nat.le_of_ble_eq_true rfl⟩) (fun u1 H locs hp hW hS => ?_)
              obtain ⟨I456, J458, e9, hI456mp, hI456mt, hI456rp, fI456, hp⟩ := hp
              rw [e9] at hW
              have f457 := z_fr_sub (L := L_X12_atom_x) f436 fI456 (by decide)
              have k459 : 0 ≤ (I456 0 47).toInt ∧ (I456 0 47).toInt ≤ 119 := by rw [fI456 0 47 (by decide)]; exact (by show 0 ≤ (I435 0 47).toInt ∧ (I435 0 47).toInt ≤ 119; exact hI435md.1)
              have k460 : 0 ≤ (I456 0 39).toInt ∧ (I456 0 39).toInt ≤ 100 := by rw [fI456 0 39 (by decide)]; exact (by show 0 ≤ (I435 0 39).toInt ∧ (I435 0 39).toInt ≤ 100; exact hI435md.2)
              have k461 : 0 ≤ (I456 0 40).toInt ∧ (I456 0 40).toInt ≤ 6199 := by rw [fI456 0 40 (by decide)]; exact (by show 0 ≤ (I435 0 40).toInt ∧ (I435 0 40).toInt ≤ 6199; exact k438)
              have k462 : 0 ≤ (I456 0 15).toInt ∧ (I456 0 15).toInt ≤ 6100 := by rw [fI456 0 15 (by decide)]; exact (by show 0 ≤ (I435 0 15).toInt ∧ (I435 0 15).toInt ≤ 6100; exact k439)
              have k463 : 0 ≤ (I456 0 35).toInt ∧ (I456 0 35).toInt ≤ (I456 0 34).toInt ∧ (I456 0 34).toInt ≤ (I456 0 33).toInt ∧ (I456 0 33).toInt ≤ 500 ∧ ((I456 0 36).toInt = 0 ∨ (I456 0 35).toInt + 1 ≤ (I456 0 34).toInt) := hI456rp
              have k464 : (I456 0 47).toInt = (I435 0 47).toInt := by rw [fI456 0 47 (by decide)]
              have k465 : (I456 0 39).toInt = (I435 0 39).toInt := by rw [fI456 0 39 (by decide)]
              have k466 : (I456 0 15).toInt = (I435 0 15).toInt := by rw [fI456 0 15 (by decide)]
              have k467 : (I456 0 40).toInt = (I435 0 40).toInt := by rw [fI456 0 40 (by decide)]
              obtain ⟨h469, h468⟩ := hp
              have h470 := h469
              rcases h468 with ⟨ht471, he472⟩ | ⟨ht471, he472⟩
              · have z473 := z_l40
                have ht474 : gt (tq + 1) = 40 := by omega
                have hE475 : zm_E gt gv gp ge gh gm n0 gI I456 J458 (.inr (tq + 2, (2, fa, fx, 7) :: FS, fo + 1, fg, NN)) := he472
                have h476 := zm_E_W hE475
                have h477 := zm_E_D hE475
                refine lv_aload_n hx hb dX12_atom_128 rfl (lv_at hl 0 rfl) ?_
                refine z_get (T := TX12) (N := 96) (ci := 12) (i := 0) (v := .ref (ad 27)) hx hb hts zj_X12_atom_X12 hown hK hW rfl rfl 44 (by decide) (hts (.fieldLink RX12 94 "PetrolBoardModel" "at" "[I") (me_s (me_l (me_l (List.mem_of_getElem? (i := 0) rfl))))) (fun _ h => h) rfl dX12_atom_129 ?_
                refine lv_iload_n hx hb dX12_atom_132 rfl (lv_at hl 1 rfl) ?_
                refine lv_iconst (v := 2) hx hb dX12_atom_133 (by decide) ?_
                refine z_iast (i := 27) hx hb hK hW hS rfl (z_ix rfl (by omega) (by omega)) dX12_atom_134 (fun H locs hz1 hW hS => ?_)
                obtain ⟨I478, eI478⟩ : ∃ K : z_I, K = z_up I456 27 a1.toNatClampNeg 2 := ⟨_, rfl⟩
                rw [← eI478] at hW
                have f479 := z_fr_a f457 (show z_wa L_X12_atom_x 27 = true by decide) eI478
                have a480 := z_Nd_n (z_Nd_fr (z_Nd_fr a430 fI435 (by decide)) fI456 (by decide)) (by decide) eI478
                have z481 := z_l2
                have hE482 : zm_E gt gv gp ge gh gm n0 gI I478 J458 (.inr (tq + 2, (2, 2, fx, 7) :: FS, fo + 1, fg, NN)) := zm_E_top hE475 eI478 hdk (Or.inl ⟨rfl, by omega, rfl, rfl, rfl⟩)
                have h483 := zm_E_W hE482
                have h484 := zm_E_D hE482
                refine lv_aload_n hx hb dX12_atom_135 rfl (lv_at hl 0 rfl) ?_
                have r485 : 0 ≤ (I456 0 42).toInt ∧ (I456 0 42).toInt ≤ 1 := hI456mt.2
                refine z_get (T := TX12) (N := 96) (ci := 12) (i := 0) (v := .int (I456 0 42)) hx hb hts zj_X12_atom_X12 hown hK hW rfl rfl 42 (by decide) (hts (.fieldLink RX12 294 "PetrolBoardModel" "isWrong" "Z") (me_s (me_l (me_l (List.mem_of_getElem? (i := 6) rfl))))) (fun _ h => h) (congrArg Value.int (by rw [eI478, z_up_n (by decide)])) dX12_atom_136 ?_
                refine lv_if_ne (tgt := 311) hx hb dX12_atom_139 (by decide) (fun c486 => (by have g := z_f_ne rfl z_l0 c486; omega)) (fun c486 => ?_)
                have g487 := z_f_eq rfl z_l0 c486
                refine lv_aload_n hx hb dX12_atom_142 rfl (lv_at hl 0 rfl) ?_
                refine lv_iconst (v := 0) hx hb dX12_atom_143 (by decide) ?_
                refine z_cv hW hS hA (va_runV (As := [.int 0]) (rest := []) ⟨hx, hb, hml, hown, hts⟩ (sx_X12_begin_x l G ad I478 J458 ⟨(by show 0 ≤ (I478 0 47).toInt ∧ (I478 0 47).toInt ≤ 119; rw [eI478, z_up_n (by decide)]; exact k459), (by show 0 ≤ (I478 0 39).toInt ∧ (I478 0 39).toInt ≤ 100; rw [eI478, z_up_n (by decide)]; exact k460)⟩ 0 (by have q0 : (I478 0 47) = (I456 0 47) := (by rw [eI478, z_up_n (by decide)]); show (I478 0 47).toInt ≤ 118; rw [q0]; omega) _) (cwV 1 hts gX12_atom_X12_begin rfl rfl rfl (by decide +kernel) ⟨Nat.le_of_ble_eq_true rfl, Nat.le_of_ble_eq_true rfl⟩) (z_preV (i := 0) hK hW rfl rfl) rfl rfl hl.1 rfl (lv_room (Nat.le_of_ble_eq_true rfl)) dX12_atom_144 ⟨Nat.le_of_ble_eq_true rfl, Nat.le_of_ble_eq_true rfl⟩) (fun u1 H locs hp hW hS => ?_)
                obtain ⟨I488, J490, e9, hI488md, fI488, hp⟩ := hp
                rw [e9] at hW
                have f489 := z_fr_sub (L := L_X12_atom_x) f479 fI488 (by decide)
                have k491 : 0 ≤ (I488 0 31).toInt ∧ (I488 0 31).toInt ≤ 500 := by rw [fI488 0 31 (by decide)]; exact (by show 0 ≤ (I478 0 31).toInt ∧ (I478 0 31).toInt ≤ 500; rw [eI478, z_up_n (by decide)]; exact hI456mp.1)
                have k492 : 0 ≤ (I488 0 33).toInt ∧ (I488 0 33).toInt ≤ 500 := by rw [fI488 0 33 (by decide)]; exact (by show 0 ≤ (I478 0 33).toInt ∧ (I478 0 33).toInt ≤ 500; rw [eI478, z_up_n (by decide)]; exact hI456mp.2.1)
                have k493 : 0 ≤ (I488 0 34).toInt ∧ (I488 0 34).toInt ≤ 500 := by rw [fI488 0 34 (by decide)]; exact (by show 0 ≤ (I478 0 34).toInt ∧ (I478 0 34).toInt ≤ 500; rw [eI478, z_up_n (by decide)]; exact hI456mp.2.2.1)
                have k494 : 0 ≤ (I488 0 35).toInt ∧ (I488 0 35).toInt ≤ 500 := by rw [fI488 0 35 (by decide)]; exact (by show 0 ≤ (I478 0 35).toInt ∧ (I478 0 35).toInt ≤ 500; rw [eI478, z_up_n (by decide)]; exact hI456mp.2.2.2)
                have k495 : 0 ≤ (I488 0 36).toInt ∧ (I488 0 36).toInt ≤ 4 := by rw [fI488 0 36 (by decide)]; exact (by show 0 ≤ (I478 0 36).toInt ∧ (I478 0 36).toInt ≤ 4; rw [eI478, z_up_n (by decide)]; exact hI456mt.1)
                have k496 : 0 ≤ (I488 0 42).toInt ∧ (I488 0 42).toInt ≤ 1 := by rw [fI488 0 42 (by decide)]; exact (by show 0 ≤ (I478 0 42).toInt ∧ (I478 0 42).toInt ≤ 1; rw [eI478, z_up_n (by decide)]; exact hI456mt.2)
                have k497 : 0 ≤ (I488 0 40).toInt ∧ (I488 0 40).toInt ≤ 6199 := by rw [fI488 0 40 (by decide)]; exact (by show 0 ≤ (I478 0 40).toInt ∧ (I478 0 40).toInt ≤ 6199; rw [eI478, z_up_n (by decide)]; exact k461)
                have k498 : 0 ≤ (I488 0 15).toInt ∧ (I488 0 15).toInt ≤ 6100 := by rw [fI488 0 15 (by decide)]; exact (by show 0 ≤ (I478 0 15).toInt ∧ (I478 0 15).toInt ≤ 6100; rw [eI478, z_up_n (by decide)]; exact k462)
                have k499 : 0 ≤ (I488 0 35).toInt ∧ (I488 0 35).toInt ≤ (I488 0 34).toInt ∧ (I488 0 34).toInt ≤ (I488 0 33).toInt ∧ (I488 0 33).toInt ≤ 500 ∧ ((I488 0 36).toInt = 0 ∨ (I488 0 35).toInt + 1 ≤ (I488 0 34).toInt) := (by have q0 : (I488 0 35) = (I456 0 35) := (by rw [fI488 0 35 (by decide), eI478, z_up_n (by decide)]); have q1 : (I488 0 34) = (I456 0 34) := (by rw [fI488 0 34 (by decide), eI478, z_up_n (by decide)]); have q2 : (I488 0 33) = (I456 0 33) := (by rw [fI488 0 33 (by decide), eI478, z_up_n (by decide)]); have q3 : (I488 0 36) = (I456 0 36) := (by rw [fI488 0 36 (by decide), eI478, z_up_n (by decide)]); show 0 ≤ (I488 0 35).toInt ∧ (I488 0 35).toInt ≤ (I488 0 34).toInt ∧ (I488 0 34).toInt ≤ (I488 0 33).toInt ∧ (I488 0 33).toInt ≤ 500 ∧ ((I488 0 36).toInt = 0 ∨ (I488 0 35).toInt + 1 ≤ (I488 0 34).toInt); rw [q0, q1, q2, q3]; first | omega | decide)
                have k500 : (I488 0 35).toInt = (I456 0 35).toInt := by rw [fI488 0 35 (by decide), eI478, z_up_n (by decide)]
                have k501 : (I488 0 34).toInt = (I456 0 34).toInt := by rw [fI488 0 34 (by decide), eI478, z_up_n (by decide)]
                have k502 : (I488 0 36).toInt = (I456 0 36).toInt := by rw [fI488 0 36 (by decide), eI478, z_up_n (by decide)]
                have k503 : (I488 0 42).toInt = (I456 0 42).toInt := by rw [fI488 0 42 (by decide), eI478, z_up_n (by decide)]
                have k504 : (I488 0 39).toInt = (I456 0 39).toInt := by rw [fI488 0 39 (by decide), eI478, z_up_n (by decide)]
                have k505 : (I488 0 15).toInt = (I456 0 15).toInt := by rw [fI488 0 15 (by decide), eI478, z_up_n (by decide)]
                have k506 : (I488 0 40).toInt = (I456 0 40).toInt := by rw [fI488 0 40 (by decide), eI478, z_up_n (by decide)]
                obtain ⟨hp, hJ507⟩ := hp
                have h508 := hp
                have hE509 : zm_E gt gv gp ge gh gm n0 gI I488 J490 (.inr (tq + 2, (0, 0, -1, 0) :: (2, 2, fx, 7) :: FS, fo + 1, fg, NN)) := zm_E_begin hE482 h508 z_l0 fI488 (by decide) hJ507
                have h510 := zm_E_W hE509
                have h511 := zm_E_D hE509
                refine lv_goto (tgt := 311) hx hb dX12_atom_147 (by decide) ?_
                exact z_vret hx hb hr hK hS (Nat.le_of_ble_eq_true rfl) (Nat.le_of_ble_eq_true rfl) hlocks dX12_atom_311 (shM, ad, I488, J490, PM ad) hW ⟨I488, J490, rfl, ⟨(by show 0 ≤ (I488 0 31).toInt ∧ (I488 0 31).toInt ≤ 500; exact k491), (by show 0 ≤ (I488 0 33).toInt ∧ (I488 0 33).toInt ≤ 500; exact k492), (by show 0 ≤ (I488 0 34).toInt ∧ (I488 0 34).toInt ≤ 500; exact k493), (by show 0 ≤ (I488 0 35).toInt ∧ (I488 0 35).toInt ≤ 500; exact k494)⟩, ⟨(by show 0 ≤ (I488 0 36).toInt ∧ (I488 0 36).toInt ≤ 4; exact k495), (by show 0 ≤ (I488 0 42).toInt ∧ (I488 0 42).toInt ≤ 1; exact k496)⟩, ⟨(by show 0 ≤ (I488 0 47).toInt ∧ (I488 0 47).toInt ≤ 119; exact hI488md.1), (by show 0 ≤ (I488 0 39).toInt ∧ (I488 0 39).toInt ≤ 100; exact hI488md.2)⟩, (by show 0 ≤ (I488 0 40).toInt ∧ (I488 0 40).toInt ≤ 6199; exact k497), (by show 0 ≤ (I488 0 15).toInt ∧ (I488 0 15).toInt ≤ 6100; exact k498), (z_Nd_fr a480 fI488 (by decide)), (by show 0 ≤ (I488 0 35).toInt ∧ (I488 0 35).toInt ≤ (I488 0 34).toInt ∧ (I488 0 34).toInt ≤ (I488 0 33).toInt ∧ (I488 0 33).toInt ≤ 500 ∧ ((I488 0 36).toInt = 0 ∨ (I488 0 35).toInt + 1 ≤ (I488 0 34).toInt); first | omega | decide), f489, ⟨((Classical.em ((I488 0 42).toInt = 0)).elim (fun hw9 => Or.inr ⟨a1.toNatClampNeg + 2, by have w1 := z_fw_20 (a := va.toInt) (o := vo.toInt) (by omega); have w2 := z_fo_2n (a := va.toInt) (by omega); have w3 := z_fw_2n (a := 2) (o := vo.toInt) (by omega); have w4 := z_fo_2y (a := 2) (by omega); have w5 := z_fw_00 (a := 0) (o := -1) (by omega); have w6 := z_rk_2; have w7 := z_rk_0; exact z_PUSH (d := a1.toNatClampNeg) (w := 2) (a := 2) (o := vo.toInt) (s := 7) (wi := 0) hPS (fun i hi => ⟨by rw [eI478, z_up_n (by decide), fI456 26 i (z_wr_c (by decide)), fI435 26 i (z_wr_c (by decide)), eI428, z_up_n (by decide)], by rw [eI478, z_up_k (by omega), fI456 27 i (z_wr_c (by decide)), fI435 27 i (z_wr_c (by decide)), eI428, z_up_n (by decide)], by rw [eI478, z_up_n (by decide), fI456 28 i (z_wr_c (by decide)), fI435 28 i (z_wr_c (by decide)), eI428, z_up_n (by decide)], by rw [eI478, z_up_n (by decide), fI456 29 i (z_wr_c (by decide)), fI435 29 i (z_wr_c (by decide)), eI428, z_up_k (by omega)]⟩) (by rw [show I478 26 a1.toNatClampNeg = vw from (by rw [eI478, z_up_n (by decide), fI456 26 a1.toNatClampNeg (z_wr_c (by decide)), fI435 26 a1.toNatClampNeg (z_wr_c (by decide)), eI428, z_up_n (by decide)]; exact evw.symm)]; exact hvw) (by rw [show I478 27 a1.toNatClampNeg = 2 from (by rw [eI478, z_up_s])]; exact z_l2) (by rw [show I478 28 a1.toNatClampNeg = vo from (by rw [eI478, z_up_n (by decide), fI456 28 a1.toNatClampNeg (z_wr_c (by decide)), fI435 28 a1.toNatClampNeg (z_wr_c (by decide)), eI428, z_up_n (by decide)]; exact evo.symm)]) (by rw [show I478 29 a1.toNatClampNeg = 7 from (by rw [eI478, z_up_n (by decide), fI456 29 a1.toNatClampNeg (z_wr_c (by decide)), fI435 29 a1.toNatClampNeg (z_wr_c (by decide)), eI428, z_up_s])]; exact z_l7) (by unfold z_fv; omega) hwd (by rw [eI478, z_up_n (by decide)]; omega) h508 z_l0 (by omega) (by omega) (by omega) (by omega) (by omega) (by omega) (by omega) (by omega)⟩) Or.inl), (by have hz9 : zp_st gt gv (n0 : Int) (.inr (tq, (2, fa, fx, fs) :: FS, fo, fg, NN)) = .inr (tq + 2, (0, 0, -1, 0) :: (2, 2, fx, 7) :: FS, fo + 1, fg, NN) := (by first | (simp [zp_st, zp_op, zp_cm, zp_cb, (show fa = 0 by omega), (show ¬ gt tq = 400 by omega), ht304, ht308, ht426, ht448, ht474]; done) | (exfalso; omega)); rw [hz9]; exact hE509)⟩⟩
              · have z512 := z_l40
                have ht513 : ¬ gt (tq + 1) = 40 := by omega
                have hE514 : zm_E gt gv gp ge gh gm n0 gI I456 J458 (.inl (tq + 1)) := he472
                have h515 := zm_E_L hE514
                refine lv_aload_n hx hb dX12_atom_128 rfl (lv_at hl 0 rfl) ?_
                refine z_get (T := TX12) (N := 96) (ci := 12) (i := 0) (v := .ref (ad 27)) hx hb hts zj_X12_atom_X12 hown hK hW rfl rfl 44 (by decide) (hts (.fieldLink RX12 94 "PetrolBoardModel" "at" "[I") (me_s (me_l (me_l (List.mem_of_getElem? (i := 0) rfl))))) (fun _ h => h) rfl dX12_atom_129 ?_
                refine lv_iload_n hx hb dX12_atom_132 rfl (lv_at hl 1 rfl) ?_
                refine lv_iconst (v := 2) hx hb dX12_atom_133 (by decide) ?_
                refine z_iast (i := 27) hx hb hK hW hS rfl (z_ix rfl (by omega) (by omega)) dX12_atom_134 (fun H locs hz1 hW hS => ?_)
                obtain ⟨I516, eI516⟩ : ∃ K : z_I, K = z_up I456 27 a1.toNatClampNeg 2 := ⟨_, rfl⟩
                rw [← eI516] at hW
                have f517 := z_fr_a f457 (show z_wa L_X12_atom_x 27 = true by decide) eI516
                have a518 := z_Nd_n (z_Nd_fr (z_Nd_fr a430 fI435 (by decide)) fI456 (by decide)) (by decide) eI516
                have hE519 : zm_E gt gv gp ge gh gm n0 gI I516 J458 (.inl (tq + 1)) := zm_E_w hE514 eI516 (by decide)
                have h520 := zm_E_L hE519
                refine lv_aload_n hx hb dX12_atom_135 rfl (lv_at hl 0 rfl) ?_
                have r521 : 0 ≤ (I456 0 42).toInt ∧ (I456 0 42).toInt ≤ 1 := hI456mt.2
                refine z_get (T := TX12) (N := 96) (ci := 12) (i := 0) (v := .int (I456 0 42)) hx hb hts zj_X12_atom_X12 hown hK hW rfl rfl 42 (by decide) (hts (.fieldLink RX12 294 "PetrolBoardModel" "isWrong" "Z") (me_s (me_l (me_l (List.mem_of_getElem? (i := 6) rfl))))) (fun _ h => h) (congrArg Value.int (by rw [eI516, z_up_n (by decide)])) dX12_atom_136 ?_
                refine lv_if_ne (tgt := 311) hx hb dX12_atom_139 (by decide) (fun c522 => ?_) (fun c522 => (by have g := z_f_eq rfl z_l0 c522; omega))
                have g523 := z_f_ne rfl z_l0 c522
                exact z_vret hx hb hr hK hS (Nat.le_of_ble_eq_true rfl) (Nat.le_of_ble_eq_true rfl) hlocks dX12_atom_311 (shM, ad, I516, J458, PM ad) hW ⟨I516, J458, rfl, ⟨(by show 0 ≤ (I516 0 31).toInt ∧ (I516 0 31).toInt ≤ 500; rw [eI516, z_up_n (by decide)]; exact hI456mp.1), (by show 0 ≤ (I516 0 33).toInt ∧ (I516 0 33).toInt ≤ 500; rw [eI516, z_up_n (by decide)]; exact hI456mp.2.1), (by show 0 ≤ (I516 0 34).toInt ∧ (I516 0 34).toInt ≤ 500; rw [eI516, z_up_n (by decide)]; exact hI456mp.2.2.1), (by show 0 ≤ (I516 0 35).toInt ∧ (I516 0 35).toInt ≤ 500; rw [eI516, z_up_n (by decide)]; exact hI456mp.2.2.2)⟩, ⟨(by show 0 ≤ (I516 0 36).toInt ∧ (I516 0 36).toInt ≤ 4; rw [eI516, z_up_n (by decide)]; exact hI456mt.1), (by show 0 ≤ (I516 0 42).toInt ∧ (I516 0 42).toInt ≤ 1; rw [eI516, z_up_n (by decide)]; exact hI456mt.2)⟩, ⟨(by show 0 ≤ (I516 0 47).toInt ∧ (I516 0 47).toInt ≤ 119; rw [eI516, z_up_n (by decide)]; exact k459), (by show 0 ≤ (I516 0 39).toInt ∧ (I516 0 39).toInt ≤ 100; rw [eI516, z_up_n (by decide)]; exact k460)⟩, (by show 0 ≤ (I516 0 40).toInt ∧ (I516 0 40).toInt ≤ 6199; rw [eI516, z_up_n (by decide)]; exact k461), (by show 0 ≤ (I516 0 15).toInt ∧ (I516 0 15).toInt ≤ 6100; rw [eI516, z_up_n (by decide)]; exact k462), a518, (by have q0 : (I516 0 35) = (I456 0 35) := (by rw [eI516, z_up_n (by decide)]); have q1 : (I516 0 34) = (I456 0 34) := (by rw [eI516, z_up_n (by decide)]); have q2 : (I516 0 33) = (I456 0 33) := (by rw [eI516, z_up_n (by decide)]); have q3 : (I516 0 36) = (I456 0 36) := (by rw [eI516, z_up_n (by decide)]); show 0 ≤ (I516 0 35).toInt ∧ (I516 0 35).toInt ≤ (I516 0 34).toInt ∧ (I516 0 34).toInt ≤ (I516 0 33).toInt ∧ (I516 0 33).toInt ≤ 500 ∧ ((I516 0 36).toInt = 0 ∨ (I516 0 35).toInt + 1 ≤ (I516 0 34).toInt); rw [q0, q1, q2, q3]; first | omega | decide), f517, ⟨(Or.inl (by have q0 : (I516 0 42) = (I456 0 42) := (by rw [eI516, z_up_n (by decide)]); show ¬ (I516 0 42).toInt = 0; rw [q0]; omega)), (by have hz9 : zp_st gt gv (n0 : Int) (.inr (tq, (2, fa, fx, fs) :: FS, fo, fg, NN)) = .inl (tq + 1) := (by first | (simp [zp_st, zp_op, zp_cm, zp_cb, (show fa = 0 by omega), (show ¬ gt tq = 400 by omega), ht304, ht308, ht426, ht448, ht513]; done) | (exfalso; omega)); rw [hz9]; exact hE519)⟩⟩
            · have hE524 : zm_E gt gv gp ge gh gm n0 gI I435 J437 (.inl (tq)) := he449
              have h525 := zm_E_L hE524
              refine lv_aload_n hx hb dX12_atom_115 rfl (lv_at hl 0 rfl) ?_
              have r526 : 0 ≤ (I435 0 42).toInt ∧ (I435 0 42).toInt ≤ 1 := hI435mt.2
              refine z_get (T := TX12) (N := 96) (ci := 12) (i := 0) (v := .int (I435 0 42)) hx hb hts zj_X12_atom_X12 hown hK hW rfl rfl 42 (by decide) (hts (.fieldLink RX12 294 "PetrolBoardModel" "isWrong" "Z") (me_s (me_l (me_l (List.mem_of_getElem? (i := 6) rfl))))) (fun _ h => h) rfl dX12_atom_116 ?_
              refine lv_if_ne (tgt := 128) hx hb dX12_atom_119 (by decide) (fun c527 => ?_) (fun c527 => (by have g := z_f_eq rfl z_l0 c527; omega))
              have g528 := z_f_ne rfl z_l0 c527
              refine lv_aload_n hx hb dX12_atom_128 rfl (lv_at hl 0 rfl) ?_
              refine z_get (T := TX12) (N := 96) (ci := 12) (i := 0) (v := .ref (ad 27)) hx hb hts zj_X12_atom_X12 hown hK hW rfl rfl 44 (by decide) (hts (.fieldLink RX12 94 "PetrolBoardModel" "at" "[I") (me_s (me_l (me_l (List.mem_of_getElem? (i := 0) rfl))))) (fun _ h => h) rfl dX12_atom_129 ?_
              refine lv_iload_n hx hb dX12_atom_132 rfl (lv_at hl 1 rfl) ?_
              refine lv_iconst (v := 2) hx hb dX12_atom_133 (by decide) ?_
              refine z_iast (i := 27) hx hb hK hW hS rfl (z_ix rfl (by omega) (by omega)) dX12_atom_134 (fun H locs hz1 hW hS => ?_)
              obtain ⟨I529, eI529⟩ : ∃ K : z_I, K = z_up I435 27 a1.toNatClampNeg 2 := ⟨_, rfl⟩
              rw [← eI529] at hW
              have f530 := z_fr_a f436 (show z_wa L_X12_atom_x 27 = true by decide) eI529
              have a531 := z_Nd_n (z_Nd_fr a430 fI435 (by decide)) (by decide) eI529
              have hE532 : zm_E gt gv gp ge gh gm n0 gI I529 J437 (.inl (tq)) := zm_E_w hE524 eI529 (by decide)
              have h533 := zm_E_L hE532
              refine lv_aload_n hx hb dX12_atom_135 rfl (lv_at hl 0 rfl) ?_
              refine z_get (T := TX12) (N := 96) (ci := 12) (i := 0) (v := .int (I435 0 42)) hx hb hts zj_X12_atom_X12 hown hK hW rfl rfl 42 (by decide) (hts (.fieldLink RX12 294 "PetrolBoardModel" "isWrong" "Z") (me_s (me_l (me_l (List.mem_of_getElem? (i := 6) rfl))))) (fun _ h => h) (congrArg Value.int (by rw [eI529, z_up_n (by decide)])) dX12_atom_136 ?_
              refine lv_if_ne (tgt := 311) hx hb dX12_atom_139 (by decide) (fun c534 => ?_) (fun c534 => (by have g := z_f_eq rfl z_l0 c534; omega))
              have g535 := z_f_ne rfl z_l0 c534
              exact z_vret hx hb hr hK hS (Nat.le_of_ble_eq_true rfl) (Nat.le_of_ble_eq_true rfl) hlocks dX12_atom_311 (shM, ad, I529, J437, PM ad) hW ⟨I529, J437, rfl, ⟨(by show 0 ≤ (I529 0 31).toInt ∧ (I529 0 31).toInt ≤ 500; rw [eI529, z_up_n (by decide)]; exact hI435mp.1), (by show 0 ≤ (I529 0 33).toInt ∧ (I529 0 33).toInt ≤ 500; rw [eI529, z_up_n (by decide)]; exact hI435mp.2.1), (by show 0 ≤ (I529 0 34).toInt ∧ (I529 0 34).toInt ≤ 500; rw [eI529, z_up_n (by decide)]; exact hI435mp.2.2.1), (by show 0 ≤ (I529 0 35).toInt ∧ (I529 0 35).toInt ≤ 500; rw [eI529, z_up_n (by decide)]; exact hI435mp.2.2.2)⟩, ⟨(by show 0 ≤ (I529 0 36).toInt ∧ (I529 0 36).toInt ≤ 4; rw [eI529, z_up_n (by decide)]; exact hI435mt.1), (by show 0 ≤ (I529 0 42).toInt ∧ (I529 0 42).toInt ≤ 1; rw [eI529, z_up_n (by decide)]; exact hI435mt.2)⟩, ⟨(by show 0 ≤ (I529 0 47).toInt ∧ (I529 0 47).toInt ≤ 119; rw [eI529, z_up_n (by decide)]; exact hI435md.1), (by show 0 ≤ (I529 0 39).toInt ∧ (I529 0 39).toInt ≤ 100; rw [eI529, z_up_n (by decide)]; exact hI435md.2)⟩, (by show 0 ≤ (I529 0 40).toInt ∧ (I529 0 40).toInt ≤ 6199; rw [eI529, z_up_n (by decide)]; exact k438), (by show 0 ≤ (I529 0 15).toInt ∧ (I529 0 15).toInt ≤ 6100; rw [eI529, z_up_n (by decide)]; exact k439), a531, (by have q0 : (I529 0 35) = (I435 0 35) := (by rw [eI529, z_up_n (by decide)]); have q1 : (I529 0 34) = (I435 0 34) := (by rw [eI529, z_up_n (by decide)]); have q2 : (I529 0 33) = (I435 0 33) := (by rw [eI529, z_up_n (by decide)]); have q3 : (I529 0 36) = (I435 0 36) := (by rw [eI529, z_up_n (by decide)]); show 0 ≤ (I529 0 35).toInt ∧ (I529 0 35).toInt ≤ (I529 0 34).toInt ∧ (I529 0 34).toInt ≤ (I529 0 33).toInt ∧ (I529 0 33).toInt ≤ 500 ∧ ((I529 0 36).toInt = 0 ∨ (I529 0 35).toInt + 1 ≤ (I529 0 34).toInt); rw [q0, q1, q2, q3]; first | omega | decide), f530, ⟨(Or.inl (by have q0 : (I529 0 42) = (I435 0 42) := (by rw [eI529, z_up_n (by decide)]); show ¬ (I529 0 42).toInt = 0; rw [q0]; omega)), (by have hz9 : zp_st gt gv (n0 : Int) (.inr (tq, (2, fa, fx, fs) :: FS, fo, fg, NN)) = .inl (tq) := (by first | (simp [zp_st, zp_op, zp_cm, zp_cb, (show fa = 0 by omega), (show ¬ gt tq = 400 by omega), ht304, ht308, ht426, ht448]; done) | (exfalso; omega)); rw [hz9]; exact hE532)⟩⟩
        · have ht536 : ¬ gt (tq) = 312 := fun q => h306 (by have q9 := (zm_E_wo (i := 12) (by decide) hE).mpr q; exact ⟨q9.1, q9.2.trans (show (6476969 : Int64).toInt = zp_K.getD 12 0 by decide).symm⟩)
          refine lv_if_ne (tgt := 88) hx hb dX12_atom_75 (by decide) (fun c537 => absurd (by decide) c537) (fun c537 => ?_)
          refine lv_aload_n hx hb dX12_atom_78 rfl (lv_at hl 0 rfl) ?_
          refine lv_ldc2 (v := 267347) hx hb hown (hts (.constantLong RX12 381 (267347)) (me_s (me_l (me_l (List.mem_of_getElem? (i := 4) rfl))))) dX12_atom_79 ?_
          refine z_ci hW hS hA (va_runV (As := [.long 267347]) (rest := []) ⟨hx, hb, hml, hown, hts⟩ (sx_X12_isWord_x l G ad I J ⟨(by show 0 ≤ (I 0 36).toInt ∧ (I 0 36).toInt ≤ 4; exact hmt.1), (by show 0 ≤ (I 0 42).toInt ∧ (I 0 42).toInt ≤ 1; exact hmt.2)⟩ 267347 _) (cwV 1 hts gX12_atom_X12_isWord rfl rfl rfl (by decide +kernel) ⟨Nat.le_of_ble_eq_true rfl, Nat.le_of_ble_eq_true rfl⟩) (z_preV (i := 0) hK hW rfl rfl) rfl rfl hl.1 rfl (lv_room (Nat.le_of_ble_eq_true rfl)) dX12_atom_82 ⟨Nat.le_of_ble_eq_true rfl, Nat.le_of_ble_eq_true rfl⟩) (fun r u1 H locs hp hW hS => ?_)
          obtain ⟨e9, hp⟩ := hp
          rw [e9] at hW
          rcases hp with ⟨rfl, h538, h539⟩ | ⟨rfl, h538⟩
          · have ht540 : gt (tq) = 313 := (zm_E_wo (i := 13) (by decide) hE).mp ⟨h538, h539.trans (show (267347 : Int64).toInt = zp_K.getD 13 0 by decide)⟩
            have h541 := h538
            have h542 : (I 0 35).toInt + 1 ≤ (I 0 34).toInt := by omega
            refine lv_if_eq (tgt := 150) hx hb dX12_atom_85 (by decide) (fun c543 => absurd c543 (by decide)) (fun c543 => ?_)
            refine lv_aload_n hx hb dX12_atom_88 rfl (lv_at hl 0 rfl) ?_
            refine z_get (T := TX12) (N := 96) (ci := 12) (i := 0) (v := .ref (ad 29)) hx hb hts zj_X12_atom_X12 hown hK hW rfl rfl 46 (by decide) (hts (.fieldLink RX12 100 "PetrolBoardModel" "sort" "[I") (me_s (me_l (me_l (List.mem_of_getElem? (i := 5) rfl))))) (fun _ h => h) rfl dX12_atom_89 ?_
            refine lv_iload_n hx hb dX12_atom_92 rfl (lv_at hl 1 rfl) ?_
            refine lv_aload_n hx hb dX12_atom_93 rfl (lv_at hl 0 rfl) ?_
            refine lv_ldc2 (v := 6476969) hx hb hown (hts (.constantLong RX12 375 (6476969)) (me_s (me_l (me_l (List.mem_of_getElem? (i := 3) rfl))))) dX12_atom_94 ?_
            refine z_ci hW hS hA (va_runV (As := [.long 6476969]) (rest := [.int a1, .ref (ad 29)]) ⟨hx, hb, hml, hown, hts⟩ (sx_X12_isWord_x l G ad I J ⟨(by show 0 ≤ (I 0 36).toInt ∧ (I 0 36).toInt ≤ 4; exact hmt.1), (by show 0 ≤ (I 0 42).toInt ∧ (I 0 42).toInt ≤ 1; exact hmt.2)⟩ 6476969 _) (cwV 1 hts gX12_atom_X12_isWord rfl rfl rfl (by decide +kernel) ⟨Nat.le_of_ble_eq_true rfl, Nat.le_of_ble_eq_true rfl⟩) (z_preV (i := 0) hK hW rfl rfl) rfl rfl hl.1 rfl (lv_room (Nat.le_of_ble_eq_true rfl)) dX12_atom_97 ⟨Nat.le_of_ble_eq_true rfl, Nat.le_of_ble_eq_true rfl⟩) (fun r u1 H locs hp hW hS => ?_)
            obtain ⟨e9, hp⟩ := hp
            rw [e9] at hW
            rcases hp with ⟨rfl, h544, h545⟩ | ⟨rfl, h544⟩
            · have ht546 : gt (tq) = 312 := (zm_E_wo (i := 12) (by decide) hE).mp ⟨h544, h545.trans (show (6476969 : Int64).toInt = zp_K.getD 12 0 by decide)⟩
              have h547 := h544
              have h548 : (I 0 35).toInt + 1 ≤ (I 0 34).toInt := by omega
              refine lv_if_eq (tgt := 108) hx hb dX12_atom_100 (by decide) (fun c549 => absurd c549 (by decide)) (fun c549 => ?_)
              refine lv_bipush (v := 6) hx hb dX12_atom_103 (by decide) ?_
              refine lv_goto (tgt := 110) hx hb dX12_atom_105 (by decide) ?_
              refine z_iast (i := 29) hx hb hK hW hS rfl (z_ix rfl (by omega) (by omega)) dX12_atom_110 (fun H locs hz1 hW hS => ?_)
              obtain ⟨I550, eI550⟩ : ∃ K : z_I, K = z_up I 29 a1.toNatClampNeg 6 := ⟨_, rfl⟩
              rw [← eI550] at hW
              have f551 := z_fr_a z_fr_0 (show z_wa L_X12_atom_x 29 = true by decide) eI550
              have a552 := z_Nd_n hNd (by decide) eI550
              have z553 := z_l6
              have hE554 : zm_E gt gv gp ge gh gm n0 gI I550 J (.inr (tq, (2, fa, fx, 6) :: FS, fo, fg, NN)) := zm_E_top hE eI550 hdk (Or.inr (Or.inr ⟨rfl, by omega, rfl, rfl, rfl⟩))
              have h555 := zm_E_W hE554
              have h556 := zm_E_D hE554
              refine lv_aload_n hx hb dX12_atom_111 rfl (lv_at hl 0 rfl) ?_
              refine z_cv hW hS hA (va_runV (As := []) (rest := []) ⟨hx, hb, hml, hown, hts⟩ (sx_X12_opens_x l G ad I550 J ⟨(by show 0 ≤ (I550 0 31).toInt ∧ (I550 0 31).toInt ≤ 500; rw [eI550, z_up_n (by decide)]; exact hmp.1), (by show 0 ≤ (I550 0 33).toInt ∧ (I550 0 33).toInt ≤ 500; rw [eI550, z_up_n (by decide)]; exact hmp.2.1), (by show 0 ≤ (I550 0 34).toInt ∧ (I550 0 34).toInt ≤ 500; rw [eI550, z_up_n (by decide)]; exact hmp.2.2.1), (by show 0 ≤ (I550 0 35).toInt ∧ (I550 0 35).toInt ≤ 500; rw [eI550, z_up_n (by decide)]; exact hmp.2.2.2)⟩ ⟨(by show 0 ≤ (I550 0 36).toInt ∧ (I550 0 36).toInt ≤ 4; rw [eI550, z_up_n (by decide)]; exact hmt.1), (by show 0 ≤ (I550 0 42).toInt ∧ (I550 0 42).toInt ≤ 1; rw [eI550, z_up_n (by decide)]; exact hmt.2)⟩ (by have q0 : (I550 0 35) = (I 0 35) := (by rw [eI550, z_up_n (by decide)]); have q1 : (I550 0 34) = (I 0 34) := (by rw [eI550, z_up_n (by decide)]); have q2 : (I550 0 33) = (I 0 33) := (by rw [eI550, z_up_n (by decide)]); have q3 : (I550 0 36) = (I 0 36) := (by rw [eI550, z_up_n (by decide)]); show 0 ≤ (I550 0 35).toInt ∧ (I550 0 35).toInt ≤ (I550 0 34).toInt ∧ (I550 0 34).toInt ≤ (I550 0 33).toInt ∧ (I550 0 33).toInt ≤ 500 ∧ ((I550 0 36).toInt = 0 ∨ (I550 0 35).toInt + 1 ≤ (I550 0 34).toInt); rw [q0, q1, q2, q3]; first | omega | decide) ⟨(by show 0 ≤ (I550 0 47).toInt ∧ (I550 0 47).toInt ≤ 119; rw [eI550, z_up_n (by decide)]; exact hmd.1), (by show 0 ≤ (I550 0 39).toInt ∧ (I550 0 39).toInt ≤ 100; rw [eI550, z_up_n (by decide)]; exact hmd.2)⟩ gt gv gp ge gh gm n0 gI (tq) ((2, fa, fx, 6) :: FS) (fo) (fg) (NN) (by have q0 : (I550 0 39) = (I 0 39) := (by rw [eI550, z_up_n (by decide)]); show (I550 0 39).toInt ≤ 9; rw [q0]; omega) hE554 hSM (by omega) _) (cwV 0 hts gX12_atom_X12_opens rfl rfl rfl (by decide +kernel) ⟨Nat.le_of_ble_eq_true rfl, Nat.le_of_ble_eq_true rfl⟩) (z_preV (i := 0) hK hW rfl rfl) rfl rfl hl.1 rfl (lv_room (Nat.le_of_ble_eq_true rfl)) dX12_atom_112 ⟨Nat.le_of_ble_eq_true rfl, Nat.le_of_ble_eq_true rfl⟩) (fun u1 H locs hp hW hS => ?_)
              obtain ⟨I557, J559, e9, hI557mp, hI557mt, hI557rp, hI557md, fI557, hp⟩ := hp
              rw [e9] at hW
              have f558 := z_fr_sub (L := L_X12_atom_x) f551 fI557 (by decide)
              have k560 : 0 ≤ (I557 0 40).toInt ∧ (I557 0 40).toInt ≤ 6199 := by rw [fI557 0 40 (by decide)]; exact (by show 0 ≤ (I550 0 40).toInt ∧ (I550 0 40).toInt ≤ 6199; rw [eI550, z_up_n (by decide)]; exact hmg)
              have k561 : 0 ≤ (I557 0 15).toInt ∧ (I557 0 15).toInt ≤ 6100 := by rw [fI557 0 15 (by decide)]; exact (by show 0 ≤ (I550 0 15).toInt ∧ (I550 0 15).toInt ≤ 6100; rw [eI550, z_up_n (by decide)]; exact hmn)
              have k562 : 0 ≤ (I557 0 35).toInt ∧ (I557 0 35).toInt ≤ (I557 0 34).toInt ∧ (I557 0 34).toInt ≤ (I557 0 33).toInt ∧ (I557 0 33).toInt ≤ 500 ∧ ((I557 0 36).toInt = 0 ∨ (I557 0 35).toInt + 1 ≤ (I557 0 34).toInt) := hI557rp
              have k563 : (I557 0 47).toInt = (I 0 47).toInt := by rw [fI557 0 47 (by decide), eI550, z_up_n (by decide)]
              have k564 : (I557 0 15).toInt = (I 0 15).toInt := by rw [fI557 0 15 (by decide), eI550, z_up_n (by decide)]
              have k565 : (I557 0 40).toInt = (I 0 40).toInt := by rw [fI557 0 40 (by decide), eI550, z_up_n (by decide)]
              obtain ⟨h566, h567, h568, h569⟩ := hp
              rw [show (I550 0 39) = (I 0 39) from by rw [eI550, z_up_n (by decide)]] at h566
              rw [show (I550 0 34) = (I 0 34) from by rw [eI550, z_up_n (by decide)]] at h567
              rw [show (I550 0 39) = (I 0 39) from by rw [eI550, z_up_n (by decide)]] at h568
              rcases h569 with ⟨ht570, he571⟩ | ⟨ht570, he571⟩
              · have hE572 : zm_E gt gv gp ge gh gm n0 gI I557 J559 (.inr (tq + 1, (2, fa, fx, 6) :: FS, fo + 1, fg, NN)) := he571
                have h573 := zm_E_W hE572
                have h574 := zm_E_D hE572
                refine lv_aload_n hx hb dX12_atom_115 rfl (lv_at hl 0 rfl) ?_
                have r575 : 0 ≤ (I557 0 42).toInt ∧ (I557 0 42).toInt ≤ 1 := hI557mt.2
                refine z_get (T := TX12) (N := 96) (ci := 12) (i := 0) (v := .int (I557 0 42)) hx hb hts zj_X12_atom_X12 hown hK hW rfl rfl 42 (by decide) (hts (.fieldLink RX12 294 "PetrolBoardModel" "isWrong" "Z") (me_s (me_l (me_l (List.mem_of_getElem? (i := 6) rfl))))) (fun _ h => h) rfl dX12_atom_116 ?_
                refine lv_if_ne (tgt := 128) hx hb dX12_atom_119 (by decide) (fun c576 => (by have g := z_f_ne rfl z_l0 c576; omega)) (fun c576 => ?_)
                have g577 := z_f_eq rfl z_l0 c576
                refine lv_aload_n hx hb dX12_atom_122 rfl (lv_at hl 0 rfl) ?_
                refine lv_bipush (v := 40) hx hb dX12_atom_123 (by decide) ?_
                refine z_cv hW hS hA (va_runV (As := [.int 40]) (rest := []) ⟨hx, hb, hml, hown, hts⟩ (sx_X12_must_x l G ad I557 J559 ⟨(by show 0 ≤ (I557 0 31).toInt ∧ (I557 0 31).toInt ≤ 500; exact hI557mp.1), (by show 0 ≤ (I557 0 33).toInt ∧ (I557 0 33).toInt ≤ 500; exact hI557mp.2.1), (by show 0 ≤ (I557 0 34).toInt ∧ (I557 0 34).toInt ≤ 500; exact hI557mp.2.2.1), (by show 0 ≤ (I557 0 35).toInt ∧ (I557 0 35).toInt ≤ 500; exact hI557mp.2.2.2)⟩ ⟨(by show 0 ≤ (I557 0 36).toInt ∧ (I557 0 36).toInt ≤ 4; exact hI557mt.1), (by show 0 ≤ (I557 0 42).toInt ∧ (I557 0 42).toInt ≤ 1; exact hI557mt.2)⟩ (by show 0 ≤ (I557 0 35).toInt ∧ (I557 0 35).toInt ≤ (I557 0 34).toInt ∧ (I557 0 34).toInt ≤ (I557 0 33).toInt ∧ (I557 0 33).toInt ≤ 500 ∧ ((I557 0 36).toInt = 0 ∨ (I557 0 35).toInt + 1 ≤ (I557 0 34).toInt); first | omega | decide) gt gv gp ge gh gm n0 gI (tq + 1) ((2, fa, fx, 6) :: FS) (fo + 1) (fg) (NN) 40 hE572 hSM (show zp_sg (40 : Int32).toInt by have := z_l40; unfold zp_sg; omega) _) (cwV 1 hts gX12_atom_X12_must rfl rfl rfl (by decide +kernel) ⟨Nat.le_of_ble_eq_true rfl, Nat.le_of_ble_eq_true rfl⟩) (z_preV (i := 0) hK hW rfl rfl) rfl rfl hl.1 rfl (lv_room (Nat.le_of_ble_eq_true rfl)) dX12_atom_125 ⟨Nat.le_of_ble_eq_true rfl, Nat.le_of_ble_eq_true rfl⟩) (fun u1 H locs hp hW hS => ?_)
                obtain ⟨I578, J580, e9, hI578mp, hI578mt, hI578rp, fI578, hp⟩ := hp
                rw [e9] at hW
                have f579 := z_fr_sub (L := L_X12_atom_x) f558 fI578 (by decide)
                have k581 : 0 ≤ (I578 0 47).toInt ∧ (I578 0 47).toInt ≤ 119 := by rw [fI578 0 47 (by decide)]; exact (by show 0 ≤ (I557 0 47).toInt ∧ (I557 0 47).toInt ≤ 119; exact hI557md.1)
                have k582 : 0 ≤ (I578 0 39).toInt ∧ (I578 0 39).toInt ≤ 100 := by rw [fI578 0 39 (by decide)]; exact (by show 0 ≤ (I557 0 39).toInt ∧ (I557 0 39).toInt ≤ 100; exact hI557md.2)
                have k583 : 0 ≤ (I578 0 40).toInt ∧ (I578 0 40).toInt ≤ 6199 := by rw [fI578 0 40 (by decide)]; exact (by show 0 ≤ (I557 0 40).toInt ∧ (I557 0 40).toInt ≤ 6199; exact k560)
                have k584 : 0 ≤ (I578 0 15).toInt ∧ (I578 0 15).toInt ≤ 6100 := by rw [fI578 0 15 (by decide)]; exact (by show 0 ≤ (I557 0 15).toInt ∧ (I557 0 15).toInt ≤ 6100; exact k561)
                have k585 : 0 ≤ (I578 0 35).toInt ∧ (I578 0 35).toInt ≤ (I578 0 34).toInt ∧ (I578 0 34).toInt ≤ (I578 0 33).toInt ∧ (I578 0 33).toInt ≤ 500 ∧ ((I578 0 36).toInt = 0 ∨ (I578 0 35).toInt + 1 ≤ (I578 0 34).toInt) := hI578rp
                have k586 : (I578 0 47).toInt = (I557 0 47).toInt := by rw [fI578 0 47 (by decide)]
                have k587 : (I578 0 39).toInt = (I557 0 39).toInt := by rw [fI578 0 39 (by decide)]
                have k588 : (I578 0 15).toInt = (I557 0 15).toInt := by rw [fI578 0 15 (by decide)]
                have k589 : (I578 0 40).toInt = (I557 0 40).toInt := by rw [fI578 0 40 (by decide)]
                obtain ⟨h591, h590⟩ := hp
                have h592 := h591
                rcases h590 with ⟨ht593, he594⟩ | ⟨ht593, he594⟩
                · have z595 := z_l40
                  have ht596 : gt (tq + 1) = 40 := by omega
                  have hE597 : zm_E gt gv gp ge gh gm n0 gI I578 J580 (.inr (tq + 2, (2, fa, fx, 6) :: FS, fo + 1, fg, NN)) := he594
                  have h598 := zm_E_W hE597
                  have h599 := zm_E_D hE597
                  refine lv_aload_n hx hb dX12_atom_128 rfl (lv_at hl 0 rfl) ?_
                  refine z_get (T := TX12) (N := 96) (ci := 12) (i := 0) (v := .ref (ad 27)) hx hb hts zj_X12_atom_X12 hown hK hW rfl rfl 44 (by decide) (hts (.fieldLink RX12 94 "PetrolBoardModel" "at" "[I") (me_s (me_l (me_l (List.mem_of_getElem? (i := 0) rfl))))) (fun _ h => h) rfl dX12_atom_129 ?_
                  refine lv_iload_n hx hb dX12_atom_132 rfl (lv_at hl 1 rfl) ?_
                  refine lv_iconst (v := 2) hx hb dX12_atom_133 (by decide) ?_
                  refine z_iast (i := 27) hx hb hK hW hS rfl (z_ix rfl (by omega) (by omega)) dX12_atom_134 (fun H locs hz1 hW hS => ?_)
                  obtain ⟨I600, eI600⟩ : ∃ K : z_I, K = z_up I578 27 a1.toNatClampNeg 2 := ⟨_, rfl⟩
                  rw [← eI600] at hW
                  have f601 := z_fr_a f579 (show z_wa L_X12_atom_x 27 = true by decide) eI600
                  have a602 := z_Nd_n (z_Nd_fr (z_Nd_fr a552 fI557 (by decide)) fI578 (by decide)) (by decide) eI600
                  have z603 := z_l2
                  have hE604 : zm_E gt gv gp ge gh gm n0 gI I600 J580 (.inr (tq + 2, (2, 2, fx, 6) :: FS, fo + 1, fg, NN)) := zm_E_top hE597 eI600 hdk (Or.inl ⟨rfl, by omega, rfl, rfl, rfl⟩)
                  have h605 := zm_E_W hE604
                  have h606 := zm_E_D hE604
                  refine lv_aload_n hx hb dX12_atom_135 rfl (lv_at hl 0 rfl) ?_
                  have r607 : 0 ≤ (I578 0 42).toInt ∧ (I578 0 42).toInt ≤ 1 := hI578mt.2
                  refine z_get (T := TX12) (N := 96) (ci := 12) (i := 0) (v := .int (I578 0 42)) hx hb hts zj_X12_atom_X12 hown hK hW rfl rfl 42 (by decide) (hts (.fieldLink RX12 294 "PetrolBoardModel" "isWrong" "Z") (me_s (me_l (me_l (List.mem_of_getElem? (i := 6) rfl))))) (fun _ h => h) (congrArg Value.int (by rw [eI600, z_up_n (by decide)])) dX12_atom_136 ?_
                  refine lv_if_ne (tgt := 311) hx hb dX12_atom_139 (by decide) (fun c608 => (by have g := z_f_ne rfl z_l0 c608; omega)) (fun c608 => ?_)
                  have g609 := z_f_eq rfl z_l0 c608
                  refine lv_aload_n hx hb dX12_atom_142 rfl (lv_at hl 0 rfl) ?_
                  refine lv_iconst (v := 0) hx hb dX12_atom_143 (by decide) ?_
                  refine z_cv hW hS hA (va_runV (As := [.int 0]) (rest := []) ⟨hx, hb, hml, hown, hts⟩ (sx_X12_begin_x l G ad I600 J580 ⟨(by show 0 ≤ (I600 0 47).toInt ∧ (I600 0 47).toInt ≤ 119; rw [eI600, z_up_n (by decide)]; exact k581), (by show 0 ≤ (I600 0 39).toInt ∧ (I600 0 39).toInt ≤ 100; rw [eI600, z_up_n (by decide)]; exact k582)⟩ 0 (by have q0 : (I600 0 47) = (I578 0 47) := (by rw [eI600, z_up_n (by decide)]); show (I600 0 47).toInt ≤ 118; rw [q0]; omega) _) (cwV 1 hts gX12_atom_X12_begin rfl rfl rfl (by decide +kernel) ⟨Nat.le_of_ble_eq_true rfl, Nat.le_of_ble_eq_true rfl⟩) (z_preV (i := 0) hK hW rfl rfl) rfl rfl hl.1 rfl (lv_room (Nat.le_of_ble_eq_true rfl)) dX12_atom_144 ⟨Nat.le_of_ble_eq_true rfl, Nat.le_of_ble_eq_true rfl⟩) (fun u1 H locs hp hW hS => ?_)
                  obtain ⟨I610, J612, e9, hI610md, fI610, hp⟩ := hp
                  rw [e9] at hW
                  have f611 := z_fr_sub (L := L_X12_atom_x) f601 fI610 (by decide)
                  have k613 : 0 ≤ (I610 0 31).toInt ∧ (I610 0 31).toInt ≤ 500 := by rw [fI610 0 31 (by decide)]; exact (by show 0 ≤ (I600 0 31).toInt ∧ (I600 0 31).toInt ≤ 500; rw [eI600, z_up_n (by decide)]; exact hI578mp.1)
                  have k614 : 0 ≤ (I610 0 33).toInt ∧ (I610 0 33).toInt ≤ 500 := by rw [fI610 0 33 (by decide)]; exact (by show 0 ≤ (I600 0 33).toInt ∧ (I600 0 33).toInt ≤ 500; rw [eI600, z_up_n (by decide)]; exact hI578mp.2.1)
                  have k615 : 0 ≤ (I610 0 34).toInt ∧ (I610 0 34).toInt ≤ 500 := by rw [fI610 0 34 (by decide)]; exact (by show 0 ≤ (I600 0 34).toInt ∧ (I600 0 34).toInt ≤ 500; rw [eI600, z_up_n (by decide)]; exact hI578mp.2.2.1)
                  have k616 : 0 ≤ (I610 0 35).toInt ∧ (I610 0 35).toInt ≤ 500 := by rw [fI610 0 35 (by decide)]; exact (by show 0 ≤ (I600 0 35).toInt ∧ (I600 0 35).toInt ≤ 500; rw [eI600, z_up_n (by decide)]; exact hI578mp.2.2.2)
                  have k617 : 0 ≤ (I610 0 36).toInt ∧ (I610 0 36).toInt ≤ 4 := by rw [fI610 0 36 (by decide)]; exact (by show 0 ≤ (I600 0 36).toInt ∧ (I600 0 36).toInt ≤ 4; rw [eI600, z_up_n (by decide)]; exact hI578mt.1)
                  have k618 : 0 ≤ (I610 0 42).toInt ∧ (I610 0 42).toInt ≤ 1 := by rw [fI610 0 42 (by decide)]; exact (by show 0 ≤ (I600 0 42).toInt ∧ (I600 0 42).toInt ≤ 1; rw [eI600, z_up_n (by decide)]; exact hI578mt.2)
                  have k619 : 0 ≤ (I610 0 40).toInt ∧ (I610 0 40).toInt ≤ 6199 := by rw [fI610 0 40 (by decide)]; exact (by show 0 ≤ (I600 0 40).toInt ∧ (I600 0 40).toInt ≤ 6199; rw [eI600, z_up_n (by decide)]; exact k583)
                  have k620 : 0 ≤ (I610 0 15).toInt ∧ (I610 0 15).toInt ≤ 6100 := by rw [fI610 0 15 (by decide)]; exact (by show 0 ≤ (I600 0 15).toInt ∧ (I600 0 15).toInt ≤ 6100; rw [eI600, z_up_n (by decide)]; exact k584)
                  have k621 : 0 ≤ (I610 0 35).toInt ∧ (I610 0 35).toInt ≤ (I610 0 34).toInt ∧ (I610 0 34).toInt ≤ (I610 0 33).toInt ∧ (I610 0 33).toInt ≤ 500 ∧ ((I610 0 36).toInt = 0 ∨ (I610 0 35).toInt + 1 ≤ (I610 0 34).toInt) := (by have q0 : (I610 0 35) = (I578 0 35) := (by rw [fI610 0 35 (by decide), eI600, z_up_n (by decide)]); have q1 : (I610 0 34) = (I578 0 34) := (by rw [fI610 0 34 (by decide), eI600, z_up_n (by decide)]); have q2 : (I610 0 33) = (I578 0 33) := (by rw [fI610 0 33 (by decide), eI600, z_up_n (by decide)]); have q3 : (I610 0 36) = (I578 0 36) := (by rw [fI610 0 36 (by decide), eI600, z_up_n (by decide)]); show 0 ≤ (I610 0 35).toInt ∧ (I610 0 35).toInt ≤ (I610 0 34).toInt ∧ (I610 0 34).toInt ≤ (I610 0 33).toInt ∧ (I610 0 33).toInt ≤ 500 ∧ ((I610 0 36).toInt = 0 ∨ (I610 0 35).toInt + 1 ≤ (I610 0 34).toInt); rw [q0, q1, q2, q3]; first | omega | decide)
                  have k622 : (I610 0 35).toInt = (I578 0 35).toInt := by rw [fI610 0 35 (by decide), eI600, z_up_n (by decide)]
                  have k623 : (I610 0 34).toInt = (I578 0 34).toInt := by rw [fI610 0 34 (by decide), eI600, z_up_n (by decide)]
                  have k624 : (I610 0 36).toInt = (I578 0 36).toInt := by rw [fI610 0 36 (by decide), eI600, z_up_n (by decide)]
                  have k625 : (I610 0 42).toInt = (I578 0 42).toInt := by rw [fI610 0 42 (by decide), eI600, z_up_n (by decide)]
                  have k626 : (I610 0 39).toInt = (I578 0 39).toInt := by rw [fI610 0 39 (by decide), eI600, z_up_n (by decide)]
                  have k627 : (I610 0 15).toInt = (I578 0 15).toInt := by rw [fI610 0 15 (by decide), eI600, z_up_n (by decide)]
                  have k628 : (I610 0 40).toInt = (I578 0 40).toInt := by rw [fI610 0 40 (by decide), eI600, z_up_n (by decide)]
                  obtain ⟨hp, hJ629⟩ := hp
                  have h630 := hp
                  have hE631 : zm_E gt gv gp ge gh gm n0 gI I610 J612 (.inr (tq + 2, (0, 0, -1, 0) :: (2, 2, fx, 6) :: FS, fo + 1, fg, NN)) := zm_E_begin hE604 h630 z_l0 fI610 (by decide) hJ629
                  have h632 := zm_E_W hE631
                  have h633 := zm_E_D hE631
                  refine lv_goto (tgt := 311) hx hb dX12_atom_147 (by decide) ?_
                  exact z_vret hx hb hr hK hS (Nat.le_of_ble_eq_true rfl) (Nat.le_of_ble_eq_true rfl) hlocks dX12_atom_311 (shM, ad, I610, J612, PM ad) hW ⟨I610, J612, rfl, ⟨(by show 0 ≤ (I610 0 31).toInt ∧ (I610 0 31).toInt ≤ 500; exact k613), (by show 0 ≤ (I610 0 33).toInt ∧ (I610 0 33).toInt ≤ 500; exact k614), (by show 0 ≤ (I610 0 34).toInt ∧ (I610 0 34).toInt ≤ 500; exact k615), (by show 0 ≤ (I610 0 35).toInt ∧ (I610 0 35).toInt ≤ 500; exact k616)⟩, ⟨(by show 0 ≤ (I610 0 36).toInt ∧ (I610 0 36).toInt ≤ 4; exact k617), (by show 0 ≤ (I610 0 42).toInt ∧ (I610 0 42).toInt ≤ 1; exact k618)⟩, ⟨(by show 0 ≤ (I610 0 47).toInt ∧ (I610 0 47).toInt ≤ 119; exact hI610md.1), (by show 0 ≤ (I610 0 39).toInt ∧ (I610 0 39).toInt ≤ 100; exact hI610md.2)⟩, (by show 0 ≤ (I610 0 40).toInt ∧ (I610 0 40).toInt ≤ 6199; exact k619), (by show 0 ≤ (I610 0 15).toInt ∧ (I610 0 15).toInt ≤ 6100; exact k620), (z_Nd_fr a602 fI610 (by decide)), (by show 0 ≤ (I610 0 35).toInt ∧ (I610 0 35).toInt ≤ (I610 0 34).toInt ∧ (I610 0 34).toInt ≤ (I610 0 33).toInt ∧ (I610 0 33).toInt ≤ 500 ∧ ((I610 0 36).toInt = 0 ∨ (I610 0 35).toInt + 1 ≤ (I610 0 34).toInt); first | omega | decide), f611, ⟨((Classical.em ((I610 0 42).toInt = 0)).elim (fun hw9 => Or.inr ⟨a1.toNatClampNeg + 2, by have w1 := z_fw_20 (a := va.toInt) (o := vo.toInt) (by omega); have w2 := z_fo_2n (a := va.toInt) (by omega); have w3 := z_fw_2n (a := 2) (o := vo.toInt) (by omega); have w4 := z_fo_2y (a := 2) (by omega); have w5 := z_fw_00 (a := 0) (o := -1) (by omega); have w6 := z_rk_2; have w7 := z_rk_0; exact z_PUSH (d := a1.toNatClampNeg) (w := 2) (a := 2) (o := vo.toInt) (s := 6) (wi := 0) hPS (fun i hi => ⟨by rw [eI600, z_up_n (by decide), fI578 26 i (z_wr_c (by decide)), fI557 26 i (z_wr_c (by decide)), eI550, z_up_n (by decide)], by rw [eI600, z_up_k (by omega), fI578 27 i (z_wr_c (by decide)), fI557 27 i (z_wr_c (by decide)), eI550, z_up_n (by decide)], by rw [eI600, z_up_n (by decide), fI578 28 i (z_wr_c (by decide)), fI557 28 i (z_wr_c (by decide)), eI550, z_up_n (by decide)], by rw [eI600, z_up_n (by decide), fI578 29 i (z_wr_c (by decide)), fI557 29 i (z_wr_c (by decide)), eI550, z_up_k (by omega)]⟩) (by rw [show I600 26 a1.toNatClampNeg = vw from (by rw [eI600, z_up_n (by decide), fI578 26 a1.toNatClampNeg (z_wr_c (by decide)), fI557 26 a1.toNatClampNeg (z_wr_c (by decide)), eI550, z_up_n (by decide)]; exact evw.symm)]; exact hvw) (by rw [show I600 27 a1.toNatClampNeg = 2 from (by rw [eI600, z_up_s])]; exact z_l2) (by rw [show I600 28 a1.toNatClampNeg = vo from (by rw [eI600, z_up_n (by decide), fI578 28 a1.toNatClampNeg (z_wr_c (by decide)), fI557 28 a1.toNatClampNeg (z_wr_c (by decide)), eI550, z_up_n (by decide)]; exact evo.symm)]) (by rw [show I600 29 a1.toNatClampNeg = 6 from (by rw [eI600, z_up_n (by decide), fI578 29 a1.toNatClampNeg (z_wr_c (by decide)), fI557 29 a1.toNatClampNeg (z_wr_c (by decide)), eI550, z_up_s])]; exact z_l6) (by unfold z_fv; omega) hwd (by rw [eI600, z_up_n (by decide)]; omega) h630 z_l0 (by omega) (by omega) (by omega) (by omega) (by omega) (by omega) (by omega) (by omega)⟩) Or.inl), (by have hz9 : zp_st gt gv (n0 : Int) (.inr (tq, (2, fa, fx, fs) :: FS, fo, fg, NN)) = .inr (tq + 2, (0, 0, -1, 0) :: (2, 2, fx, 6) :: FS, fo + 1, fg, NN) := (by first | (simp [zp_st, zp_op, zp_cm, zp_cb, (show fa = 0 by omega), (show ¬ gt tq = 400 by omega), ht304, ht536, ht540, ht546, ht570, ht596]; done) | (exfalso; omega)); rw [hz9]; exact hE631)⟩⟩
                · have z634 := z_l40
                  have ht635 : ¬ gt (tq + 1) = 40 := by omega
                  have hE636 : zm_E gt gv gp ge gh gm n0 gI I578 J580 (.inl (tq + 1)) := he594
                  have h637 := zm_E_L hE636
                  refine lv_aload_n hx hb dX12_atom_128 rfl (lv_at hl 0 rfl) ?_
                  refine z_get (T := TX12) (N := 96) (ci := 12) (i := 0) (v := .ref (ad 27)) hx hb hts zj_X12_atom_X12 hown hK hW rfl rfl 44 (by decide) (hts (.fieldLink RX12 94 "PetrolBoardModel" "at" "[I") (me_s (me_l (me_l (List.mem_of_getElem? (i := 0) rfl))))) (fun _ h => h) rfl dX12_atom_129 ?_
                  refine lv_iload_n hx hb dX12_atom_132 rfl (lv_at hl 1 rfl) ?_
                  refine lv_iconst (v := 2) hx hb dX12_atom_133 (by decide) ?_
                  refine z_iast (i := 27) hx hb hK hW hS rfl (z_ix rfl (by omega) (by omega)) dX12_atom_134 (fun H locs hz1 hW hS => ?_)
                  obtain ⟨I638, eI638⟩ : ∃ K : z_I, K = z_up I578 27 a1.toNatClampNeg 2 := ⟨_, rfl⟩
                  rw [← eI638] at hW
                  have f639 := z_fr_a f579 (show z_wa L_X12_atom_x 27 = true by decide) eI638
                  have a640 := z_Nd_n (z_Nd_fr (z_Nd_fr a552 fI557 (by decide)) fI578 (by decide)) (by decide) eI638
                  have hE641 : zm_E gt gv gp ge gh gm n0 gI I638 J580 (.inl (tq + 1)) := zm_E_w hE636 eI638 (by decide)
                  have h642 := zm_E_L hE641
                  refine lv_aload_n hx hb dX12_atom_135 rfl (lv_at hl 0 rfl) ?_
                  have r643 : 0 ≤ (I578 0 42).toInt ∧ (I578 0 42).toInt ≤ 1 := hI578mt.2
                  refine z_get (T := TX12) (N := 96) (ci := 12) (i := 0) (v := .int (I578 0 42)) hx hb hts zj_X12_atom_X12 hown hK hW rfl rfl 42 (by decide) (hts (.fieldLink RX12 294 "PetrolBoardModel" "isWrong" "Z") (me_s (me_l (me_l (List.mem_of_getElem? (i := 6) rfl))))) (fun _ h => h) (congrArg Value.int (by rw [eI638, z_up_n (by decide)])) dX12_atom_136 ?_
                  refine lv_if_ne (tgt := 311) hx hb dX12_atom_139 (by decide) (fun c644 => ?_) (fun c644 => (by have g := z_f_eq rfl z_l0 c644; omega))
                  have g645 := z_f_ne rfl z_l0 c644
                  exact z_vret hx hb hr hK hS (Nat.le_of_ble_eq_true rfl) (Nat.le_of_ble_eq_true rfl) hlocks dX12_atom_311 (shM, ad, I638, J580, PM ad) hW ⟨I638, J580, rfl, ⟨(by show 0 ≤ (I638 0 31).toInt ∧ (I638 0 31).toInt ≤ 500; rw [eI638, z_up_n (by decide)]; exact hI578mp.1), (by show 0 ≤ (I638 0 33).toInt ∧ (I638 0 33).toInt ≤ 500; rw [eI638, z_up_n (by decide)]; exact hI578mp.2.1), (by show 0 ≤ (I638 0 34).toInt ∧ (I638 0 34).toInt ≤ 500; rw [eI638, z_up_n (by decide)]; exact hI578mp.2.2.1), (by show 0 ≤ (I638 0 35).toInt ∧ (I638 0 35).toInt ≤ 500; rw [eI638, z_up_n (by decide)]; exact hI578mp.2.2.2)⟩, ⟨(by show 0 ≤ (I638 0 36).toInt ∧ (I638 0 36).toInt ≤ 4; rw [eI638, z_up_n (by decide)]; exact hI578mt.1), (by show 0 ≤ (I638 0 42).toInt ∧ (I638 0 42).toInt ≤ 1; rw [eI638, z_up_n (by decide)]; exact hI578mt.2)⟩, ⟨(by show 0 ≤ (I638 0 47).toInt ∧ (I638 0 47).toInt ≤ 119; rw [eI638, z_up_n (by decide)]; exact k581), (by show 0 ≤ (I638 0 39).toInt ∧ (I638 0 39).toInt ≤ 100; rw [eI638, z_up_n (by decide)]; exact k582)⟩, (by show 0 ≤ (I638 0 40).toInt ∧ (I638 0 40).toInt ≤ 6199; rw [eI638, z_up_n (by decide)]; exact k583), (by show 0 ≤ (I638 0 15).toInt ∧ (I638 0 15).toInt ≤ 6100; rw [eI638, z_up_n (by decide)]; exact k584), a640, (by have q0 : (I638 0 35) = (I578 0 35) := (by rw [eI638, z_up_n (by decide)]); have q1 : (I638 0 34) = (I578 0 34) := (by rw [eI638, z_up_n (by decide)]); have q2 : (I638 0 33) = (I578 0 33) := (by rw [eI638, z_up_n (by decide)]); have q3 : (I638 0 36) = (I578 0 36) := (by rw [eI638, z_up_n (by decide)]); show 0 ≤ (I638 0 35).toInt ∧ (I638 0 35).toInt ≤ (I638 0 34).toInt ∧ (I638 0 34).toInt ≤ (I638 0 33).toInt ∧ (I638 0 33).toInt ≤ 500 ∧ ((I638 0 36).toInt = 0 ∨ (I638 0 35).toInt + 1 ≤ (I638 0 34).toInt); rw [q0, q1, q2, q3]; first | omega | decide), f639, ⟨(Or.inl (by have q0 : (I638 0 42) = (I578 0 42) := (by rw [eI638, z_up_n (by decide)]); show ¬ (I638 0 42).toInt = 0; rw [q0]; omega)), (by have hz9 : zp_st gt gv (n0 : Int) (.inr (tq, (2, fa, fx, fs) :: FS, fo, fg, NN)) = .inl (tq + 1) := (by first | (simp [zp_st, zp_op, zp_cm, zp_cb, (show fa = 0 by omega), (show ¬ gt tq = 400 by omega), ht304, ht536, ht540, ht546, ht570, ht635]; done) | (exfalso; omega)); rw [hz9]; exact hE641)⟩⟩
              · have hE646 : zm_E gt gv gp ge gh gm n0 gI I557 J559 (.inl (tq)) := he571
                have h647 := zm_E_L hE646
                refine lv_aload_n hx hb dX12_atom_115 rfl (lv_at hl 0 rfl) ?_
                have r648 : 0 ≤ (I557 0 42).toInt ∧ (I557 0 42).toInt ≤ 1 := hI557mt.2
                refine z_get (T := TX12) (N := 96) (ci := 12) (i := 0) (v := .int (I557 0 42)) hx hb hts zj_X12_atom_X12 hown hK hW rfl rfl 42 (by decide) (hts (.fieldLink RX12 294 "PetrolBoardModel" "isWrong" "Z") (me_s (me_l (me_l (List.mem_of_getElem? (i := 6) rfl))))) (fun _ h => h) rfl dX12_atom_116 ?_
                refine lv_if_ne (tgt := 128) hx hb dX12_atom_119 (by decide) (fun c649 => ?_) (fun c649 => (by have g := z_f_eq rfl z_l0 c649; omega))
                have g650 := z_f_ne rfl z_l0 c649
                refine lv_aload_n hx hb dX12_atom_128 rfl (lv_at hl 0 rfl) ?_
                refine z_get (T := TX12) (N := 96) (ci := 12) (i := 0) (v := .ref (ad 27)) hx hb hts zj_X12_atom_X12 hown hK hW rfl rfl 44 (by decide) (hts (.fieldLink RX12 94 "PetrolBoardModel" "at" "[I") (me_s (me_l (me_l (List.mem_of_getElem? (i := 0) rfl))))) (fun _ h => h) rfl dX12_atom_129 ?_
                refine lv_iload_n hx hb dX12_atom_132 rfl (lv_at hl 1 rfl) ?_
                refine lv_iconst (v := 2) hx hb dX12_atom_133 (by decide) ?_
                refine z_iast (i := 27) hx hb hK hW hS rfl (z_ix rfl (by omega) (by omega)) dX12_atom_134 (fun H locs hz1 hW hS => ?_)
                obtain ⟨I651, eI651⟩ : ∃ K : z_I, K = z_up I557 27 a1.toNatClampNeg 2 := ⟨_, rfl⟩
                rw [← eI651] at hW
                have f652 := z_fr_a f558 (show z_wa L_X12_atom_x 27 = true by decide) eI651
                have a653 := z_Nd_n (z_Nd_fr a552 fI557 (by decide)) (by decide) eI651
                have hE654 : zm_E gt gv gp ge gh gm n0 gI I651 J559 (.inl (tq)) := zm_E_w hE646 eI651 (by decide)
                have h655 := zm_E_L hE654
                refine lv_aload_n hx hb dX12_atom_135 rfl (lv_at hl 0 rfl) ?_
                refine z_get (T := TX12) (N := 96) (ci := 12) (i := 0) (v := .int (I557 0 42)) hx hb hts zj_X12_atom_X12 hown hK hW rfl rfl 42 (by decide) (hts (.fieldLink RX12 294 "PetrolBoardModel" "isWrong" "Z") (me_s (me_l (me_l (List.mem_of_getElem? (i := 6) rfl))))) (fun _ h => h) (congrArg Value.int (by rw [eI651, z_up_n (by decide)])) dX12_atom_136 ?_
                refine lv_if_ne (tgt := 311) hx hb dX12_atom_139 (by decide) (fun c656 => ?_) (fun c656 => (by have g := z_f_eq rfl z_l0 c656; omega))
                have g657 := z_f_ne rfl z_l0 c656
                exact z_vret hx hb hr hK hS (Nat.le_of_ble_eq_true rfl) (Nat.le_of_ble_eq_true rfl) hlocks dX12_atom_311 (shM, ad, I651, J559, PM ad) hW ⟨I651, J559, rfl, ⟨(by show 0 ≤ (I651 0 31).toInt ∧ (I651 0 31).toInt ≤ 500; rw [eI651, z_up_n (by decide)]; exact hI557mp.1), (by show 0 ≤ (I651 0 33).toInt ∧ (I651 0 33).toInt ≤ 500; rw [eI651, z_up_n (by decide)]; exact hI557mp.2.1), (by show 0 ≤ (I651 0 34).toInt ∧ (I651 0 34).toInt ≤ 500; rw [eI651, z_up_n (by decide)]; exact hI557mp.2.2.1), (by show 0 ≤ (I651 0 35).toInt ∧ (I651 0 35).toInt ≤ 500; rw [eI651, z_up_n (by decide)]; exact hI557mp.2.2.2)⟩, ⟨(by show 0 ≤ (I651 0 36).toInt ∧ (I651 0 36).toInt ≤ 4; rw [eI651, z_up_n (by decide)]; exact hI557mt.1), (by show 0 ≤ (I651 0 42).toInt ∧ (I651 0 42).toInt ≤ 1; rw [eI651, z_up_n (by decide)]; exact hI557mt.2)⟩, ⟨(by show 0 ≤ (I651 0 47).toInt ∧ (I651 0 47).toInt ≤ 119; rw [eI651, z_up_n (by decide)]; exact hI557md.1), (by show 0 ≤ (I651 0 39).toInt ∧ (I651 0 39).toInt ≤ 100; rw [eI651, z_up_n (by decide)]; exact hI557md.2)⟩, (by show 0 ≤ (I651 0 40).toInt ∧ (I651 0 40).toInt ≤ 6199; rw [eI651, z_up_n (by decide)]; exact k560), (by show 0 ≤ (I651 0 15).toInt ∧ (I651 0 15).toInt ≤ 6100; rw [eI651, z_up_n (by decide)]; exact k561), a653, (by have q0 : (I651 0 35) = (I557 0 35) := (by rw [eI651, z_up_n (by decide)]); have q1 : (I651 0 34) = (I557 0 34) := (by rw [eI651, z_up_n (by decide)]); have q2 : (I651 0 33) = (I557 0 33) := (by rw [eI651, z_up_n (by decide)]); have q3 : (I651 0 36) = (I557 0 36) := (by rw [eI651, z_up_n (by decide)]); show 0 ≤ (I651 0 35).toInt ∧ (I651 0 35).toInt ≤ (I651 0 34).toInt ∧ (I651 0 34).toInt ≤ (I651 0 33).toInt ∧ (I651 0 33).toInt ≤ 500 ∧ ((I651 0 36).toInt = 0 ∨ (I651 0 35).toInt + 1 ≤ (I651 0 34).toInt); rw [q0, q1, q2, q3]; first | omega | decide), f652, ⟨(Or.inl (by have q0 : (I651 0 42) = (I557 0 42) := (by rw [eI651, z_up_n (by decide)]); show ¬ (I651 0 42).toInt = 0; rw [q0]; omega)), (by have hz9 : zp_st gt gv (n0 : Int) (.inr (tq, (2, fa, fx, fs) :: FS, fo, fg, NN)) = .inl (tq) := (by first | (simp [zp_st, zp_op, zp_cm, zp_cb, (show fa = 0 by omega), (show ¬ gt tq = 400 by omega), ht304, ht536, ht540, ht546, ht570]; done) | (exfalso; omega)); rw [hz9]; exact hE654)⟩⟩
            · have ht658 : ¬ gt (tq) = 312 := fun q => h544 (by have q9 := (zm_E_wo (i := 12) (by decide) hE).mpr q; exact ⟨q9.1, q9.2.trans (show (6476969 : Int64).toInt = zp_K.getD 12 0 by decide).symm⟩)
              refine lv_if_eq (tgt := 108) hx hb dX12_atom_100 (by decide) (fun c659 => ?_) (fun c659 => absurd (by decide) c659)
              refine lv_bipush (v := 7) hx hb dX12_atom_108 (by decide) ?_
              refine z_iast (i := 29) hx hb hK hW hS rfl (z_ix rfl (by omega) (by omega)) dX12_atom_110 (fun H locs hz1 hW hS => ?_)
              obtain ⟨I660, eI660⟩ : ∃ K : z_I, K = z_up I 29 a1.toNatClampNeg 7 := ⟨_, rfl⟩
              rw [← eI660] at hW
              have f661 := z_fr_a z_fr_0 (show z_wa L_X12_atom_x 29 = true by decide) eI660
              have a662 := z_Nd_n hNd (by decide) eI660
              have z663 := z_l7
              have hE664 : zm_E gt gv gp ge gh gm n0 gI I660 J (.inr (tq, (2, fa, fx, 7) :: FS, fo, fg, NN)) := zm_E_top hE eI660 hdk (Or.inr (Or.inr ⟨rfl, by omega, rfl, rfl, rfl⟩))
              have h665 := zm_E_W hE664
              have h666 := zm_E_D hE664
              refine lv_aload_n hx hb dX12_atom_111 rfl (lv_at hl 0 rfl) ?_
              refine z_cv hW hS hA (va_runV (As := []) (rest := []) ⟨hx, hb, hml, hown, hts⟩ (sx_X12_opens_x l G ad I660 J ⟨(by show 0 ≤ (I660 0 31).toInt ∧ (I660 0 31).toInt ≤ 500; rw [eI660, z_up_n (by decide)]; exact hmp.1), (by show 0 ≤ (I660 0 33).toInt ∧ (I660 0 33).toInt ≤ 500; rw [eI660, z_up_n (by decide)]; exact hmp.2.1), (by show 0 ≤ (I660 0 34).toInt ∧ (I660 0 34).toInt ≤ 500; rw [eI660, z_up_n (by decide)]; exact hmp.2.2.1), (by show 0 ≤ (I660 0 35).toInt ∧ (I660 0 35).toInt ≤ 500; rw [eI660, z_up_n (by decide)]; exact hmp.2.2.2)⟩ ⟨(by show 0 ≤ (I660 0 36).toInt ∧ (I660 0 36).toInt ≤ 4; rw [eI660, z_up_n (by decide)]; exact hmt.1), (by show 0 ≤ (I660 0 42).toInt ∧ (I660 0 42).toInt ≤ 1; rw [eI660, z_up_n (by decide)]; exact hmt.2)⟩ (by have q0 : (I660 0 35) = (I 0 35) := (by rw [eI660, z_up_n (by decide)]); have q1 : (I660 0 34) = (I 0 34) := (by rw [eI660, z_up_n (by decide)]); have q2 : (I660 0 33) = (I 0 33) := (by rw [eI660, z_up_n (by decide)]); have q3 : (I660 0 36) = (I 0 36) := (by rw [eI660, z_up_n (by decide)]); show 0 ≤ (I660 0 35).toInt ∧ (I660 0 35).toInt ≤ (I660 0 34).toInt ∧ (I660 0 34).toInt ≤ (I660 0 33).toInt ∧ (I660 0 33).toInt ≤ 500 ∧ ((I660 0 36).toInt = 0 ∨ (I660 0 35).toInt + 1 ≤ (I660 0 34).toInt); rw [q0, q1, q2, q3]; first | omega | decide) ⟨(by show 0 ≤ (I660 0 47).toInt ∧ (I660 0 47).toInt ≤ 119; rw [eI660, z_up_n (by decide)]; exact hmd.1), (by show 0 ≤ (I660 0 39).toInt ∧ (I660 0 39).toInt ≤ 100; rw [eI660, z_up_n (by decide)]; exact hmd.2)⟩ gt gv gp ge gh gm n0 gI (tq) ((2, fa, fx, 7) :: FS) (fo) (fg) (NN) (by have q0 : (I660 0 39) = (I 0 39) := (by rw [eI660, z_up_n (by decide)]); show (I660 0 39).toInt ≤ 9; rw [q0]; omega) hE664 hSM (by omega) _) (cwV 0 hts gX12_atom_X12_opens rfl rfl rfl (by decide +kernel) ⟨Nat.le_of_ble_eq_true rfl, Nat.le_of_ble_eq_true rfl⟩) (z_preV (i := 0) hK hW rfl rfl) rfl rfl hl.1 rfl (lv_room (Nat.le_of_ble_eq_true rfl)) dX12_atom_112 ⟨Nat.le_of_ble_eq_true rfl, Nat.le_of_ble_eq_true rfl⟩) (fun u1 H locs hp hW hS => ?_)
              obtain ⟨I667, J669, e9, hI667mp, hI667mt, hI667rp, hI667md, fI667, hp⟩ := hp
              rw [e9] at hW
              have f668 := z_fr_sub (L := L_X12_atom_x) f661 fI667 (by decide)
              have k670 : 0 ≤ (I667 0 40).toInt ∧ (I667 0 40).toInt ≤ 6199 := by rw [fI667 0 40 (by decide)]; exact (by show 0 ≤ (I660 0 40).toInt ∧ (I660 0 40).toInt ≤ 6199; rw [eI660, z_up_n (by decide)]; exact hmg)
              have k671 : 0 ≤ (I667 0 15).toInt ∧ (I667 0 15).toInt ≤ 6100 := by rw [fI667 0 15 (by decide)]; exact (by show 0 ≤ (I660 0 15).toInt ∧ (I660 0 15).toInt ≤ 6100; rw [eI660, z_up_n (by decide)]; exact hmn)
              have k672 : 0 ≤ (I667 0 35).toInt ∧ (I667 0 35).toInt ≤ (I667 0 34).toInt ∧ (I667 0 34).toInt ≤ (I667 0 33).toInt ∧ (I667 0 33).toInt ≤ 500 ∧ ((I667 0 36).toInt = 0 ∨ (I667 0 35).toInt + 1 ≤ (I667 0 34).toInt) := hI667rp
              have k673 : (I667 0 47).toInt = (I 0 47).toInt := by rw [fI667 0 47 (by decide), eI660, z_up_n (by decide)]
              have k674 : (I667 0 15).toInt = (I 0 15).toInt := by rw [fI667 0 15 (by decide), eI660, z_up_n (by decide)]
              have k675 : (I667 0 40).toInt = (I 0 40).toInt := by rw [fI667 0 40 (by decide), eI660, z_up_n (by decide)]
              obtain ⟨h676, h677, h678, h679⟩ := hp
              rw [show (I660 0 39) = (I 0 39) from by rw [eI660, z_up_n (by decide)]] at h676
              rw [show (I660 0 34) = (I 0 34) from by rw [eI660, z_up_n (by decide)]] at h677
              rw [show (I660 0 39) = (I 0 39) from by rw [eI660, z_up_n (by decide)]] at h678
              rcases h679 with ⟨ht680, he681⟩ | ⟨ht680, he681⟩
              · have hE682 : zm_E gt gv gp ge gh gm n0 gI I667 J669 (.inr (tq + 1, (2, fa, fx, 7) :: FS, fo + 1, fg, NN)) := he681
                have h683 := zm_E_W hE682
                have h684 := zm_E_D hE682
                refine lv_aload_n hx hb dX12_atom_115 rfl (lv_at hl 0 rfl) ?_
                have r685 : 0 ≤ (I667 0 42).toInt ∧ (I667 0 42).toInt ≤ 1 := hI667mt.2
                refine z_get (T := TX12) (N := 96) (ci := 12) (i := 0) (v := .int (I667 0 42)) hx hb hts zj_X12_atom_X12 hown hK hW rfl rfl 42 (by decide) (hts (.fieldLink RX12 294 "PetrolBoardModel" "isWrong" "Z") (me_s (me_l (me_l (List.mem_of_getElem? (i := 6) rfl))))) (fun _ h => h) rfl dX12_atom_116 ?_
                refine lv_if_ne (tgt := 128) hx hb dX12_atom_119 (by decide) (fun c686 => (by have g := z_f_ne rfl z_l0 c686; omega)) (fun c686 => ?_)
                have g687 := z_f_eq rfl z_l0 c686
                refine lv_aload_n hx hb dX12_atom_122 rfl (lv_at hl 0 rfl) ?_
                refine lv_bipush (v := 40) hx hb dX12_atom_123 (by decide) ?_
                refine z_cv hW hS hA (va_runV (As := [.int 40]) (rest := []) ⟨hx, hb, hml, hown, hts⟩ (sx_X12_must_x l G ad I667 J669 ⟨(by show 0 ≤ (I667 0 31).toInt ∧ (I667 0 31).toInt ≤ 500; exact hI667mp.1), (by show 0 ≤ (I667 0 33).toInt ∧ (I667 0 33).toInt ≤ 500; exact hI667mp.2.1), (by show 0 ≤ (I667 0 34).toInt ∧ (I667 0 34).toInt ≤ 500; exact hI667mp.2.2.1), (by show 0 ≤ (I667 0 35).toInt ∧ (I667 0 35).toInt ≤ 500; exact hI667mp.2.2.2)⟩ ⟨(by show 0 ≤ (I667 0 36).toInt ∧ (I667 0 36).toInt ≤ 4; exact hI667mt.1), (by show 0 ≤ (I667 0 42).toInt ∧ (I667 0 42).toInt ≤ 1; exact hI667mt.2)⟩ (by show 0 ≤ (I667 0 35).toInt ∧ (I667 0 35).toInt ≤ (I667 0 34).toInt ∧ (I667 0 34).toInt ≤ (I667 0 33).toInt ∧ (I667 0 33).toInt ≤ 500 ∧ ((I667 0 36).toInt = 0 ∨ (I667 0 35).toInt + 1 ≤ (I667 0 34).toInt); first | omega | decide) gt gv gp ge gh gm n0 gI (tq + 1) ((2, fa, fx, 7) :: FS) (fo + 1) (fg) (NN) 40 hE682 hSM (show zp_sg (40 : Int32).toInt by have := z_l40; unfold zp_sg; omega) _) (cwV 1 hts gX12_atom_X12_must rfl rfl rfl (by decide +kernel) ⟨Nat.le_of_ble_eq_true rfl, Nat.le_of_ble_eq_true rfl⟩) (z_preV (i := 0) hK hW rfl rfl) rfl rfl hl.1 rfl (lv_room (Nat.le_of_ble_eq_true rfl)) dX12_atom_125 ⟨Nat.le_of_ble_eq_true rfl, Nat.le_of_ble_eq_true rfl⟩) (fun u1 H locs hp hW hS => ?_)
                obtain ⟨I688, J690, e9, hI688mp, hI688mt, hI688rp, fI688, hp⟩ := hp
                rw [e9] at hW
                have f689 := z_fr_sub (L := L_X12_atom_x) f668 fI688 (by decide)
                have k691 : 0 ≤ (I688 0 47).toInt ∧ (I688 0 47).toInt ≤ 119 := by rw [fI688 0 47 (by decide)]; exact (by show 0 ≤ (I667 0 47).toInt ∧ (I667 0 47).toInt ≤ 119; exact hI667md.1)
                have k692 : 0 ≤ (I688 0 39).toInt ∧ (I688 0 39).toInt ≤ 100 := by rw [fI688 0 39 (by decide)]; exact (by show 0 ≤ (I667 0 39).toInt ∧ (I667 0 39).toInt ≤ 100; exact hI667md.2)
                have k693 : 0 ≤ (I688 0 40).toInt ∧ (I688 0 40).toInt ≤ 6199 := by rw [fI688 0 40 (by decide)]; exact (by show 0 ≤ (I667 0 40).toInt ∧ (I667 0 40).toInt ≤ 6199; exact k670)
                have k694 : 0 ≤ (I688 0 15).toInt ∧ (I688 0 15).toInt ≤ 6100 := by rw [fI688 0 15 (by decide)]; exact (by show 0 ≤ (I667 0 15).toInt ∧ (I667 0 15).toInt ≤ 6100; exact k671)
                have k695 : 0 ≤ (I688 0 35).toInt ∧ (I688 0 35).toInt ≤ (I688 0 34).toInt ∧ (I688 0 34).toInt ≤ (I688 0 33).toInt ∧ (I688 0 33).toInt ≤ 500 ∧ ((I688 0 36).toInt = 0 ∨ (I688 0 35).toInt + 1 ≤ (I688 0 34).toInt) := hI688rp
                have k696 : (I688 0 47).toInt = (I667 0 47).toInt := by rw [fI688 0 47 (by decide)]
                have k697 : (I688 0 39).toInt = (I667 0 39).toInt := by rw [fI688 0 39 (by decide)]
                have k698 : (I688 0 15).toInt = (I667 0 15).toInt := by rw [fI688 0 15 (by decide)]
                have k699 : (I688 0 40).toInt = (I667 0 40).toInt := by rw [fI688 0 40 (by decide)]
                obtain ⟨h701, h700⟩ := hp
                have h702 := h701
                rcases h700 with ⟨ht703, he704⟩ | ⟨ht703, he704⟩
                · have z705 := z_l40
                  have ht706 : gt (tq + 1) = 40 := by omega
                  have hE707 : zm_E gt gv gp ge gh gm n0 gI I688 J690 (.inr (tq + 2, (2, fa, fx, 7) :: FS, fo + 1, fg, NN)) := he704
                  have h708 := zm_E_W hE707
                  have h709 := zm_E_D hE707
                  refine lv_aload_n hx hb dX12_atom_128 rfl (lv_at hl 0 rfl) ?_
                  refine z_get (T := TX12) (N := 96) (ci := 12) (i := 0) (v := .ref (ad 27)) hx hb hts zj_X12_atom_X12 hown hK hW rfl rfl 44 (by decide) (hts (.fieldLink RX12 94 "PetrolBoardModel" "at" "[I") (me_s (me_l (me_l (List.mem_of_getElem? (i := 0) rfl))))) (fun _ h => h) rfl dX12_atom_129 ?_
                  refine lv_iload_n hx hb dX12_atom_132 rfl (lv_at hl 1 rfl) ?_
                  refine lv_iconst (v := 2) hx hb dX12_atom_133 (by decide) ?_
                  refine z_iast (i := 27) hx hb hK hW hS rfl (z_ix rfl (by omega) (by omega)) dX12_atom_134 (fun H locs hz1 hW hS => ?_)
                  obtain ⟨I710, eI710⟩ : ∃ K : z_I, K = z_up I688 27 a1.toNatClampNeg 2 := ⟨_, rfl⟩
                  rw [← eI710] at hW
                  have f711 := z_fr_a f689 (show z_wa L_X12_atom_x 27 = true by decide) eI710
                  have a712 := z_Nd_n (z_Nd_fr (z_Nd_fr a662 fI667 (by decide)) fI688 (by decide)) (by decide) eI710
                  have z713 := z_l2
                  have hE714 : zm_E gt gv gp ge gh gm n0 gI I710 J690 (.inr (tq + 2, (2, 2, fx, 7) :: FS, fo + 1, fg, NN)) := zm_E_top hE707 eI710 hdk (Or.inl ⟨rfl, by omega, rfl, rfl, rfl⟩)
                  have h715 := zm_E_W hE714
                  have h716 := zm_E_D hE714
                  refine lv_aload_n hx hb dX12_atom_135 rfl (lv_at hl 0 rfl) ?_
                  have r717 : 0 ≤ (I688 0 42).toInt ∧ (I688 0 42).toInt ≤ 1 := hI688mt.2
                  refine z_get (T := TX12) (N := 96) (ci := 12) (i := 0) (v := .int (I688 0 42)) hx hb hts zj_X12_atom_X12 hown hK hW rfl rfl 42 (by decide) (hts (.fieldLink RX12 294 "PetrolBoardModel" "isWrong" "Z") (me_s (me_l (me_l (List.mem_of_getElem? (i := 6) rfl))))) (fun _ h => h) (congrArg Value.int (by rw [eI710, z_up_n (by decide)])) dX12_atom_136 ?_
                  refine lv_if_ne (tgt := 311) hx hb dX12_atom_139 (by decide) (fun c718 => (by have g := z_f_ne rfl z_l0 c718; omega)) (fun c718 => ?_)
                  have g719 := z_f_eq rfl z_l0 c718
                  refine lv_aload_n hx hb dX12_atom_142 rfl (lv_at hl 0 rfl) ?_
                  refine lv_iconst (v := 0) hx hb dX12_atom_143 (by decide) ?_
                  refine z_cv hW hS hA (va_runV (As := [.int 0]) (rest := []) ⟨hx, hb, hml, hown, hts⟩ (sx_X12_begin_x l G ad I710 J690 ⟨(by show 0 ≤ (I710 0 47).toInt ∧ (I710 0 47).toInt ≤ 119; rw [eI710, z_up_n (by decide)]; exact k691), (by show 0 ≤ (I710 0 39).toInt ∧ (I710 0 39).toInt ≤ 100; rw [eI710, z_up_n (by decide)]; exact k692)⟩ 0 (by have q0 : (I710 0 47) = (I688 0 47) := (by rw [eI710, z_up_n (by decide)]); show (I710 0 47).toInt ≤ 118; rw [q0]; omega) _) (cwV 1 hts gX12_atom_X12_begin rfl rfl rfl (by decide +kernel) ⟨Nat.le_of_ble_eq_true rfl, Nat.le_of_ble_eq_true rfl⟩) (z_preV (i := 0) hK hW rfl rfl) rfl rfl hl.1 rfl (lv_room (Nat.le_of_ble_eq_true rfl)) dX12_atom_144 ⟨Nat.le_of_ble_eq_true rfl, Nat.le_of_ble_eq_true rfl⟩) (fun u1 H locs hp hW hS => ?_)
                  obtain ⟨I720, J722, e9, hI720md, fI720, hp⟩ := hp
                  rw [e9] at hW
                  have f721 := z_fr_sub (L := L_X12_atom_x) f711 fI720 (by decide)
                  have k723 : 0 ≤ (I720 0 31).toInt ∧ (I720 0 31).toInt ≤ 500 := by rw [fI720 0 31 (by decide)]; exact (by show 0 ≤ (I710 0 31).toInt ∧ (I710 0 31).toInt ≤ 500; rw [eI710, z_up_n (by decide)]; exact hI688mp.1)
                  have k724 : 0 ≤ (I720 0 33).toInt ∧ (I720 0 33).toInt ≤ 500 := by rw [fI720 0 33 (by decide)]; exact (by show 0 ≤ (I710 0 33).toInt ∧ (I710 0 33).toInt ≤ 500; rw [eI710, z_up_n (by decide)]; exact hI688mp.2.1)
                  have k725 : 0 ≤ (I720 0 34).toInt ∧ (I720 0 34).toInt ≤ 500 := by rw [fI720 0 34 (by decide)]; exact (by show 0 ≤ (I710 0 34).toInt ∧ (I710 0 34).toInt ≤ 500; rw [eI710, z_up_n (by decide)]; exact hI688mp.2.2.1)
                  have k726 : 0 ≤ (I720 0 35).toInt ∧ (I720 0 35).toInt ≤ 500 := by rw [fI720 0 35 (by decide)]; exact (by show 0 ≤ (I710 0 35).toInt ∧ (I710 0 35).toInt ≤ 500; rw [eI710, z_up_n (by decide)]; exact hI688mp.2.2.2)
                  have k727 : 0 ≤ (I720 0 36).toInt ∧ (I720 0 36).toInt ≤ 4 := by rw [fI720 0 36 (by decide)]; exact (by show 0 ≤ (I710 0 36).toInt ∧ (I710 0 36).toInt ≤ 4; rw [eI710, z_up_n (by decide)]; exact hI688mt.1)
                  have k728 : 0 ≤ (I720 0 42).toInt ∧ (I720 0 42).toInt ≤ 1 := by rw [fI720 0 42 (by decide)]; exact (by show 0 ≤ (I710 0 42).toInt ∧ (I710 0 42).toInt ≤ 1; rw [eI710, z_up_n (by decide)]; exact hI688mt.2)
                  have k729 : 0 ≤ (I720 0 40).toInt ∧ (I720 0 40).toInt ≤ 6199 := by rw [fI720 0 40 (by decide)]; exact (by show 0 ≤ (I710 0 40).toInt ∧ (I710 0 40).toInt ≤ 6199; rw [eI710, z_up_n (by decide)]; exact k693)
                  have k730 : 0 ≤ (I720 0 15).toInt ∧ (I720 0 15).toInt ≤ 6100 := by rw [fI720 0 15 (by decide)]; exact (by show 0 ≤ (I710 0 15).toInt ∧ (I710 0 15).toInt ≤ 6100; rw [eI710, z_up_n (by decide)]; exact k694)
                  have k731 : 0 ≤ (I720 0 35).toInt ∧ (I720 0 35).toInt ≤ (I720 0 34).toInt ∧ (I720 0 34).toInt ≤ (I720 0 33).toInt ∧ (I720 0 33).toInt ≤ 500 ∧ ((I720 0 36).toInt = 0 ∨ (I720 0 35).toInt + 1 ≤ (I720 0 34).toInt) := (by have q0 : (I720 0 35) = (I688 0 35) := (by rw [fI720 0 35 (by decide), eI710, z_up_n (by decide)]); have q1 : (I720 0 34) = (I688 0 34) := (by rw [fI720 0 34 (by decide), eI710, z_up_n (by decide)]); have q2 : (I720 0 33) = (I688 0 33) := (by rw [fI720 0 33 (by decide), eI710, z_up_n (by decide)]); have q3 : (I720 0 36) = (I688 0 36) := (by rw [fI720 0 36 (by decide), eI710, z_up_n (by decide)]); show 0 ≤ (I720 0 35).toInt ∧ (I720 0 35).toInt ≤ (I720 0 34).toInt ∧ (I720 0 34).toInt ≤ (I720 0 33).toInt ∧ (I720 0 33).toInt ≤ 500 ∧ ((I720 0 36).toInt = 0 ∨ (I720 0 35).toInt + 1 ≤ (I720 0 34).toInt); rw [q0, q1, q2, q3]; first | omega | decide)
                  have k732 : (I720 0 35).toInt = (I688 0 35).toInt := by rw [fI720 0 35 (by decide), eI710, z_up_n (by decide)]
                  have k733 : (I720 0 34).toInt = (I688 0 34).toInt := by rw [fI720 0 34 (by decide), eI710, z_up_n (by decide)]
                  have k734 : (I720 0 36).toInt = (I688 0 36).toInt := by rw [fI720 0 36 (by decide), eI710, z_up_n (by decide)]
                  have k735 : (I720 0 42).toInt = (I688 0 42).toInt := by rw [fI720 0 42 (by decide), eI710, z_up_n (by decide)]
                  have k736 : (I720 0 39).toInt = (I688 0 39).toInt := by rw [fI720 0 39 (by decide), eI710, z_up_n (by decide)]
                  have k737 : (I720 0 15).toInt = (I688 0 15).toInt := by rw [fI720 0 15 (by decide), eI710, z_up_n (by decide)]
                  have k738 : (I720 0 40).toInt = (I688 0 40).toInt := by rw [fI720 0 40 (by decide), eI710, z_up_n (by decide)]
                  obtain ⟨hp, hJ739⟩ := hp
                  have h740 := hp
                  have hE741 : zm_E gt gv gp ge gh gm n0 gI I720 J722 (.inr (tq + 2, (0, 0, -1, 0) :: (2, 2, fx, 7) :: FS, fo + 1, fg, NN)) := zm_E_begin hE714 h740 z_l0 fI720 (by decide) hJ739
                  have h742 := zm_E_W hE741
                  have h743 := zm_E_D hE741
                  refine lv_goto (tgt := 311) hx hb dX12_atom_147 (by decide) ?_
                  exact z_vret hx hb hr hK hS (Nat.le_of_ble_eq_true rfl) (Nat.le_of_ble_eq_true rfl) hlocks dX12_atom_311 (shM, ad, I720, J722, PM ad) hW ⟨I720, J722, rfl, ⟨(by show 0 ≤ (I720 0 31).toInt ∧ (I720 0 31).toInt ≤ 500; exact k723), (by show 0 ≤ (I720 0 33).toInt ∧ (I720 0 33).toInt ≤ 500; exact k724), (by show 0 ≤ (I720 0 34).toInt ∧ (I720 0 34).toInt ≤ 500; exact k725), (by show 0 ≤ (I720 0 35).toInt ∧ (I720 0 35).toInt ≤ 500; exact k726)⟩, ⟨(by show 0 ≤ (I720 0 36).toInt ∧ (I720 0 36).toInt ≤ 4; exact k727), (by show 0 ≤ (I720 0 42).toInt ∧ (I720 0 42).toInt ≤ 1; exact k728)⟩, ⟨(by show 0 ≤ (I720 0 47).toInt ∧ (I720 0 47).toInt ≤ 119; exact hI720md.1), (by show 0 ≤ (I720 0 39).toInt ∧ (I720 0 39).toInt ≤ 100; exact hI720md.2)⟩, (by show 0 ≤ (I720 0 40).toInt ∧ (I720 0 40).toInt ≤ 6199; exact k729), (by show 0 ≤ (I720 0 15).toInt ∧ (I720 0 15).toInt ≤ 6100; exact k730), (z_Nd_fr a712 fI720 (by decide)), (by show 0 ≤ (I720 0 35).toInt ∧ (I720 0 35).toInt ≤ (I720 0 34).toInt ∧ (I720 0 34).toInt ≤ (I720 0 33).toInt ∧ (I720 0 33).toInt ≤ 500 ∧ ((I720 0 36).toInt = 0 ∨ (I720 0 35).toInt + 1 ≤ (I720 0 34).toInt); first | omega | decide), f721, ⟨((Classical.em ((I720 0 42).toInt = 0)).elim (fun hw9 => Or.inr ⟨a1.toNatClampNeg + 2, by have w1 := z_fw_20 (a := va.toInt) (o := vo.toInt) (by omega); have w2 := z_fo_2n (a := va.toInt) (by omega); have w3 := z_fw_2n (a := 2) (o := vo.toInt) (by omega); have w4 := z_fo_2y (a := 2) (by omega); have w5 := z_fw_00 (a := 0) (o := -1) (by omega); have w6 := z_rk_2; have w7 := z_rk_0; exact z_PUSH (d := a1.toNatClampNeg) (w := 2) (a := 2) (o := vo.toInt) (s := 7) (wi := 0) hPS (fun i hi => ⟨by rw [eI710, z_up_n (by decide), fI688 26 i (z_wr_c (by decide)), fI667 26 i (z_wr_c (by decide)), eI660, z_up_n (by decide)], by rw [eI710, z_up_k (by omega), fI688 27 i (z_wr_c (by decide)), fI667 27 i (z_wr_c (by decide)), eI660, z_up_n (by decide)], by rw [eI710, z_up_n (by decide), fI688 28 i (z_wr_c (by decide)), fI667 28 i (z_wr_c (by decide)), eI660, z_up_n (by decide)], by rw [eI710, z_up_n (by decide), fI688 29 i (z_wr_c (by decide)), fI667 29 i (z_wr_c (by decide)), eI660, z_up_k (by omega)]⟩) (by rw [show I710 26 a1.toNatClampNeg = vw from (by rw [eI710, z_up_n (by decide), fI688 26 a1.toNatClampNeg (z_wr_c (by decide)), fI667 26 a1.toNatClampNeg (z_wr_c (by decide)), eI660, z_up_n (by decide)]; exact evw.symm)]; exact hvw) (by rw [show I710 27 a1.toNatClampNeg = 2 from (by rw [eI710, z_up_s])]; exact z_l2) (by rw [show I710 28 a1.toNatClampNeg = vo from (by rw [eI710, z_up_n (by decide), fI688 28 a1.toNatClampNeg (z_wr_c (by decide)), fI667 28 a1.toNatClampNeg (z_wr_c (by decide)), eI660, z_up_n (by decide)]; exact evo.symm)]) (by rw [show I710 29 a1.toNatClampNeg = 7 from (by rw [eI710, z_up_n (by decide), fI688 29 a1.toNatClampNeg (z_wr_c (by decide)), fI667 29 a1.toNatClampNeg (z_wr_c (by decide)), eI660, z_up_s])]; exact z_l7) (by unfold z_fv; omega) hwd (by rw [eI710, z_up_n (by decide)]; omega) h740 z_l0 (by omega) (by omega) (by omega) (by omega) (by omega) (by omega) (by omega) (by omega)⟩) Or.inl), (by have hz9 : zp_st gt gv (n0 : Int) (.inr (tq, (2, fa, fx, fs) :: FS, fo, fg, NN)) = .inr (tq + 2, (0, 0, -1, 0) :: (2, 2, fx, 7) :: FS, fo + 1, fg, NN) := (by first | (simp [zp_st, zp_op, zp_cm, zp_cb, (show fa = 0 by omega), (show ¬ gt tq = 400 by omega), ht304, ht536, ht540, ht658, ht680, ht706]; done) | (exfalso; omega)); rw [hz9]; exact hE741)⟩⟩
                · have z744 := z_l40
                  have ht745 : ¬ gt (tq + 1) = 40 := by omega
                  have hE746 : zm_E gt gv gp ge gh gm n0 gI I688 J690 (.inl (tq + 1)) := he704
                  have h747 := zm_E_L hE746
                  refine lv_aload_n hx hb dX12_atom_128 rfl (lv_at hl 0 rfl) ?_
                  refine z_get (T := TX12) (N := 96) (ci := 12) (i := 0) (v := .ref (ad 27)) hx hb hts zj_X12_atom_X12 hown hK hW rfl rfl 44 (by decide) (hts (.fieldLink RX12 94 "PetrolBoardModel" "at" "[I") (me_s (me_l (me_l (List.mem_of_getElem? (i := 0) rfl))))) (fun _ h => h) rfl dX12_atom_129 ?_
                  refine lv_iload_n hx hb dX12_atom_132 rfl (lv_at hl 1 rfl) ?_
                  refine lv_iconst (v := 2) hx hb dX12_atom_133 (by decide) ?_
                  refine z_iast (i := 27) hx hb hK hW hS rfl (z_ix rfl (by omega) (by omega)) dX12_atom_134 (fun H locs hz1 hW hS => ?_)
                  obtain ⟨I748, eI748⟩ : ∃ K : z_I, K = z_up I688 27 a1.toNatClampNeg 2 := ⟨_, rfl⟩
                  rw [← eI748] at hW
                  have f749 := z_fr_a f689 (show z_wa L_X12_atom_x 27 = true by decide) eI748
                  have a750 := z_Nd_n (z_Nd_fr (z_Nd_fr a662 fI667 (by decide)) fI688 (by decide)) (by decide) eI748
                  have hE751 : zm_E gt gv gp ge gh gm n0 gI I748 J690 (.inl (tq + 1)) := zm_E_w hE746 eI748 (by decide)
                  have h752 := zm_E_L hE751
                  refine lv_aload_n hx hb dX12_atom_135 rfl (lv_at hl 0 rfl) ?_
                  have r753 : 0 ≤ (I688 0 42).toInt ∧ (I688 0 42).toInt ≤ 1 := hI688mt.2
                  refine z_get (T := TX12) (N := 96) (ci := 12) (i := 0) (v := .int (I688 0 42)) hx hb hts zj_X12_atom_X12 hown hK hW rfl rfl 42 (by decide) (hts (.fieldLink RX12 294 "PetrolBoardModel" "isWrong" "Z") (me_s (me_l (me_l (List.mem_of_getElem? (i := 6) rfl))))) (fun _ h => h) (congrArg Value.int (by rw [eI748, z_up_n (by decide)])) dX12_atom_136 ?_
                  refine lv_if_ne (tgt := 311) hx hb dX12_atom_139 (by decide) (fun c754 => ?_) (fun c754 => (by have g := z_f_eq rfl z_l0 c754; omega))
                  have g755 := z_f_ne rfl z_l0 c754
                  exact z_vret hx hb hr hK hS (Nat.le_of_ble_eq_true rfl) (Nat.le_of_ble_eq_true rfl) hlocks dX12_atom_311 (shM, ad, I748, J690, PM ad) hW ⟨I748, J690, rfl, ⟨(by show 0 ≤ (I748 0 31).toInt ∧ (I748 0 31).toInt ≤ 500; rw [eI748, z_up_n (by decide)]; exact hI688mp.1), (by show 0 ≤ (I748 0 33).toInt ∧ (I748 0 33).toInt ≤ 500; rw [eI748, z_up_n (by decide)]; exact hI688mp.2.1), (by show 0 ≤ (I748 0 34).toInt ∧ (I748 0 34).toInt ≤ 500; rw [eI748, z_up_n (by decide)]; exact hI688mp.2.2.1), (by show 0 ≤ (I748 0 35).toInt ∧ (I748 0 35).toInt ≤ 500; rw [eI748, z_up_n (by decide)]; exact hI688mp.2.2.2)⟩, ⟨(by show 0 ≤ (I748 0 36).toInt ∧ (I748 0 36).toInt ≤ 4; rw [eI748, z_up_n (by decide)]; exact hI688mt.1), (by show 0 ≤ (I748 0 42).toInt ∧ (I748 0 42).toInt ≤ 1; rw [eI748, z_up_n (by decide)]; exact hI688mt.2)⟩, ⟨(by show 0 ≤ (I748 0 47).toInt ∧ (I748 0 47).toInt ≤ 119; rw [eI748, z_up_n (by decide)]; exact k691), (by show 0 ≤ (I748 0 39).toInt ∧ (I748 0 39).toInt ≤ 100; rw [eI748, z_up_n (by decide)]; exact k692)⟩, (by show 0 ≤ (I748 0 40).toInt ∧ (I748 0 40).toInt ≤ 6199; rw [eI748, z_up_n (by decide)]; exact k693), (by show 0 ≤ (I748 0 15).toInt ∧ (I748 0 15).toInt ≤ 6100; rw [eI748, z_up_n (by decide)]; exact k694), a750, (by have q0 : (I748 0 35) = (I688 0 35) := (by rw [eI748, z_up_n (by decide)]); have q1 : (I748 0 34) = (I688 0 34) := (by rw [eI748, z_up_n (by decide)]); have q2 : (I748 0 33) = (I688 0 33) := (by rw [eI748, z_up_n (by decide)]); have q3 : (I748 0 36) = (I688 0 36) := (by rw [eI748, z_up_n (by decide)]); show 0 ≤ (I748 0 35).toInt ∧ (I748 0 35).toInt ≤ (I748 0 34).toInt ∧ (I748 0 34).toInt ≤ (I748 0 33).toInt ∧ (I748 0 33).toInt ≤ 500 ∧ ((I748 0 36).toInt = 0 ∨ (I748 0 35).toInt + 1 ≤ (I748 0 34).toInt); rw [q0, q1, q2, q3]; first | omega | decide), f749, ⟨(Or.inl (by have q0 : (I748 0 42) = (I688 0 42) := (by rw [eI748, z_up_n (by decide)]); show ¬ (I748 0 42).toInt = 0; rw [q0]; omega)), (by have hz9 : zp_st gt gv (n0 : Int) (.inr (tq, (2, fa, fx, fs) :: FS, fo, fg, NN)) = .inl (tq + 1) := (by first | (simp [zp_st, zp_op, zp_cm, zp_cb, (show fa = 0 by omega), (show ¬ gt tq = 400 by omega), ht304, ht536, ht540, ht658, ht680, ht745]; done) | (exfalso; omega)); rw [hz9]; exact hE751)⟩⟩
              · have hE756 : zm_E gt gv gp ge gh gm n0 gI I667 J669 (.inl (tq)) := he681
                have h757 := zm_E_L hE756
                refine lv_aload_n hx hb dX12_atom_115 rfl (lv_at hl 0 rfl) ?_
                have r758 : 0 ≤ (I667 0 42).toInt ∧ (I667 0 42).toInt ≤ 1 := hI667mt.2
                refine z_get (T := TX12) (N := 96) (ci := 12) (i := 0) (v := .int (I667 0 42)) hx hb hts zj_X12_atom_X12 hown hK hW rfl rfl 42 (by decide) (hts (.fieldLink RX12 294 "PetrolBoardModel" "isWrong" "Z") (me_s (me_l (me_l (List.mem_of_getElem? (i := 6) rfl))))) (fun _ h => h) rfl dX12_atom_116 ?_
                refine lv_if_ne (tgt := 128) hx hb dX12_atom_119 (by decide) (fun c759 => ?_) (fun c759 => (by have g := z_f_eq rfl z_l0 c759; omega))
                have g760 := z_f_ne rfl z_l0 c759
                refine lv_aload_n hx hb dX12_atom_128 rfl (lv_at hl 0 rfl) ?_
                refine z_get (T := TX12) (N := 96) (ci := 12) (i := 0) (v := .ref (ad 27)) hx hb hts zj_X12_atom_X12 hown hK hW rfl rfl 44 (by decide) (hts (.fieldLink RX12 94 "PetrolBoardModel" "at" "[I") (me_s (me_l (me_l (List.mem_of_getElem? (i := 0) rfl))))) (fun _ h => h) rfl dX12_atom_129 ?_
                refine lv_iload_n hx hb dX12_atom_132 rfl (lv_at hl 1 rfl) ?_
                refine lv_iconst (v := 2) hx hb dX12_atom_133 (by decide) ?_
                refine z_iast (i := 27) hx hb hK hW hS rfl (z_ix rfl (by omega) (by omega)) dX12_atom_134 (fun H locs hz1 hW hS => ?_)
                obtain ⟨I761, eI761⟩ : ∃ K : z_I, K = z_up I667 27 a1.toNatClampNeg 2 := ⟨_, rfl⟩
                rw [← eI761] at hW
                have f762 := z_fr_a f668 (show z_wa L_X12_atom_x 27 = true by decide) eI761
                have a763 := z_Nd_n (z_Nd_fr a662 fI667 (by decide)) (by decide) eI761
                have hE764 : zm_E gt gv gp ge gh gm n0 gI I761 J669 (.inl (tq)) := zm_E_w hE756 eI761 (by decide)
                have h765 := zm_E_L hE764
                refine lv_aload_n hx hb dX12_atom_135 rfl (lv_at hl 0 rfl) ?_
                refine z_get (T := TX12) (N := 96) (ci := 12) (i := 0) (v := .int (I667 0 42)) hx hb hts zj_X12_atom_X12 hown hK hW rfl rfl 42 (by decide) (hts (.fieldLink RX12 294 "PetrolBoardModel" "isWrong" "Z") (me_s (me_l (me_l (List.mem_of_getElem? (i := 6) rfl))))) (fun _ h => h) (congrArg Value.int (by rw [eI761, z_up_n (by decide)])) dX12_atom_136 ?_
                refine lv_if_ne (tgt := 311) hx hb dX12_atom_139 (by decide) (fun c766 => ?_) (fun c766 => (by have g := z_f_eq rfl z_l0 c766; omega))
                have g767 := z_f_ne rfl z_l0 c766
                exact z_vret hx hb hr hK hS (Nat.le_of_ble_eq_true rfl) (Nat.le_of_ble_eq_true rfl) hlocks dX12_atom_311 (shM, ad, I761, J669, PM ad) hW ⟨I761, J669, rfl, ⟨(by show 0 ≤ (I761 0 31).toInt ∧ (I761 0 31).toInt ≤ 500; rw [eI761, z_up_n (by decide)]; exact hI667mp.1), (by show 0 ≤ (I761 0 33).toInt ∧ (I761 0 33).toInt ≤ 500; rw [eI761, z_up_n (by decide)]; exact hI667mp.2.1), (by show 0 ≤ (I761 0 34).toInt ∧ (I761 0 34).toInt ≤ 500; rw [eI761, z_up_n (by decide)]; exact hI667mp.2.2.1), (by show 0 ≤ (I761 0 35).toInt ∧ (I761 0 35).toInt ≤ 500; rw [eI761, z_up_n (by decide)]; exact hI667mp.2.2.2)⟩, ⟨(by show 0 ≤ (I761 0 36).toInt ∧ (I761 0 36).toInt ≤ 4; rw [eI761, z_up_n (by decide)]; exact hI667mt.1), (by show 0 ≤ (I761 0 42).toInt ∧ (I761 0 42).toInt ≤ 1; rw [eI761, z_up_n (by decide)]; exact hI667mt.2)⟩, ⟨(by show 0 ≤ (I761 0 47).toInt ∧ (I761 0 47).toInt ≤ 119; rw [eI761, z_up_n (by decide)]; exact hI667md.1), (by show 0 ≤ (I761 0 39).toInt ∧ (I761 0 39).toInt ≤ 100; rw [eI761, z_up_n (by decide)]; exact hI667md.2)⟩, (by show 0 ≤ (I761 0 40).toInt ∧ (I761 0 40).toInt ≤ 6199; rw [eI761, z_up_n (by decide)]; exact k670), (by show 0 ≤ (I761 0 15).toInt ∧ (I761 0 15).toInt ≤ 6100; rw [eI761, z_up_n (by decide)]; exact k671), a763, (by have q0 : (I761 0 35) = (I667 0 35) := (by rw [eI761, z_up_n (by decide)]); have q1 : (I761 0 34) = (I667 0 34) := (by rw [eI761, z_up_n (by decide)]); have q2 : (I761 0 33) = (I667 0 33) := (by rw [eI761, z_up_n (by decide)]); have q3 : (I761 0 36) = (I667 0 36) := (by rw [eI761, z_up_n (by decide)]); show 0 ≤ (I761 0 35).toInt ∧ (I761 0 35).toInt ≤ (I761 0 34).toInt ∧ (I761 0 34).toInt ≤ (I761 0 33).toInt ∧ (I761 0 33).toInt ≤ 500 ∧ ((I761 0 36).toInt = 0 ∨ (I761 0 35).toInt + 1 ≤ (I761 0 34).toInt); rw [q0, q1, q2, q3]; first | omega | decide), f762, ⟨(Or.inl (by have q0 : (I761 0 42) = (I667 0 42) := (by rw [eI761, z_up_n (by decide)]); show ¬ (I761 0 42).toInt = 0; rw [q0]; omega)), (by have hz9 : zp_st gt gv (n0 : Int) (.inr (tq, (2, fa, fx, fs) :: FS, fo, fg, NN)) = .inl (tq) := (by first | (simp [zp_st, zp_op, zp_cm, zp_cb, (show fa = 0 by omega), (show ¬ gt tq = 400 by omega), ht304, ht536, ht540, ht658, ht680]; done) | (exfalso; omega)); rw [hz9]; exact hE764)⟩⟩
          · have ht768 : ¬ gt (tq) = 313 := fun q => h538 (by have q9 := (zm_E_wo (i := 13) (by decide) hE).mpr q; exact ⟨q9.1, q9.2.trans (show (267347 : Int64).toInt = zp_K.getD 13 0 by decide).symm⟩)
            refine lv_if_eq (tgt := 150) hx hb dX12_atom_85 (by decide) (fun c769 => ?_) (fun c769 => absurd (by decide) c769)
            refine lv_aload_n hx hb dX12_atom_150 rfl (lv_at hl 0 rfl) ?_
            refine z_get (T := TX12) (N := 96) (ci := 12) (i := 0) (v := .int (I 0 36)) hx hb hts zj_X12_atom_X12 hown hK hW rfl rfl 36 (by decide) (hts (.fieldLink RX12 281 "PetrolBoardModel" "token" "I") (me_s (me_l (me_l (List.mem_of_getElem? (i := 1) rfl))))) (fun _ h => h) rfl dX12_atom_151 ?_
            refine lv_iconst (v := 1) hx hb dX12_atom_154 (by decide) ?_
            refine lv_icmp_ne (tgt := 169) hx hb dX12_atom_155 (by decide) (fun c770 => ?_) (fun c770 => ?_)
            · have g771 := z_f_ne rfl z_l1 c770
              refine lv_iconst (v := (-1)) hx hb dX12_atom_169 (by decide) ?_
              refine lv_istore_n (lv' := [(2, .int (-1)), (0, .ref (ad 0)), (1, .int a1)]) hx hb dX12_atom_170 rfl hl (by decide) rfl (fun ls hl => ?_)
              refine lv_iload_n hx hb dX12_atom_171 rfl (lv_at hl 0 rfl) ?_
              refine lv_if_ge (tgt := 180) hx hb dX12_atom_172 (by decide) (fun c772 => absurd c772 (by decide)) (fun c772 => ?_)
              refine lv_aload_n hx hb dX12_atom_175 rfl (lv_at hl 1 rfl) ?_
              refine z_cv hW hS hA (va_runV (As := []) (rest := []) ⟨hx, hb, hml, hown, hts⟩ (sx_X12_errs_x l G ad I J ⟨(by show 0 ≤ (I 0 36).toInt ∧ (I 0 36).toInt ≤ 4; exact hmt.1), (by show 0 ≤ (I 0 42).toInt ∧ (I 0 42).toInt ≤ 1; exact hmt.2)⟩  _) (cwV 0 hts gX12_atom_X12_errs rfl rfl rfl (by decide +kernel) ⟨Nat.le_of_ble_eq_true rfl, Nat.le_of_ble_eq_true rfl⟩) (z_preV (i := 0) hK hW rfl rfl) rfl rfl hl.1 rfl (lv_room (Nat.le_of_ble_eq_true rfl)) dX12_atom_176 ⟨Nat.le_of_ble_eq_true rfl, Nat.le_of_ble_eq_true rfl⟩) (fun u1 H locs hp hW hS => ?_)
              obtain ⟨I773, J775, e9, hI773mt, fI773, hp⟩ := hp
              rw [e9] at hW
              have f774 := z_fr_sub (L := L_X12_atom_x) z_fr_0 fI773 (by decide)
              have k776 : 0 ≤ (I773 0 31).toInt ∧ (I773 0 31).toInt ≤ 500 := by rw [fI773 0 31 (by decide)]; exact (by show 0 ≤ (I 0 31).toInt ∧ (I 0 31).toInt ≤ 500; exact hmp.1)
              have k777 : 0 ≤ (I773 0 33).toInt ∧ (I773 0 33).toInt ≤ 500 := by rw [fI773 0 33 (by decide)]; exact (by show 0 ≤ (I 0 33).toInt ∧ (I 0 33).toInt ≤ 500; exact hmp.2.1)
              have k778 : 0 ≤ (I773 0 34).toInt ∧ (I773 0 34).toInt ≤ 500 := by rw [fI773 0 34 (by decide)]; exact (by show 0 ≤ (I 0 34).toInt ∧ (I 0 34).toInt ≤ 500; exact hmp.2.2.1)
              have k779 : 0 ≤ (I773 0 35).toInt ∧ (I773 0 35).toInt ≤ 500 := by rw [fI773 0 35 (by decide)]; exact (by show 0 ≤ (I 0 35).toInt ∧ (I 0 35).toInt ≤ 500; exact hmp.2.2.2)
              have k780 : (I773 0 36).toInt = (I 0 36).toInt := by rw [fI773 0 36 (by decide)]
              have k781 : 0 ≤ (I773 0 47).toInt ∧ (I773 0 47).toInt ≤ 119 := by rw [fI773 0 47 (by decide)]; exact (by show 0 ≤ (I 0 47).toInt ∧ (I 0 47).toInt ≤ 119; exact hmd.1)
              have k782 : 0 ≤ (I773 0 39).toInt ∧ (I773 0 39).toInt ≤ 100 := by rw [fI773 0 39 (by decide)]; exact (by show 0 ≤ (I 0 39).toInt ∧ (I 0 39).toInt ≤ 100; exact hmd.2)
              have k783 : 0 ≤ (I773 0 40).toInt ∧ (I773 0 40).toInt ≤ 6199 := by rw [fI773 0 40 (by decide)]; exact (by show 0 ≤ (I 0 40).toInt ∧ (I 0 40).toInt ≤ 6199; exact hmg)
              have k784 : 0 ≤ (I773 0 15).toInt ∧ (I773 0 15).toInt ≤ 6100 := by rw [fI773 0 15 (by decide)]; exact (by show 0 ≤ (I 0 15).toInt ∧ (I 0 15).toInt ≤ 6100; exact hmn)
              have k785 : 0 ≤ (I773 0 35).toInt ∧ (I773 0 35).toInt ≤ (I773 0 34).toInt ∧ (I773 0 34).toInt ≤ (I773 0 33).toInt ∧ (I773 0 33).toInt ≤ 500 ∧ ((I773 0 36).toInt = 0 ∨ (I773 0 35).toInt + 1 ≤ (I773 0 34).toInt) := (by have q0 : (I773 0 35) = (I 0 35) := (by rw [fI773 0 35 (by decide)]); have q1 : (I773 0 34) = (I 0 34) := (by rw [fI773 0 34 (by decide)]); have q2 : (I773 0 33) = (I 0 33) := (by rw [fI773 0 33 (by decide)]); have q3 : (I773 0 36) = (I 0 36) := (by rw [fI773 0 36 (by decide)]); show 0 ≤ (I773 0 35).toInt ∧ (I773 0 35).toInt ≤ (I773 0 34).toInt ∧ (I773 0 34).toInt ≤ (I773 0 33).toInt ∧ (I773 0 33).toInt ≤ 500 ∧ ((I773 0 36).toInt = 0 ∨ (I773 0 35).toInt + 1 ≤ (I773 0 34).toInt); rw [q0, q1, q2, q3]; first | omega | decide)
              have k786 : (I773 0 35).toInt = (I 0 35).toInt := by rw [fI773 0 35 (by decide)]
              have k787 : (I773 0 34).toInt = (I 0 34).toInt := by rw [fI773 0 34 (by decide)]
              have k788 : (I773 0 36).toInt = (I 0 36).toInt := by rw [fI773 0 36 (by decide)]
              have k789 : (I773 0 47).toInt = (I 0 47).toInt := by rw [fI773 0 47 (by decide)]
              have k790 : (I773 0 39).toInt = (I 0 39).toInt := by rw [fI773 0 39 (by decide)]
              have k791 : (I773 0 15).toInt = (I 0 15).toInt := by rw [fI773 0 15 (by decide)]
              have k792 : (I773 0 40).toInt = (I 0 40).toInt := by rw [fI773 0 40 (by decide)]
              obtain ⟨h793, h794, hJ795⟩ := hp
              have h796 : ¬ (I773 0 42).toInt = 0 := by omega
              have hE797 : zm_E gt gv gp ge gh gm n0 gI I773 J775 (.inl (tq)) := zm_E_errs hE h793 h794 (fun j => ⟨fI773 21 j (z_wr_c (by decide)), fI773 22 j (z_wr_c (by decide)), fI773 23 j (z_wr_c (by decide))⟩)
              have h798 := zm_E_L hE797
              exact z_vret hx hb hr hK hS (Nat.le_of_ble_eq_true rfl) (Nat.le_of_ble_eq_true rfl) hlocks dX12_atom_179 (shM, ad, I773, J775, PM ad) hW ⟨I773, J775, rfl, ⟨(by show 0 ≤ (I773 0 31).toInt ∧ (I773 0 31).toInt ≤ 500; exact k776), (by show 0 ≤ (I773 0 33).toInt ∧ (I773 0 33).toInt ≤ 500; exact k777), (by show 0 ≤ (I773 0 34).toInt ∧ (I773 0 34).toInt ≤ 500; exact k778), (by show 0 ≤ (I773 0 35).toInt ∧ (I773 0 35).toInt ≤ 500; exact k779)⟩, ⟨(by show 0 ≤ (I773 0 36).toInt ∧ (I773 0 36).toInt ≤ 4; exact hI773mt.1), (by show 0 ≤ (I773 0 42).toInt ∧ (I773 0 42).toInt ≤ 1; exact hI773mt.2)⟩, ⟨(by show 0 ≤ (I773 0 47).toInt ∧ (I773 0 47).toInt ≤ 119; exact k781), (by show 0 ≤ (I773 0 39).toInt ∧ (I773 0 39).toInt ≤ 100; exact k782)⟩, (by show 0 ≤ (I773 0 40).toInt ∧ (I773 0 40).toInt ≤ 6199; exact k783), (by show 0 ≤ (I773 0 15).toInt ∧ (I773 0 15).toInt ≤ 6100; exact k784), (z_Nd_fr hNd fI773 (by decide)), (by show 0 ≤ (I773 0 35).toInt ∧ (I773 0 35).toInt ≤ (I773 0 34).toInt ∧ (I773 0 34).toInt ≤ (I773 0 33).toInt ∧ (I773 0 33).toInt ≤ 500 ∧ ((I773 0 36).toInt = 0 ∨ (I773 0 35).toInt + 1 ≤ (I773 0 34).toInt); first | omega | decide), f774, ⟨(Or.inl (by show ¬ (I773 0 42).toInt = 0; omega)), (by have hz9 : zp_st gt gv (n0 : Int) (.inr (tq, (2, fa, fx, fs) :: FS, fo, fg, NN)) = .inl (tq) := (by first | (simp [zp_st, zp_op, zp_cm, zp_cb, (show fa = 0 by omega), (show ¬ gt tq = 400 by omega), (show ¬ (314 ≤ gt tq ∧ gt tq ≤ 320) by omega), ht304, ht536, ht768]; done) | (exfalso; omega)); rw [hz9]; exact hE797)⟩⟩
            · have g799 := z_f_eq rfl z_l1 c770
              refine lv_aload_n hx hb dX12_atom_158 rfl (lv_at hl 0 rfl) ?_
              refine lv_aload_n hx hb dX12_atom_159 rfl (lv_at hl 0 rfl) ?_
              refine z_get (T := TX12) (N := 96) (ci := 12) (i := 0) (v := .long (J 0 41)) hx hb hts zj_X12_atom_X12 hown hK hW rfl rfl 41 (by decide) (hts (.fieldLink RX12 271 "PetrolBoardModel" "word" "J") (me_s (me_l (me_l (List.mem_of_getElem? (i := 7) rfl))))) (fun _ h => h) rfl dX12_atom_160 ?_
              refine z_ci hW hS hA (va_runV (As := [.long (J 0 41)]) (rest := []) ⟨hx, hb, hml, hown, hts⟩ (sx_X12_nameOf_x l G ad I J  (J 0 41) _) (cwV 1 hts gX12_atom_X12_nameOf rfl rfl rfl (by decide +kernel) ⟨Nat.le_of_ble_eq_true rfl, Nat.le_of_ble_eq_true rfl⟩) (z_preV (i := 0) hK hW rfl rfl) rfl rfl hl.1 rfl (lv_room (Nat.le_of_ble_eq_true rfl)) dX12_atom_163 ⟨Nat.le_of_ble_eq_true rfl, Nat.le_of_ble_eq_true rfl⟩) (fun r u1 H locs hp hW hS => ?_)
              obtain ⟨e9, hp⟩ := hp
              rw [e9] at hW
              refine lv_topi (fun x800 ex800 => ?_)
              rw [← ex800] at hp
              rcases hp with ⟨i801, h802, h803, h804⟩ | ⟨h803, h804⟩
              · have ht805 : gt (tq) = 300 + ((14 + i801 : Nat) : Int) := (zm_E_wo (i := 14 + i801) (by omega) hE).mp ⟨(by show (I 0 36).toInt = 1; first | omega | decide), h804⟩
                have h806 : 0 ≤ x800.toInt ∧ x800.toInt ≤ 6 := by omega
                refine lv_goto (tgt := 170) hx hb dX12_atom_166 (by decide) ?_
                refine lv_istore_n (lv' := [(2, .int x800), (0, .ref (ad 0)), (1, .int a1)]) hx hb dX12_atom_170 rfl hl (by decide) rfl (fun ls hl => ?_)
                refine lv_iload_n hx hb dX12_atom_171 rfl (lv_at hl 0 rfl) ?_
                refine lv_if_ge (tgt := 180) hx hb dX12_atom_172 (by decide) (fun c807 => ?_) (fun c807 => (by have g := z_f_nge rfl z_l0 c807; omega))
                have g808 := z_f_ge rfl z_l0 c807
                refine lv_aload_n hx hb dX12_atom_180 rfl (lv_at hl 1 rfl) ?_
                refine z_cv hW hS hA (va_runV (As := []) (rest := []) ⟨hx, hb, hml, hown, hts⟩ (sx_X12_next_x l G ad I J ⟨(by show 0 ≤ (I 0 31).toInt ∧ (I 0 31).toInt ≤ 500; exact hmp.1), (by show 0 ≤ (I 0 33).toInt ∧ (I 0 33).toInt ≤ 500; exact hmp.2.1), (by show 0 ≤ (I 0 34).toInt ∧ (I 0 34).toInt ≤ 500; exact hmp.2.2.1), (by show 0 ≤ (I 0 35).toInt ∧ (I 0 35).toInt ≤ 500; exact hmp.2.2.2)⟩ ⟨(by show 0 ≤ (I 0 36).toInt ∧ (I 0 36).toInt ≤ 4; exact hmt.1), (by show 0 ≤ (I 0 42).toInt ∧ (I 0 42).toInt ≤ 1; exact hmt.2)⟩ (by show 0 ≤ (I 0 34).toInt ∧ (I 0 34).toInt ≤ (I 0 33).toInt ∧ (I 0 33).toInt ≤ 500; first | omega | decide)  _) (cwV 0 hts gX12_atom_X12_next rfl rfl rfl (by decide +kernel) ⟨Nat.le_of_ble_eq_true rfl, Nat.le_of_ble_eq_true rfl⟩) (z_preV (i := 0) hK hW rfl rfl) rfl rfl hl.1 rfl (lv_room (Nat.le_of_ble_eq_true rfl)) dX12_atom_181 ⟨Nat.le_of_ble_eq_true rfl, Nat.le_of_ble_eq_true rfl⟩) (fun u1 H locs hp hW hS => ?_)
                obtain ⟨I809, J811, e9, hI809mp, hI809mt, hI809rp, fI809, hp⟩ := hp
                rw [e9] at hW
                have f810 := z_fr_sub (L := L_X12_atom_x) z_fr_0 fI809 (by decide)
                have k812 : 0 ≤ (I809 0 47).toInt ∧ (I809 0 47).toInt ≤ 119 := by rw [fI809 0 47 (by decide)]; exact (by show 0 ≤ (I 0 47).toInt ∧ (I 0 47).toInt ≤ 119; exact hmd.1)
                have k813 : 0 ≤ (I809 0 39).toInt ∧ (I809 0 39).toInt ≤ 100 := by rw [fI809 0 39 (by decide)]; exact (by show 0 ≤ (I 0 39).toInt ∧ (I 0 39).toInt ≤ 100; exact hmd.2)
                have k814 : 0 ≤ (I809 0 40).toInt ∧ (I809 0 40).toInt ≤ 6199 := by rw [fI809 0 40 (by decide)]; exact (by show 0 ≤ (I 0 40).toInt ∧ (I 0 40).toInt ≤ 6199; exact hmg)
                have k815 : 0 ≤ (I809 0 15).toInt ∧ (I809 0 15).toInt ≤ 6100 := by rw [fI809 0 15 (by decide)]; exact (by show 0 ≤ (I 0 15).toInt ∧ (I 0 15).toInt ≤ 6100; exact hmn)
                have k816 : 0 ≤ (I809 0 35).toInt ∧ (I809 0 35).toInt ≤ (I809 0 34).toInt ∧ (I809 0 34).toInt ≤ (I809 0 33).toInt ∧ (I809 0 33).toInt ≤ 500 ∧ ((I809 0 36).toInt = 0 ∨ (I809 0 35).toInt + 1 ≤ (I809 0 34).toInt) := hI809rp
                have k817 : (I809 0 42).toInt = (I 0 42).toInt := by rw [fI809 0 42 (by decide)]
                have k818 : (I809 0 47).toInt = (I 0 47).toInt := by rw [fI809 0 47 (by decide)]
                have k819 : (I809 0 39).toInt = (I 0 39).toInt := by rw [fI809 0 39 (by decide)]
                have k820 : (I809 0 15).toInt = (I 0 15).toInt := by rw [fI809 0 15 (by decide)]
                have k821 : (I809 0 40).toInt = (I 0 40).toInt := by rw [fI809 0 40 (by decide)]
                obtain ⟨hp, hp822⟩ := hp
                have h823 := hp
                have hE824 : zm_E gt gv gp ge gh gm n0 gI I809 J811 (.inr (tq + 1, (2, fa, fx, fs) :: FS, fo, fg, NN)) := zm_E_next hSM hE (by omega) hp822 fI809 (by decide)
                have h825 := zm_E_W hE824
                have h826 := zm_E_D hE824
                refine lv_aload_n hx hb dX12_atom_184 rfl (lv_at hl 1 rfl) ?_
                refine lv_aload_n hx hb dX12_atom_185 rfl (lv_at hl 1 rfl) ?_
                refine lv_iconst (v := 1) hx hb dX12_atom_186 (by decide) ?_
                refine lv_iload_n hx hb dX12_atom_187 rfl (lv_at hl 0 rfl) ?_
                refine lv_iconst (v := 0) hx hb dX12_atom_188 (by decide) ?_
                refine z_ci hW hS hA (va_runV (As := [.int 1, .int x800, .int 0]) (rest := [.ref (ad 0)]) ⟨hx, hb, hml, hown, hts⟩ (sx_X12_node_x l G ad I809 J811 (by show 0 ≤ (I809 0 15).toInt ∧ (I809 0 15).toInt ≤ 6100; exact k815) (z_Nd_fr hNd fI809 (by decide)) 1 x800 0 (by show (I809 0 15).toInt ≤ 6099; omega) (by have := z_l1; have := z_l0; first | omega | decide) (by have := z_l1; have := z_l0; first | omega | decide) (by have := z_l1; have := z_l0; first | omega | decide) _) (cwV 3 hts gX12_atom_X12_node rfl rfl rfl (by decide +kernel) ⟨Nat.le_of_ble_eq_true rfl, Nat.le_of_ble_eq_true rfl⟩) (z_preV (i := 0) hK hW rfl rfl) rfl rfl hl.1 rfl (lv_room (Nat.le_of_ble_eq_true rfl)) dX12_atom_189 ⟨Nat.le_of_ble_eq_true rfl, Nat.le_of_ble_eq_true rfl⟩) (fun r u1 H locs hp hW hS => ?_)
                obtain ⟨I827, J829, e9, hI827mn, hI827Nd, fI827, hp⟩ := hp
                rw [e9] at hW
                have f828 := z_fr_sub (L := L_X12_atom_x) f810 fI827 (by decide)
                have k830 : 0 ≤ (I827 0 31).toInt ∧ (I827 0 31).toInt ≤ 500 := by rw [fI827 0 31 (by decide)]; exact (by show 0 ≤ (I809 0 31).toInt ∧ (I809 0 31).toInt ≤ 500; exact hI809mp.1)
                have k831 : 0 ≤ (I827 0 33).toInt ∧ (I827 0 33).toInt ≤ 500 := by rw [fI827 0 33 (by decide)]; exact (by show 0 ≤ (I809 0 33).toInt ∧ (I809 0 33).toInt ≤ 500; exact hI809mp.2.1)
                have k832 : 0 ≤ (I827 0 34).toInt ∧ (I827 0 34).toInt ≤ 500 := by rw [fI827 0 34 (by decide)]; exact (by show 0 ≤ (I809 0 34).toInt ∧ (I809 0 34).toInt ≤ 500; exact hI809mp.2.2.1)
                have k833 : 0 ≤ (I827 0 35).toInt ∧ (I827 0 35).toInt ≤ 500 := by rw [fI827 0 35 (by decide)]; exact (by show 0 ≤ (I809 0 35).toInt ∧ (I809 0 35).toInt ≤ 500; exact hI809mp.2.2.2)
                have k834 : 0 ≤ (I827 0 36).toInt ∧ (I827 0 36).toInt ≤ 4 := by rw [fI827 0 36 (by decide)]; exact (by show 0 ≤ (I809 0 36).toInt ∧ (I809 0 36).toInt ≤ 4; exact hI809mt.1)
                have k835 : 0 ≤ (I827 0 42).toInt ∧ (I827 0 42).toInt ≤ 1 := by rw [fI827 0 42 (by decide)]; exact (by show 0 ≤ (I809 0 42).toInt ∧ (I809 0 42).toInt ≤ 1; exact hI809mt.2)
                have k836 : 0 ≤ (I827 0 47).toInt ∧ (I827 0 47).toInt ≤ 119 := by rw [fI827 0 47 (by decide)]; exact (by show 0 ≤ (I809 0 47).toInt ∧ (I809 0 47).toInt ≤ 119; exact k812)
                have k837 : 0 ≤ (I827 0 39).toInt ∧ (I827 0 39).toInt ≤ 100 := by rw [fI827 0 39 (by decide)]; exact (by show 0 ≤ (I809 0 39).toInt ∧ (I809 0 39).toInt ≤ 100; exact k813)
                have k838 : 0 ≤ (I827 0 40).toInt ∧ (I827 0 40).toInt ≤ 6199 := by rw [fI827 0 40 (by decide)]; exact (by show 0 ≤ (I809 0 40).toInt ∧ (I809 0 40).toInt ≤ 6199; exact k814)
                have k839 : 0 ≤ (I827 0 35).toInt ∧ (I827 0 35).toInt ≤ (I827 0 34).toInt ∧ (I827 0 34).toInt ≤ (I827 0 33).toInt ∧ (I827 0 33).toInt ≤ 500 ∧ ((I827 0 36).toInt = 0 ∨ (I827 0 35).toInt + 1 ≤ (I827 0 34).toInt) := (by have q0 : (I827 0 35) = (I809 0 35) := (by rw [fI827 0 35 (by decide)]); have q1 : (I827 0 34) = (I809 0 34) := (by rw [fI827 0 34 (by decide)]); have q2 : (I827 0 33) = (I809 0 33) := (by rw [fI827 0 33 (by decide)]); have q3 : (I827 0 36) = (I809 0 36) := (by rw [fI827 0 36 (by decide)]); show 0 ≤ (I827 0 35).toInt ∧ (I827 0 35).toInt ≤ (I827 0 34).toInt ∧ (I827 0 34).toInt ≤ (I827 0 33).toInt ∧ (I827 0 33).toInt ≤ 500 ∧ ((I827 0 36).toInt = 0 ∨ (I827 0 35).toInt + 1 ≤ (I827 0 34).toInt); rw [q0, q1, q2, q3]; first | omega | decide)
                have k840 : (I827 0 35).toInt = (I809 0 35).toInt := by rw [fI827 0 35 (by decide)]
                have k841 : (I827 0 34).toInt = (I809 0 34).toInt := by rw [fI827 0 34 (by decide)]
                have k842 : (I827 0 36).toInt = (I809 0 36).toInt := by rw [fI827 0 36 (by decide)]
                have k843 : (I827 0 42).toInt = (I809 0 42).toInt := by rw [fI827 0 42 (by decide)]
                have k844 : (I827 0 47).toInt = (I809 0 47).toInt := by rw [fI827 0 47 (by decide)]
                have k845 : (I827 0 39).toInt = (I809 0 39).toInt := by rw [fI827 0 39 (by decide)]
                have k846 : (I827 0 40).toInt = (I809 0 40).toInt := by rw [fI827 0 40 (by decide)]
                refine lv_topi (fun x851 ex851 => ?_)
                rw [← ex851] at hp
                obtain ⟨h847, h848, h849, hJ850⟩ := hp
                have h852 : 0 ≤ x851.toInt ∧ x851.toInt ≤ 6100 := (by have q9 : 0 ≤ (I809 0 15).toInt ∧ (I809 0 15).toInt ≤ 6100 := (by show 0 ≤ (I809 0 15).toInt ∧ (I809 0 15).toInt ≤ 6100; exact k815); omega)
                have h853 := h847
                have h854 := h848
                have z855 := z_l1
                have z856 := z_l0
                have hE857 : zm_E gt gv gp ge gh gm n0 gI I827 J829 (.inr (tq + 1, (2, fa, fx, fs) :: FS, fo, fg, NN ++ [(1, gt (tq) - 314, 0)])) := zm_E_node hE824 h849 (by omega) (by omega) (by omega) fI827 (by decide) hJ850
                have h858 := zm_E_W hE857
                have h859 := zm_E_D hE857
                refine z_cv hW hS hA (va_runV (As := [.int x851]) (rest := []) ⟨hx, hb, hml, hown, hts⟩ (sx_X12_ends_x l G ad I827 J829 ⟨(by show 0 ≤ (I827 0 47).toInt ∧ (I827 0 47).toInt ≤ 119; exact k836), (by show 0 ≤ (I827 0 39).toInt ∧ (I827 0 39).toInt ≤ 100; exact k837)⟩ (by show 0 ≤ (I827 0 40).toInt ∧ (I827 0 40).toInt ≤ 6199; exact k838) x851 (by first | omega | decide) (by show 1 ≤ (I827 0 47).toInt; omega) _) (cwV 1 hts gX12_atom_X12_ends rfl rfl rfl (by decide +kernel) ⟨Nat.le_of_ble_eq_true rfl, Nat.le_of_ble_eq_true rfl⟩) (z_preV (i := 0) hK hW rfl rfl) rfl rfl hl.1 rfl (lv_room (Nat.le_of_ble_eq_true rfl)) dX12_atom_192 ⟨Nat.le_of_ble_eq_true rfl, Nat.le_of_ble_eq_true rfl⟩) (fun u1 H locs hp hW hS => ?_)
                obtain ⟨I860, J862, e9, hI860md, hI860mg, fI860, hp⟩ := hp
                rw [e9] at hW
                have f861 := z_fr_sub (L := L_X12_atom_x) f828 fI860 (by decide)
                have k863 : 0 ≤ (I860 0 31).toInt ∧ (I860 0 31).toInt ≤ 500 := by rw [fI860 0 31 (by decide)]; exact (by show 0 ≤ (I827 0 31).toInt ∧ (I827 0 31).toInt ≤ 500; exact k830)
                have k864 : 0 ≤ (I860 0 33).toInt ∧ (I860 0 33).toInt ≤ 500 := by rw [fI860 0 33 (by decide)]; exact (by show 0 ≤ (I827 0 33).toInt ∧ (I827 0 33).toInt ≤ 500; exact k831)
                have k865 : 0 ≤ (I860 0 34).toInt ∧ (I860 0 34).toInt ≤ 500 := by rw [fI860 0 34 (by decide)]; exact (by show 0 ≤ (I827 0 34).toInt ∧ (I827 0 34).toInt ≤ 500; exact k832)
                have k866 : 0 ≤ (I860 0 35).toInt ∧ (I860 0 35).toInt ≤ 500 := by rw [fI860 0 35 (by decide)]; exact (by show 0 ≤ (I827 0 35).toInt ∧ (I827 0 35).toInt ≤ 500; exact k833)
                have k867 : 0 ≤ (I860 0 36).toInt ∧ (I860 0 36).toInt ≤ 4 := by rw [fI860 0 36 (by decide)]; exact (by show 0 ≤ (I827 0 36).toInt ∧ (I827 0 36).toInt ≤ 4; exact k834)
                have k868 : 0 ≤ (I860 0 42).toInt ∧ (I860 0 42).toInt ≤ 1 := by rw [fI860 0 42 (by decide)]; exact (by show 0 ≤ (I827 0 42).toInt ∧ (I827 0 42).toInt ≤ 1; exact k835)
                have k869 : 0 ≤ (I860 0 15).toInt ∧ (I860 0 15).toInt ≤ 6100 := by rw [fI860 0 15 (by decide)]; exact (by show 0 ≤ (I827 0 15).toInt ∧ (I827 0 15).toInt ≤ 6100; exact hI827mn)
                have k870 : 0 ≤ (I860 0 35).toInt ∧ (I860 0 35).toInt ≤ (I860 0 34).toInt ∧ (I860 0 34).toInt ≤ (I860 0 33).toInt ∧ (I860 0 33).toInt ≤ 500 ∧ ((I860 0 36).toInt = 0 ∨ (I860 0 35).toInt + 1 ≤ (I860 0 34).toInt) := (by have q0 : (I860 0 35) = (I827 0 35) := (by rw [fI860 0 35 (by decide)]); have q1 : (I860 0 34) = (I827 0 34) := (by rw [fI860 0 34 (by decide)]); have q2 : (I860 0 33) = (I827 0 33) := (by rw [fI860 0 33 (by decide)]); have q3 : (I860 0 36) = (I827 0 36) := (by rw [fI860 0 36 (by decide)]); show 0 ≤ (I860 0 35).toInt ∧ (I860 0 35).toInt ≤ (I860 0 34).toInt ∧ (I860 0 34).toInt ≤ (I860 0 33).toInt ∧ (I860 0 33).toInt ≤ 500 ∧ ((I860 0 36).toInt = 0 ∨ (I860 0 35).toInt + 1 ≤ (I860 0 34).toInt); rw [q0, q1, q2, q3]; first | omega | decide)
                have k871 : (I860 0 35).toInt = (I827 0 35).toInt := by rw [fI860 0 35 (by decide)]
                have k872 : (I860 0 34).toInt = (I827 0 34).toInt := by rw [fI860 0 34 (by decide)]
                have k873 : (I860 0 36).toInt = (I827 0 36).toInt := by rw [fI860 0 36 (by decide)]
                have k874 : (I860 0 42).toInt = (I827 0 42).toInt := by rw [fI860 0 42 (by decide)]
                have k875 : (I860 0 39).toInt = (I827 0 39).toInt := by rw [fI860 0 39 (by decide)]
                have k876 : (I860 0 15).toInt = (I827 0 15).toInt := by rw [fI860 0 15 (by decide)]
                obtain ⟨hp, h877, hJ878⟩ := hp
                have h879 := hp
                have h880 := hp
                have hE881 : zm_E gt gv gp ge gh gm n0 gI I860 J862 (.inr (tq + 1, FS, fo, ((n0 : Int) + ((NN).length : Int)), NN ++ [(1, gt (tq) - 314, 0)])) := zm_E_ends hE857 h879 h877 (by omega) fI860 (by decide) hJ878
                have h882 := zm_E_W hE881
                have h883 := zm_E_D hE881
                refine lv_goto (tgt := 311) hx hb dX12_atom_195 (by decide) ?_
                exact z_vret hx hb hr hK hS (Nat.le_of_ble_eq_true rfl) (Nat.le_of_ble_eq_true rfl) hlocks dX12_atom_311 (shM, ad, I860, J862, PM ad) hW ⟨I860, J862, rfl, ⟨(by show 0 ≤ (I860 0 31).toInt ∧ (I860 0 31).toInt ≤ 500; exact k863), (by show 0 ≤ (I860 0 33).toInt ∧ (I860 0 33).toInt ≤ 500; exact k864), (by show 0 ≤ (I860 0 34).toInt ∧ (I860 0 34).toInt ≤ 500; exact k865), (by show 0 ≤ (I860 0 35).toInt ∧ (I860 0 35).toInt ≤ 500; exact k866)⟩, ⟨(by show 0 ≤ (I860 0 36).toInt ∧ (I860 0 36).toInt ≤ 4; exact k867), (by show 0 ≤ (I860 0 42).toInt ∧ (I860 0 42).toInt ≤ 1; exact k868)⟩, ⟨(by show 0 ≤ (I860 0 47).toInt ∧ (I860 0 47).toInt ≤ 119; exact hI860md.1), (by show 0 ≤ (I860 0 39).toInt ∧ (I860 0 39).toInt ≤ 100; exact hI860md.2)⟩, (by show 0 ≤ (I860 0 40).toInt ∧ (I860 0 40).toInt ≤ 6199; exact hI860mg), (by show 0 ≤ (I860 0 15).toInt ∧ (I860 0 15).toInt ≤ 6100; exact k869), (z_Nd_fr hI827Nd fI860 (by decide)), (by show 0 ≤ (I860 0 35).toInt ∧ (I860 0 35).toInt ≤ (I860 0 34).toInt ∧ (I860 0 34).toInt ≤ (I860 0 33).toInt ∧ (I860 0 33).toInt ≤ 500 ∧ ((I860 0 36).toInt = 0 ∨ (I860 0 35).toInt + 1 ≤ (I860 0 34).toInt); first | omega | decide), f861, ⟨((Classical.em ((I860 0 42).toInt = 0)).elim (fun hw9 => Or.inr ⟨a1.toNatClampNeg, by have w1 := z_fw_20 (a := va.toInt) (o := vo.toInt) (by omega); have w2 := z_fo_2n (a := va.toInt) (by omega); exact z_POP (d := a1.toNatClampNeg) hPS (fun i hi => ⟨by rw [fI860 26 i (z_wr_c (by decide)), fI827 26 i (z_wr_c (by decide)), fI809 26 i (z_wr_c (by decide))], by rw [fI860 27 i (z_wr_c (by decide)), fI827 27 i (z_wr_c (by decide)), fI809 27 i (z_wr_c (by decide))], by rw [fI860 28 i (z_wr_c (by decide)), fI827 28 i (z_wr_c (by decide)), fI809 28 i (z_wr_c (by decide))], by rw [fI860 29 i (z_wr_c (by decide)), fI827 29 i (z_wr_c (by decide)), fI809 29 i (z_wr_c (by decide))]⟩) (by omega) (by omega) (by omega) (by omega) (by omega) (by omega)⟩) Or.inl), (by have hz9 : zp_st gt gv (n0 : Int) (.inr (tq, (2, fa, fx, fs) :: FS, fo, fg, NN)) = .inr (tq + 1, FS, fo, ((n0 : Int) + ((NN).length : Int)), NN ++ [(1, gt (tq) - 314, 0)]) := (by first | (simp [zp_st, zp_op, zp_cm, zp_cb, (show fa = 0 by omega), (show ¬ gt tq = 400 by omega), ht304, ht536, ht768, (show 314 ≤ gt tq ∧ gt tq ≤ 320 by omega), (show ¬ gt tq = 400 by omega), (show ¬ gt tq = 40 by omega), (show ¬ gt tq = 312 by omega), (show ¬ gt tq = 313 by omega)]; done) | (exfalso; omega)); rw [hz9]; exact hE881)⟩⟩
              · have ht884 : ¬ (314 ≤ gt (tq) ∧ gt (tq) ≤ 320) := fun q => by obtain ⟨i, hi⟩ : ∃ i : Nat, gt (tq) = 300 + ((14 + i : Nat) : Int) := ⟨(gt (tq) - 314).toNat, by omega⟩; exact h804 i (by omega) ((zm_E_wo (i := 14 + i) (by omega) hE).mpr hi).2
                have h885 : x800.toInt = -1 := by omega
                refine lv_goto (tgt := 170) hx hb dX12_atom_166 (by decide) ?_
                refine lv_istore_n (lv' := [(2, .int x800), (0, .ref (ad 0)), (1, .int a1)]) hx hb dX12_atom_170 rfl hl (by decide) rfl (fun ls hl => ?_)
                refine lv_iload_n hx hb dX12_atom_171 rfl (lv_at hl 0 rfl) ?_
                refine lv_if_ge (tgt := 180) hx hb dX12_atom_172 (by decide) (fun c886 => (by have g := z_f_ge rfl z_l0 c886; omega)) (fun c886 => ?_)
                have g887 := z_f_nge rfl z_l0 c886
                refine lv_aload_n hx hb dX12_atom_175 rfl (lv_at hl 1 rfl) ?_
                refine z_cv hW hS hA (va_runV (As := []) (rest := []) ⟨hx, hb, hml, hown, hts⟩ (sx_X12_errs_x l G ad I J ⟨(by show 0 ≤ (I 0 36).toInt ∧ (I 0 36).toInt ≤ 4; exact hmt.1), (by show 0 ≤ (I 0 42).toInt ∧ (I 0 42).toInt ≤ 1; exact hmt.2)⟩  _) (cwV 0 hts gX12_atom_X12_errs rfl rfl rfl (by decide +kernel) ⟨Nat.le_of_ble_eq_true rfl, Nat.le_of_ble_eq_true rfl⟩) (z_preV (i := 0) hK hW rfl rfl) rfl rfl hl.1 rfl (lv_room (Nat.le_of_ble_eq_true rfl)) dX12_atom_176 ⟨Nat.le_of_ble_eq_true rfl, Nat.le_of_ble_eq_true rfl⟩) (fun u1 H locs hp hW hS => ?_)
                obtain ⟨I888, J890, e9, hI888mt, fI888, hp⟩ := hp
                rw [e9] at hW
                have f889 := z_fr_sub (L := L_X12_atom_x) z_fr_0 fI888 (by decide)
                have k891 : 0 ≤ (I888 0 31).toInt ∧ (I888 0 31).toInt ≤ 500 := by rw [fI888 0 31 (by decide)]; exact (by show 0 ≤ (I 0 31).toInt ∧ (I 0 31).toInt ≤ 500; exact hmp.1)
                have k892 : 0 ≤ (I888 0 33).toInt ∧ (I888 0 33).toInt ≤ 500 := by rw [fI888 0 33 (by decide)]; exact (by show 0 ≤ (I 0 33).toInt ∧ (I 0 33).toInt ≤ 500; exact hmp.2.1)
                have k893 : 0 ≤ (I888 0 34).toInt ∧ (I888 0 34).toInt ≤ 500 := by rw [fI888 0 34 (by decide)]; exact (by show 0 ≤ (I 0 34).toInt ∧ (I 0 34).toInt ≤ 500; exact hmp.2.2.1)
                have k894 : 0 ≤ (I888 0 35).toInt ∧ (I888 0 35).toInt ≤ 500 := by rw [fI888 0 35 (by decide)]; exact (by show 0 ≤ (I 0 35).toInt ∧ (I 0 35).toInt ≤ 500; exact hmp.2.2.2)
                have k895 : (I888 0 36).toInt = (I 0 36).toInt := by rw [fI888 0 36 (by decide)]
                have k896 : 0 ≤ (I888 0 47).toInt ∧ (I888 0 47).toInt ≤ 119 := by rw [fI888 0 47 (by decide)]; exact (by show 0 ≤ (I 0 47).toInt ∧ (I 0 47).toInt ≤ 119; exact hmd.1)
                have k897 : 0 ≤ (I888 0 39).toInt ∧ (I888 0 39).toInt ≤ 100 := by rw [fI888 0 39 (by decide)]; exact (by show 0 ≤ (I 0 39).toInt ∧ (I 0 39).toInt ≤ 100; exact hmd.2)
                have k898 : 0 ≤ (I888 0 40).toInt ∧ (I888 0 40).toInt ≤ 6199 := by rw [fI888 0 40 (by decide)]; exact (by show 0 ≤ (I 0 40).toInt ∧ (I 0 40).toInt ≤ 6199; exact hmg)
                have k899 : 0 ≤ (I888 0 15).toInt ∧ (I888 0 15).toInt ≤ 6100 := by rw [fI888 0 15 (by decide)]; exact (by show 0 ≤ (I 0 15).toInt ∧ (I 0 15).toInt ≤ 6100; exact hmn)
                have k900 : 0 ≤ (I888 0 35).toInt ∧ (I888 0 35).toInt ≤ (I888 0 34).toInt ∧ (I888 0 34).toInt ≤ (I888 0 33).toInt ∧ (I888 0 33).toInt ≤ 500 ∧ ((I888 0 36).toInt = 0 ∨ (I888 0 35).toInt + 1 ≤ (I888 0 34).toInt) := (by have q0 : (I888 0 35) = (I 0 35) := (by rw [fI888 0 35 (by decide)]); have q1 : (I888 0 34) = (I 0 34) := (by rw [fI888 0 34 (by decide)]); have q2 : (I888 0 33) = (I 0 33) := (by rw [fI888 0 33 (by decide)]); have q3 : (I888 0 36) = (I 0 36) := (by rw [fI888 0 36 (by decide)]); show 0 ≤ (I888 0 35).toInt ∧ (I888 0 35).toInt ≤ (I888 0 34).toInt ∧ (I888 0 34).toInt ≤ (I888 0 33).toInt ∧ (I888 0 33).toInt ≤ 500 ∧ ((I888 0 36).toInt = 0 ∨ (I888 0 35).toInt + 1 ≤ (I888 0 34).toInt); rw [q0, q1, q2, q3]; first | omega | decide)
                have k901 : (I888 0 35).toInt = (I 0 35).toInt := by rw [fI888 0 35 (by decide)]
                have k902 : (I888 0 34).toInt = (I 0 34).toInt := by rw [fI888 0 34 (by decide)]
                have k903 : (I888 0 36).toInt = (I 0 36).toInt := by rw [fI888 0 36 (by decide)]
                have k904 : (I888 0 47).toInt = (I 0 47).toInt := by rw [fI888 0 47 (by decide)]
                have k905 : (I888 0 39).toInt = (I 0 39).toInt := by rw [fI888 0 39 (by decide)]
                have k906 : (I888 0 15).toInt = (I 0 15).toInt := by rw [fI888 0 15 (by decide)]
                have k907 : (I888 0 40).toInt = (I 0 40).toInt := by rw [fI888 0 40 (by decide)]
                obtain ⟨h908, h909, hJ910⟩ := hp
                have h911 : ¬ (I888 0 42).toInt = 0 := by omega
                have hE912 : zm_E gt gv gp ge gh gm n0 gI I888 J890 (.inl (tq)) := zm_E_errs hE h908 h909 (fun j => ⟨fI888 21 j (z_wr_c (by decide)), fI888 22 j (z_wr_c (by decide)), fI888 23 j (z_wr_c (by decide))⟩)
                have h913 := zm_E_L hE912
                exact z_vret hx hb hr hK hS (Nat.le_of_ble_eq_true rfl) (Nat.le_of_ble_eq_true rfl) hlocks dX12_atom_179 (shM, ad, I888, J890, PM ad) hW ⟨I888, J890, rfl, ⟨(by show 0 ≤ (I888 0 31).toInt ∧ (I888 0 31).toInt ≤ 500; exact k891), (by show 0 ≤ (I888 0 33).toInt ∧ (I888 0 33).toInt ≤ 500; exact k892), (by show 0 ≤ (I888 0 34).toInt ∧ (I888 0 34).toInt ≤ 500; exact k893), (by show 0 ≤ (I888 0 35).toInt ∧ (I888 0 35).toInt ≤ 500; exact k894)⟩, ⟨(by show 0 ≤ (I888 0 36).toInt ∧ (I888 0 36).toInt ≤ 4; exact hI888mt.1), (by show 0 ≤ (I888 0 42).toInt ∧ (I888 0 42).toInt ≤ 1; exact hI888mt.2)⟩, ⟨(by show 0 ≤ (I888 0 47).toInt ∧ (I888 0 47).toInt ≤ 119; exact k896), (by show 0 ≤ (I888 0 39).toInt ∧ (I888 0 39).toInt ≤ 100; exact k897)⟩, (by show 0 ≤ (I888 0 40).toInt ∧ (I888 0 40).toInt ≤ 6199; exact k898), (by show 0 ≤ (I888 0 15).toInt ∧ (I888 0 15).toInt ≤ 6100; exact k899), (z_Nd_fr hNd fI888 (by decide)), (by show 0 ≤ (I888 0 35).toInt ∧ (I888 0 35).toInt ≤ (I888 0 34).toInt ∧ (I888 0 34).toInt ≤ (I888 0 33).toInt ∧ (I888 0 33).toInt ≤ 500 ∧ ((I888 0 36).toInt = 0 ∨ (I888 0 35).toInt + 1 ≤ (I888 0 34).toInt); first | omega | decide), f889, ⟨(Or.inl (by show ¬ (I888 0 42).toInt = 0; omega)), (by have hz9 : zp_st gt gv (n0 : Int) (.inr (tq, (2, fa, fx, fs) :: FS, fo, fg, NN)) = .inl (tq) := (by first | (simp [zp_st, zp_op, zp_cm, zp_cb, (show fa = 0 by omega), (show ¬ gt tq = 400 by omega), ht304, ht536, ht768, ht884]; done) | (exfalso; omega)); rw [hz9]; exact hE912)⟩⟩
    · have g914 := z_f_eq rfl z_l2 c215
      refine lv_aload_n hx hb dX12_atom_17 rfl (lv_at hl 0 rfl) ?_
      refine z_get (T := TX12) (N := 96) (ci := 12) (i := 0) (v := .int (I 0 38)) hx hb hts zj_X12_atom_X12 hown hK hW rfl rfl 38 (by decide) (hts (.fieldLink RX12 278 "PetrolBoardModel" "value" "I") (me_s (me_l (me_l (List.mem_of_getElem? (i := 2) rfl))))) (fun _ h => h) rfl dX12_atom_18 ?_
      refine lv_istore_n (lv' := [(2, .int (I 0 38)), (0, .ref (ad 0)), (1, .int a1)]) hx hb dX12_atom_21 rfl hl (by decide) rfl (fun ls hl => ?_)
      refine lv_aload_n hx hb dX12_atom_22 rfl (lv_at hl 1 rfl) ?_
      refine z_cv hW hS hA (va_runV (As := []) (rest := []) ⟨hx, hb, hml, hown, hts⟩ (sx_X12_next_x l G ad I J ⟨(by show 0 ≤ (I 0 31).toInt ∧ (I 0 31).toInt ≤ 500; exact hmp.1), (by show 0 ≤ (I 0 33).toInt ∧ (I 0 33).toInt ≤ 500; exact hmp.2.1), (by show 0 ≤ (I 0 34).toInt ∧ (I 0 34).toInt ≤ 500; exact hmp.2.2.1), (by show 0 ≤ (I 0 35).toInt ∧ (I 0 35).toInt ≤ 500; exact hmp.2.2.2)⟩ ⟨(by show 0 ≤ (I 0 36).toInt ∧ (I 0 36).toInt ≤ 4; exact hmt.1), (by show 0 ≤ (I 0 42).toInt ∧ (I 0 42).toInt ≤ 1; exact hmt.2)⟩ (by show 0 ≤ (I 0 34).toInt ∧ (I 0 34).toInt ≤ (I 0 33).toInt ∧ (I 0 33).toInt ≤ 500; first | omega | decide)  _) (cwV 0 hts gX12_atom_X12_next rfl rfl rfl (by decide +kernel) ⟨Nat.le_of_ble_eq_true rfl, Nat.le_of_ble_eq_true rfl⟩) (z_preV (i := 0) hK hW rfl rfl) rfl rfl hl.1 rfl (lv_room (Nat.le_of_ble_eq_true rfl)) dX12_atom_23 ⟨Nat.le_of_ble_eq_true rfl, Nat.le_of_ble_eq_true rfl⟩) (fun u1 H locs hp hW hS => ?_)
      obtain ⟨I915, J917, e9, hI915mp, hI915mt, hI915rp, fI915, hp⟩ := hp
      rw [e9] at hW
      have f916 := z_fr_sub (L := L_X12_atom_x) z_fr_0 fI915 (by decide)
      have k918 : 0 ≤ (I915 0 47).toInt ∧ (I915 0 47).toInt ≤ 119 := by rw [fI915 0 47 (by decide)]; exact (by show 0 ≤ (I 0 47).toInt ∧ (I 0 47).toInt ≤ 119; exact hmd.1)
      have k919 : 0 ≤ (I915 0 39).toInt ∧ (I915 0 39).toInt ≤ 100 := by rw [fI915 0 39 (by decide)]; exact (by show 0 ≤ (I 0 39).toInt ∧ (I 0 39).toInt ≤ 100; exact hmd.2)
      have k920 : 0 ≤ (I915 0 40).toInt ∧ (I915 0 40).toInt ≤ 6199 := by rw [fI915 0 40 (by decide)]; exact (by show 0 ≤ (I 0 40).toInt ∧ (I 0 40).toInt ≤ 6199; exact hmg)
      have k921 : 0 ≤ (I915 0 15).toInt ∧ (I915 0 15).toInt ≤ 6100 := by rw [fI915 0 15 (by decide)]; exact (by show 0 ≤ (I 0 15).toInt ∧ (I 0 15).toInt ≤ 6100; exact hmn)
      have k922 : 0 ≤ (I915 0 35).toInt ∧ (I915 0 35).toInt ≤ (I915 0 34).toInt ∧ (I915 0 34).toInt ≤ (I915 0 33).toInt ∧ (I915 0 33).toInt ≤ 500 ∧ ((I915 0 36).toInt = 0 ∨ (I915 0 35).toInt + 1 ≤ (I915 0 34).toInt) := hI915rp
      have k923 : (I915 0 42).toInt = (I 0 42).toInt := by rw [fI915 0 42 (by decide)]
      have k924 : (I915 0 47).toInt = (I 0 47).toInt := by rw [fI915 0 47 (by decide)]
      have k925 : (I915 0 39).toInt = (I 0 39).toInt := by rw [fI915 0 39 (by decide)]
      have k926 : (I915 0 15).toInt = (I 0 15).toInt := by rw [fI915 0 15 (by decide)]
      have k927 : (I915 0 40).toInt = (I 0 40).toInt := by rw [fI915 0 40 (by decide)]
      obtain ⟨hp, hp928⟩ := hp
      have h929 := hp
      have hE930 : zm_E gt gv gp ge gh gm n0 gI I915 J917 (.inr (tq + 1, (2, fa, fx, fs) :: FS, fo, fg, NN)) := zm_E_next hSM hE (by omega) hp928 fI915 (by decide)
      have h931 := zm_E_W hE930
      have h932 := zm_E_D hE930
      refine lv_aload_n hx hb dX12_atom_26 rfl (lv_at hl 1 rfl) ?_
      refine lv_aload_n hx hb dX12_atom_27 rfl (lv_at hl 1 rfl) ?_
      refine lv_iconst (v := 0) hx hb dX12_atom_28 (by decide) ?_
      refine lv_iload_n hx hb dX12_atom_29 rfl (lv_at hl 0 rfl) ?_
      refine lv_iconst (v := 0) hx hb dX12_atom_30 (by decide) ?_
      refine z_ci hW hS hA (va_runV (As := [.int 0, .int (I 0 38), .int 0]) (rest := [.ref (ad 0)]) ⟨hx, hb, hml, hown, hts⟩ (sx_X12_node_x l G ad I915 J917 (by show 0 ≤ (I915 0 15).toInt ∧ (I915 0 15).toInt ≤ 6100; exact k921) (z_Nd_fr hNd fI915 (by decide)) 0 (I 0 38) 0 (by show (I915 0 15).toInt ≤ 6099; omega) (by have := z_l0; have := z_l0; first | omega | decide) (by have := z_l0; have := z_l0; first | omega | decide) (by have := z_l0; have := z_l0; first | omega | decide) _) (cwV 3 hts gX12_atom_X12_node rfl rfl rfl (by decide +kernel) ⟨Nat.le_of_ble_eq_true rfl, Nat.le_of_ble_eq_true rfl⟩) (z_preV (i := 0) hK hW rfl rfl) rfl rfl hl.1 rfl (lv_room (Nat.le_of_ble_eq_true rfl)) dX12_atom_31 ⟨Nat.le_of_ble_eq_true rfl, Nat.le_of_ble_eq_true rfl⟩) (fun r u1 H locs hp hW hS => ?_)
      obtain ⟨I933, J935, e9, hI933mn, hI933Nd, fI933, hp⟩ := hp
      rw [e9] at hW
      have f934 := z_fr_sub (L := L_X12_atom_x) f916 fI933 (by decide)
      have k936 : 0 ≤ (I933 0 31).toInt ∧ (I933 0 31).toInt ≤ 500 := by rw [fI933 0 31 (by decide)]; exact (by show 0 ≤ (I915 0 31).toInt ∧ (I915 0 31).toInt ≤ 500; exact hI915mp.1)
      have k937 : 0 ≤ (I933 0 33).toInt ∧ (I933 0 33).toInt ≤ 500 := by rw [fI933 0 33 (by decide)]; exact (by show 0 ≤ (I915 0 33).toInt ∧ (I915 0 33).toInt ≤ 500; exact hI915mp.2.1)
      have k938 : 0 ≤ (I933 0 34).toInt ∧ (I933 0 34).toInt ≤ 500 := by rw [fI933 0 34 (by decide)]; exact (by show 0 ≤ (I915 0 34).toInt ∧ (I915 0 34).toInt ≤ 500; exact hI915mp.2.2.1)
      have k939 : 0 ≤ (I933 0 35).toInt ∧ (I933 0 35).toInt ≤ 500 := by rw [fI933 0 35 (by decide)]; exact (by show 0 ≤ (I915 0 35).toInt ∧ (I915 0 35).toInt ≤ 500; exact hI915mp.2.2.2)
      have k940 : 0 ≤ (I933 0 36).toInt ∧ (I933 0 36).toInt ≤ 4 := by rw [fI933 0 36 (by decide)]; exact (by show 0 ≤ (I915 0 36).toInt ∧ (I915 0 36).toInt ≤ 4; exact hI915mt.1)
      have k941 : 0 ≤ (I933 0 42).toInt ∧ (I933 0 42).toInt ≤ 1 := by rw [fI933 0 42 (by decide)]; exact (by show 0 ≤ (I915 0 42).toInt ∧ (I915 0 42).toInt ≤ 1; exact hI915mt.2)
      have k942 : 0 ≤ (I933 0 47).toInt ∧ (I933 0 47).toInt ≤ 119 := by rw [fI933 0 47 (by decide)]; exact (by show 0 ≤ (I915 0 47).toInt ∧ (I915 0 47).toInt ≤ 119; exact k918)
      have k943 : 0 ≤ (I933 0 39).toInt ∧ (I933 0 39).toInt ≤ 100 := by rw [fI933 0 39 (by decide)]; exact (by show 0 ≤ (I915 0 39).toInt ∧ (I915 0 39).toInt ≤ 100; exact k919)
      have k944 : 0 ≤ (I933 0 40).toInt ∧ (I933 0 40).toInt ≤ 6199 := by rw [fI933 0 40 (by decide)]; exact (by show 0 ≤ (I915 0 40).toInt ∧ (I915 0 40).toInt ≤ 6199; exact k920)
      have k945 : 0 ≤ (I933 0 35).toInt ∧ (I933 0 35).toInt ≤ (I933 0 34).toInt ∧ (I933 0 34).toInt ≤ (I933 0 33).toInt ∧ (I933 0 33).toInt ≤ 500 ∧ ((I933 0 36).toInt = 0 ∨ (I933 0 35).toInt + 1 ≤ (I933 0 34).toInt) := (by have q0 : (I933 0 35) = (I915 0 35) := (by rw [fI933 0 35 (by decide)]); have q1 : (I933 0 34) = (I915 0 34) := (by rw [fI933 0 34 (by decide)]); have q2 : (I933 0 33) = (I915 0 33) := (by rw [fI933 0 33 (by decide)]); have q3 : (I933 0 36) = (I915 0 36) := (by rw [fI933 0 36 (by decide)]); show 0 ≤ (I933 0 35).toInt ∧ (I933 0 35).toInt ≤ (I933 0 34).toInt ∧ (I933 0 34).toInt ≤ (I933 0 33).toInt ∧ (I933 0 33).toInt ≤ 500 ∧ ((I933 0 36).toInt = 0 ∨ (I933 0 35).toInt + 1 ≤ (I933 0 34).toInt); rw [q0, q1, q2, q3]; first | omega | decide)
      have k946 : (I933 0 35).toInt = (I915 0 35).toInt := by rw [fI933 0 35 (by decide)]
      have k947 : (I933 0 34).toInt = (I915 0 34).toInt := by rw [fI933 0 34 (by decide)]
      have k948 : (I933 0 36).toInt = (I915 0 36).toInt := by rw [fI933 0 36 (by decide)]
      have k949 : (I933 0 42).toInt = (I915 0 42).toInt := by rw [fI933 0 42 (by decide)]
      have k950 : (I933 0 47).toInt = (I915 0 47).toInt := by rw [fI933 0 47 (by decide)]
      have k951 : (I933 0 39).toInt = (I915 0 39).toInt := by rw [fI933 0 39 (by decide)]
      have k952 : (I933 0 40).toInt = (I915 0 40).toInt := by rw [fI933 0 40 (by decide)]
      refine lv_topi (fun x957 ex957 => ?_)
      rw [← ex957] at hp
      obtain ⟨h953, h954, h955, hJ956⟩ := hp
      have h958 : 0 ≤ x957.toInt ∧ x957.toInt ≤ 6100 := (by have q9 : 0 ≤ (I915 0 15).toInt ∧ (I915 0 15).toInt ≤ 6100 := (by show 0 ≤ (I915 0 15).toInt ∧ (I915 0 15).toInt ≤ 6100; exact k921); omega)
      have h959 := h953
      have h960 := h954
      have z961 := z_l0
      have z962 := z_l0
      have hE963 : zm_E gt gv gp ge gh gm n0 gI I933 J935 (.inr (tq + 1, (2, fa, fx, fs) :: FS, fo, fg, NN ++ [(0, gv tq, 0)])) := zm_E_node hE930 h955 (by omega) (by omega) (by omega) fI933 (by decide) hJ956
      have h964 := zm_E_W hE963
      have h965 := zm_E_D hE963
      refine z_cv hW hS hA (va_runV (As := [.int x957]) (rest := []) ⟨hx, hb, hml, hown, hts⟩ (sx_X12_ends_x l G ad I933 J935 ⟨(by show 0 ≤ (I933 0 47).toInt ∧ (I933 0 47).toInt ≤ 119; exact k942), (by show 0 ≤ (I933 0 39).toInt ∧ (I933 0 39).toInt ≤ 100; exact k943)⟩ (by show 0 ≤ (I933 0 40).toInt ∧ (I933 0 40).toInt ≤ 6199; exact k944) x957 (by first | omega | decide) (by show 1 ≤ (I933 0 47).toInt; omega) _) (cwV 1 hts gX12_atom_X12_ends rfl rfl rfl (by decide +kernel) ⟨Nat.le_of_ble_eq_true rfl, Nat.le_of_ble_eq_true rfl⟩) (z_preV (i := 0) hK hW rfl rfl) rfl rfl hl.1 rfl (lv_room (Nat.le_of_ble_eq_true rfl)) dX12_atom_34 ⟨Nat.le_of_ble_eq_true rfl, Nat.le_of_ble_eq_true rfl⟩) (fun u1 H locs hp hW hS => ?_)
      obtain ⟨I966, J968, e9, hI966md, hI966mg, fI966, hp⟩ := hp
      rw [e9] at hW
      have f967 := z_fr_sub (L := L_X12_atom_x) f934 fI966 (by decide)
      have k969 : 0 ≤ (I966 0 31).toInt ∧ (I966 0 31).toInt ≤ 500 := by rw [fI966 0 31 (by decide)]; exact (by show 0 ≤ (I933 0 31).toInt ∧ (I933 0 31).toInt ≤ 500; exact k936)
      have k970 : 0 ≤ (I966 0 33).toInt ∧ (I966 0 33).toInt ≤ 500 := by rw [fI966 0 33 (by decide)]; exact (by show 0 ≤ (I933 0 33).toInt ∧ (I933 0 33).toInt ≤ 500; exact k937)
      have k971 : 0 ≤ (I966 0 34).toInt ∧ (I966 0 34).toInt ≤ 500 := by rw [fI966 0 34 (by decide)]; exact (by show 0 ≤ (I933 0 34).toInt ∧ (I933 0 34).toInt ≤ 500; exact k938)
      have k972 : 0 ≤ (I966 0 35).toInt ∧ (I966 0 35).toInt ≤ 500 := by rw [fI966 0 35 (by decide)]; exact (by show 0 ≤ (I933 0 35).toInt ∧ (I933 0 35).toInt ≤ 500; exact k939)
      have k973 : 0 ≤ (I966 0 36).toInt ∧ (I966 0 36).toInt ≤ 4 := by rw [fI966 0 36 (by decide)]; exact (by show 0 ≤ (I933 0 36).toInt ∧ (I933 0 36).toInt ≤ 4; exact k940)
      have k974 : 0 ≤ (I966 0 42).toInt ∧ (I966 0 42).toInt ≤ 1 := by rw [fI966 0 42 (by decide)]; exact (by show 0 ≤ (I933 0 42).toInt ∧ (I933 0 42).toInt ≤ 1; exact k941)
      have k975 : 0 ≤ (I966 0 15).toInt ∧ (I966 0 15).toInt ≤ 6100 := by rw [fI966 0 15 (by decide)]; exact (by show 0 ≤ (I933 0 15).toInt ∧ (I933 0 15).toInt ≤ 6100; exact hI933mn)
      have k976 : 0 ≤ (I966 0 35).toInt ∧ (I966 0 35).toInt ≤ (I966 0 34).toInt ∧ (I966 0 34).toInt ≤ (I966 0 33).toInt ∧ (I966 0 33).toInt ≤ 500 ∧ ((I966 0 36).toInt = 0 ∨ (I966 0 35).toInt + 1 ≤ (I966 0 34).toInt) := (by have q0 : (I966 0 35) = (I933 0 35) := (by rw [fI966 0 35 (by decide)]); have q1 : (I966 0 34) = (I933 0 34) := (by rw [fI966 0 34 (by decide)]); have q2 : (I966 0 33) = (I933 0 33) := (by rw [fI966 0 33 (by decide)]); have q3 : (I966 0 36) = (I933 0 36) := (by rw [fI966 0 36 (by decide)]); show 0 ≤ (I966 0 35).toInt ∧ (I966 0 35).toInt ≤ (I966 0 34).toInt ∧ (I966 0 34).toInt ≤ (I966 0 33).toInt ∧ (I966 0 33).toInt ≤ 500 ∧ ((I966 0 36).toInt = 0 ∨ (I966 0 35).toInt + 1 ≤ (I966 0 34).toInt); rw [q0, q1, q2, q3]; first | omega | decide)
      have k977 : (I966 0 35).toInt = (I933 0 35).toInt := by rw [fI966 0 35 (by decide)]
      have k978 : (I966 0 34).toInt = (I933 0 34).toInt := by rw [fI966 0 34 (by decide)]
      have k979 : (I966 0 36).toInt = (I933 0 36).toInt := by rw [fI966 0 36 (by decide)]
      have k980 : (I966 0 42).toInt = (I933 0 42).toInt := by rw [fI966 0 42 (by decide)]
      have k981 : (I966 0 39).toInt = (I933 0 39).toInt := by rw [fI966 0 39 (by decide)]
      have k982 : (I966 0 15).toInt = (I933 0 15).toInt := by rw [fI966 0 15 (by decide)]
      obtain ⟨hp, h983, hJ984⟩ := hp
      have h985 := hp
      have h986 := hp
      have hE987 : zm_E gt gv gp ge gh gm n0 gI I966 J968 (.inr (tq + 1, FS, fo, ((n0 : Int) + ((NN).length : Int)), NN ++ [(0, gv tq, 0)])) := zm_E_ends hE963 h985 h983 (by omega) fI966 (by decide) hJ984
      have h988 := zm_E_W hE987
      have h989 := zm_E_D hE987
      refine lv_goto (tgt := 311) hx hb dX12_atom_37 (by decide) ?_
      exact z_vret hx hb hr hK hS (Nat.le_of_ble_eq_true rfl) (Nat.le_of_ble_eq_true rfl) hlocks dX12_atom_311 (shM, ad, I966, J968, PM ad) hW ⟨I966, J968, rfl, ⟨(by show 0 ≤ (I966 0 31).toInt ∧ (I966 0 31).toInt ≤ 500; exact k969), (by show 0 ≤ (I966 0 33).toInt ∧ (I966 0 33).toInt ≤ 500; exact k970), (by show 0 ≤ (I966 0 34).toInt ∧ (I966 0 34).toInt ≤ 500; exact k971), (by show 0 ≤ (I966 0 35).toInt ∧ (I966 0 35).toInt ≤ 500; exact k972)⟩, ⟨(by show 0 ≤ (I966 0 36).toInt ∧ (I966 0 36).toInt ≤ 4; exact k973), (by show 0 ≤ (I966 0 42).toInt ∧ (I966 0 42).toInt ≤ 1; exact k974)⟩, ⟨(by show 0 ≤ (I966 0 47).toInt ∧ (I966 0 47).toInt ≤ 119; exact hI966md.1), (by show 0 ≤ (I966 0 39).toInt ∧ (I966 0 39).toInt ≤ 100; exact hI966md.2)⟩, (by show 0 ≤ (I966 0 40).toInt ∧ (I966 0 40).toInt ≤ 6199; exact hI966mg), (by show 0 ≤ (I966 0 15).toInt ∧ (I966 0 15).toInt ≤ 6100; exact k975), (z_Nd_fr hI933Nd fI966 (by decide)), (by show 0 ≤ (I966 0 35).toInt ∧ (I966 0 35).toInt ≤ (I966 0 34).toInt ∧ (I966 0 34).toInt ≤ (I966 0 33).toInt ∧ (I966 0 33).toInt ≤ 500 ∧ ((I966 0 36).toInt = 0 ∨ (I966 0 35).toInt + 1 ≤ (I966 0 34).toInt); first | omega | decide), f967, ⟨((Classical.em ((I966 0 42).toInt = 0)).elim (fun hw9 => Or.inr ⟨a1.toNatClampNeg, by have w1 := z_fw_20 (a := va.toInt) (o := vo.toInt) (by omega); have w2 := z_fo_2n (a := va.toInt) (by omega); exact z_POP (d := a1.toNatClampNeg) hPS (fun i hi => ⟨by rw [fI966 26 i (z_wr_c (by decide)), fI933 26 i (z_wr_c (by decide)), fI915 26 i (z_wr_c (by decide))], by rw [fI966 27 i (z_wr_c (by decide)), fI933 27 i (z_wr_c (by decide)), fI915 27 i (z_wr_c (by decide))], by rw [fI966 28 i (z_wr_c (by decide)), fI933 28 i (z_wr_c (by decide)), fI915 28 i (z_wr_c (by decide))], by rw [fI966 29 i (z_wr_c (by decide)), fI933 29 i (z_wr_c (by decide)), fI915 29 i (z_wr_c (by decide))]⟩) (by omega) (by omega) (by omega) (by omega) (by omega) (by omega)⟩) Or.inl), (by have hz9 : zp_st gt gv (n0 : Int) (.inr (tq, (2, fa, fx, fs) :: FS, fo, fg, NN)) = .inr (tq + 1, FS, fo, ((n0 : Int) + ((NN).length : Int)), NN ++ [(0, gv tq, 0)]) := (by first | (simp [zp_st, zp_op, zp_cm, zp_cb, (show fa = 0 by omega), (show gt tq = 400 by omega)]; done) | (exfalso; omega)); rw [hz9]; exact hE987)⟩⟩
