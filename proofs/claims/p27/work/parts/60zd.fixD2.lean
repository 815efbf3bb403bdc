section ZW
variable {A : Int → Int} {n : zp_N} {a b : Int}
end ZW
set_option maxHeartbeats 8000000 in
set_option maxRecDepth 100000 in
theorem sx_X12_works_x_q2 (l : Launch) (G : z_G) (ad : Nat → Nat) (I : z_I) (J : z_J) (hNd : z_Nd I) (hAsf : z_rg 19 0 6200 I) (hAst : z_rg 20 0 6200 I) (FZ0 : Nat) (NN : List zp_N) (a1 : Int32) (q1 : 0 ≤ a1.toInt ∧ a1.toInt ≤ 319) (hF : (I 19 a1.toNatClampNeg).toInt = (FZ0 : Int)) (hT : (I 20 a1.toNatClampNeg).toInt = (FZ0 : Int) + (NN.length : Int)) (hQ : zm_Q I FZ0 NN) (hod : zv_od FZ0 FZ0 NN) (hnn : zv_nn NN) (hbA : zv_bA (zw_A J)) : z_Mv l yX12_works wsX12_works { frames := 2, cells := 0, slots := 0, locals := 33 } [.ref (ad 0), .int a1] G (shM, ad, I, J, PM ad) (fun u1 => ∃ (I1 : z_I) (J1 : z_J), u1 = (shM, ad, I1, J1, PM ad) ∧ z_Nd I1 ∧ z_rg 19 0 6200 I1 ∧ z_rg 20 0 6200 I1 ∧ z_fr L_X12_works_x I1 I ∧ zp_RV (zw_A J) (zw_R J1) FZ0 NN ∧ ∀ j, J1 30 j = J 30 j) 0 0 := by
  intro sz
  refine z_headQ (cc := cX12_works) (maxL := 10) (ret := none) (by decide) rfl (Nat.le_of_ble_eq_true rfl) ?_
  intro p e s m below meth c0 ls hIn hK hsz hW hl
  obtain ⟨hx, hb, hr, hml, hown, hts, hlocks, hname⟩ := hIn
  subst hsz
  have hown : s.vm.findClass RX12 = some m.cls := hown
  have hA : ∀ q : Nat, s.heap.size ≤ q → z_A (shM, ad, I, J, PM ad) s.heap.size q := fun q h => Or.inr h
  generalize hAe : z_A (shM, ad, I, J, PM ad) s.heap.size = A at *
  have hS : va_S A s.heap s.heap [] := va_S.rf
  have hl : lv_has ls 10 [(0, .ref (ad 0)), (1, .int a1)] := hl
  refine lv_aload_n hx hb dX12_works_0 rfl (lv_at hl 0 rfl) ?_
  refine z_get (T := TX12) (N := 96) (ci := 12) (i := 0) (v := .ref (ad 19)) hx hb hts zj_X12_works_X12 hown hK hW rfl rfl 24 (by decide) (hts (.fieldLink RX12 64 "PetrolBoardModel" "stFrom" "[I") (me_s (me_l (List.mem_of_getElem? (i := 0) rfl)))) (fun _ h => h) rfl dX12_works_1 ?_
  refine lv_iload_n hx hb dX12_works_4 rfl (lv_at hl 1 rfl) ?_
  refine z_iald (i := 19) hx hb hK hW rfl (z_ix rfl (by omega) (by omega)) dX12_works_5 ?_
  refine lv_topi (fun x1 ex1 => ?_)
  have h2 : 0 ≤ x1.toInt ∧ x1.toInt ≤ 6200 := by rw [ex1]; exact hAsf _
  have h3 : x1.toInt = (FZ0 : Int) := by rw [ex1]; exact hF
  refine lv_istore_n (lv' := [(2, .int x1), (0, .ref (ad 0)), (1, .int a1)]) hx hb dX12_works_6 rfl hl (by decide) rfl (fun ls hl => ?_)
  have lp4 : ∀ (f : Nat) (y5 : Int32) (I6 : z_I) (J7 : z_J) (H : Heap) (locs : List Loc) (ls : Array Slot), (2147483647 < y5.toInt + (f : Int)) → (0 ≤ y5.toInt) → (z_Nd I6) → (z_rg 19 0 6200 I6) → (z_rg 20 0 6200 I6) → (x1.toInt ≤ y5.toInt) → (zw_B J J7 FZ0 NN y5.toInt) → (z_fr L_X12_works_x I6 I) → z_W G A (shM, ad, I6, J7, PM ad) H → va_S A s.heap H locs → lv_has ls 10 [(2, .int y5), (0, .ref (ad 0)), (1, .int a1)] → W p l e (headSpec wsX12_works { frames := 2, cells := 0, slots := 0, locals := 33 }).room s m ([.ref (ad 0), .int a1] : List Value).toArray below meth c0 H locs 0 0 (MQ below (va_Qv (fun (u1 : z_U) => ∃ (I1 : z_I) (J1 : z_J), u1 = (shM, ad, I1, J1, PM ad) ∧ z_Nd I1 ∧ z_rg 19 0 6200 I1 ∧ z_rg 20 0 6200 I1 ∧ z_fr L_X12_works_x I1 I ∧ zp_RV (zw_A J) (zw_R J1) FZ0 NN ∧ ∀ j, J1 30 j = J 30 j) (z_B G A) A) ([.ref (ad 0), .int a1] : List Value).toArray s 0 0 A) (F0 m 7 ls []) := by
    intro f
    induction f with
    | zero => intro y5 I6 J7 H locs ls lp4m lp4l2 lp4Nd lp4Asf lp4Ast lp4z lp4B lp4fr hW hS hl; exact absurd lp4m (by have := Int32.toInt_lt y5; have := Int32.le_toInt y5; omega)
    | succ f lp4ih =>
      intro y5 I6 J7 H locs ls lp4m lp4l2 lp4Nd lp4Asf lp4Ast lp4z lp4B lp4fr hW hS hl
      obtain ⟨d9, hd9, hdl9, hR9, hc9⟩ := lp4B
      have cq9 := z_clt (x := y5) rfl (by omega)
      have ed9 : y5.toNatClampNeg = FZ0 + d9 := by omega
      refine lv_iload_n hx hb dX12_works_7 rfl (lv_at hl 0 rfl) ?_
      refine lv_aload_n hx hb dX12_works_8 rfl (lv_at hl 1 rfl) ?_
      refine z_get (T := TX12) (N := 96) (ci := 12) (i := 0) (v := .ref (ad 20)) hx hb hts zj_X12_works_X12 hown hK hW rfl rfl 25 (by decide) (hts (.fieldLink RX12 67 "PetrolBoardModel" "stTo" "[I") (me_s (me_l (List.mem_of_getElem? (i := 1) rfl)))) (fun _ h => h) rfl dX12_works_9 ?_
      refine lv_iload_n hx hb dX12_works_12 rfl (lv_at hl 2 rfl) ?_
      refine z_iald (i := 20) hx hb hK hW rfl (z_ix rfl (by omega) (by omega)) dX12_works_13 ?_
      refine lv_topi (fun x8 ex8 => ?_)
      have h9 : 0 ≤ x8.toInt ∧ x8.toInt ≤ 6200 := by rw [ex8]; exact lp4Ast _
      have h11 : x8.toInt = (FZ0 : Int) + (NN.length : Int) := by rw [ex8, lp4fr 20 _ (z_wr_c (by decide))]; exact hT
      refine lv_icmp_ge (tgt := 400) hx hb dX12_works_14 (by decide) (fun c12 => ?_) (fun c12 => ?_)
      · have g13 := z_f_ge rfl rfl c12
        have b14 := Int32.toInt_lt y5
        exact z_vret hx hb hr hK hS (Nat.le_of_ble_eq_true rfl) (Nat.le_of_ble_eq_true rfl) hlocks dX12_works_400 (shM, ad, I6, J7, PM ad) hW ⟨I6, J7, rfl, lp4Nd, lp4Asf, lp4Ast, lp4fr, (by have e9 : NN.take d9 = NN := List.take_of_length_le (by omega); rw [e9] at hR9; exact ⟨hR9, hc9⟩)⟩
      · have g15 := z_f_nge rfl rfl c12
        have b16 := Int32.toInt_lt y5
        have hdl8 : d9 < NN.length := by omega
        obtain ⟨n9, hn9⟩ : ∃ n, NN[d9]? = some n := ⟨_, List.getElem?_eq_getElem hdl8⟩
        have hq9 := zw_Q_at NN FZ0 d9 n9 hQ hn9
        rw [← ed9] at hq9
        have ho9 := zv_od_at NN FZ0 d9 n9 hod hn9
        have h09 := zw_nn_at NN d9 n9 hnn hn9
        have hlt9 : (NN.take d9).length = d9 := by rw [List.length_take]; omega
        refine lv_aload_n hx hb dX12_works_17 rfl (lv_at hl 1 rfl) ?_
        refine z_get (T := TX12) (N := 96) (ci := 12) (i := 0) (v := .ref (ad 21)) hx hb hts zj_X12_works_X12 hown hK hW rfl rfl 26 (by decide) (hts (.fieldLink RX12 70 "PetrolBoardModel" "nodeKind" "[I") (me_s (me_l (List.mem_of_getElem? (i := 2) rfl)))) (fun _ h => h) rfl dX12_works_18 ?_
        refine lv_iload_n hx hb dX12_works_21 rfl (lv_at hl 0 rfl) ?_
        refine z_iald (i := 21) hx hb hK hW rfl (z_ix rfl (by omega) (by omega)) dX12_works_22 ?_
        refine lv_topi (fun x17 ex17 => ?_)
        have h18 : x17.toInt = n9.1 := by rw [ex17, lp4fr 21 _ (z_wr_c (by decide))]; exact hq9.1
        refine lv_istore_n (lv' := [(3, .int x17), (2, .int y5), (0, .ref (ad 0)), (1, .int a1)]) hx hb dX12_works_23 rfl hl (by decide) rfl (fun ls hl => ?_)
        refine lv_iload_n hx hb dX12_works_24 rfl (lv_at hl 0 rfl) ?_
        refine lv_iconst (v := 1) hx hb dX12_works_25 (by decide) ?_
        refine lv_icmp_le (tgt := 43) hx hb dX12_works_26 (by decide) (fun c19 => ?_) (fun c19 => ?_)
        · have g20 := z_f_le rfl z_l1 c19
          have b21 := Int32.toInt_lt x17
          refine lv_lconst (v := 0) hx hb dX12_works_43 (by decide) ?_
          refine lv_lstore (lv' := [(4, .long 0), (3, .int x17), (2, .int y5), (0, .ref (ad 0)), (1, .int a1)]) hx hb dX12_works_44 hl (by decide) rfl (fun ls hl => ?_)
          refine lv_iload_n hx hb dX12_works_46 rfl (lv_at hl 1 rfl) ?_
          refine lv_iconst (v := 1) hx hb dX12_works_47 (by decide) ?_
          refine lv_icmp_le (tgt := 71) hx hb dX12_works_48 (by decide) (fun c22 => ?_) (fun c22 => (by have g := z_f_nle rfl z_l1 c22; omega))
          have g23 := z_f_le rfl z_l1 c22
          refine lv_lconst (v := 0) hx hb dX12_works_71 (by decide) ?_
          refine lv_lstore (lv' := [(6, .long 0), (4, .long 0), (3, .int x17), (2, .int y5), (0, .ref (ad 0)), (1, .int a1)]) hx hb dX12_works_72 hl (by decide) rfl (fun ls hl => ?_)
          refine lv_lconst (v := 0) hx hb dX12_works_74 (by decide) ?_
          refine lv_lstore (lv' := [(8, .long 0), (6, .long 0), (4, .long 0), (3, .int x17), (2, .int y5), (0, .ref (ad 0)), (1, .int a1)]) hx hb dX12_works_75 hl (by decide) rfl (fun ls hl => ?_)
          refine lv_iload_n hx hb dX12_works_77 rfl (lv_at hl 3 rfl) ?_
          refine lv_if_ne (tgt := 93) hx hb dX12_works_78 (by decide) (fun c24 => ?_) (fun c24 => ?_)
          · have g25 := z_f_ne rfl z_l0 c24
            refine lv_iload_n hx hb dX12_works_93 rfl (lv_at hl 3 rfl) ?_
            refine lv_iconst (v := 1) hx hb dX12_works_94 (by decide) ?_
            refine lv_icmp_ne (tgt := 114) hx hb dX12_works_95 (by decide) (fun c26 => ?_) (fun c26 => ?_)
            · have g27 := z_f_ne rfl z_l1 c26
              refine lv_iload_n hx hb dX12_works_114 rfl (lv_at hl 3 rfl) ?_
              refine lv_iconst (v := 2) hx hb dX12_works_115 (by decide) ?_
              refine lv_icmp_ne (tgt := 129) hx hb dX12_works_116 (by decide) (fun c28 => ?_) (fun c28 => (by have g := z_f_eq rfl z_l2 c28; omega))
              have g29 := z_f_ne rfl z_l2 c28
              refine lv_iload_n hx hb dX12_works_129 rfl (lv_at hl 3 rfl) ?_
              refine lv_iconst (v := 3) hx hb dX12_works_130 (by decide) ?_
              refine lv_icmp_ne (tgt := 144) hx hb dX12_works_131 (by decide) (fun c30 => ?_) (fun c30 => (by have g := z_f_eq rfl z_l3 c30; omega))
              have g31 := z_f_ne rfl z_l3 c30
              refine lv_iload_n hx hb dX12_works_144 rfl (lv_at hl 3 rfl) ?_
              refine lv_iconst (v := 4) hx hb dX12_works_145 (by decide) ?_
              refine lv_icmp_ne (tgt := 159) hx hb dX12_works_146 (by decide) (fun c32 => ?_) (fun c32 => (by have g := z_f_eq rfl z_l4 c32; omega))
              have g33 := z_f_ne rfl z_l4 c32
              refine lv_iload_n hx hb dX12_works_159 rfl (lv_at hl 3 rfl) ?_
              refine lv_iconst (v := 5) hx hb dX12_works_160 (by decide) ?_
              refine lv_icmp_ne (tgt := 185) hx hb dX12_works_161 (by decide) (fun c34 => ?_) (fun c34 => (by have g := z_f_eq rfl z_l5 c34; omega))
              have g35 := z_f_ne rfl z_l5 c34
              refine lv_iload_n hx hb dX12_works_185 rfl (lv_at hl 3 rfl) ?_
              refine lv_bipush (v := 6) hx hb dX12_works_186 (by decide) ?_
              refine lv_icmp_ne (tgt := 211) hx hb dX12_works_188 (by decide) (fun c36 => ?_) (fun c36 => (by have g := z_f_eq rfl z_l6 c36; omega))
              have g37 := z_f_ne rfl z_l6 c36
              refine lv_iload_n hx hb dX12_works_211 rfl (lv_at hl 3 rfl) ?_
              refine lv_bipush (v := 7) hx hb dX12_works_212 (by decide) ?_
              refine lv_icmp_ne (tgt := 237) hx hb dX12_works_214 (by decide) (fun c38 => ?_) (fun c38 => (by have g := z_f_eq rfl z_l7 c38; omega))
              have g39 := z_f_ne rfl z_l7 c38
              refine lv_iload_n hx hb dX12_works_237 rfl (lv_at hl 3 rfl) ?_
              refine lv_bipush (v := 8) hx hb dX12_works_238 (by decide) ?_
              refine lv_icmp_ne (tgt := 261) hx hb dX12_works_240 (by decide) (fun c40 => ?_) (fun c40 => (by have g := z_f_eq rfl z_l8 c40; omega))
              have g41 := z_f_ne rfl z_l8 c40
              refine lv_iload_n hx hb dX12_works_261 rfl (lv_at hl 3 rfl) ?_
              refine lv_bipush (v := 9) hx hb dX12_works_262 (by decide) ?_
              refine lv_icmp_ne (tgt := 285) hx hb dX12_works_264 (by decide) (fun c42 => ?_) (fun c42 => (by have g := z_f_eq rfl z_l9 c42; omega))
              have g43 := z_f_ne rfl z_l9 c42
              refine lv_iload_n hx hb dX12_works_285 rfl (lv_at hl 3 rfl) ?_
              refine lv_bipush (v := 10) hx hb dX12_works_286 (by decide) ?_
              refine lv_icmp_ne (tgt := 309) hx hb dX12_works_288 (by decide) (fun c44 => ?_) (fun c44 => (by have g := z_f_eq rfl z_l10 c44; omega))
              have g45 := z_f_ne rfl z_l10 c44
              refine lv_iload_n hx hb dX12_works_309 rfl (lv_at hl 3 rfl) ?_
              refine lv_bipush (v := 11) hx hb dX12_works_310 (by decide) ?_
              refine lv_icmp_ne (tgt := 332) hx hb dX12_works_312 (by decide) (fun c46 => ?_) (fun c46 => (by have g := z_f_eq rfl z_l11 c46; omega))
              have g47 := z_f_ne rfl z_l11 c46
              refine lv_iload_n hx hb dX12_works_332 rfl (lv_at hl 3 rfl) ?_
              refine lv_bipush (v := 12) hx hb dX12_works_333 (by decide) ?_
              refine lv_icmp_ne (tgt := 362) hx hb dX12_works_335 (by decide) (fun c48 => ?_) (fun c48 => (by have g := z_f_eq rfl z_l12 c48; omega))
              have g49 := z_f_ne rfl z_l12 c48
              refine lv_lload hx hb dX12_works_362 (lv_at hl 2 rfl) ?_
              refine lv_lconst (v := 0) hx hb dX12_works_364 (by decide) ?_
              refine W.lcmp hx hb dX12_works_365 ?_
              refine lv_topi (fun x50 ex50 => ?_)
              have tx50 := z_tcmp ex50
              have h51 := z_tlcmp ex50 (show (0 : Int64).toInt = 0 by decide) (show (0 : Int64).toInt = 0 by decide)
              refine lv_if_ne (tgt := 376) hx hb dX12_works_366 (by decide) (fun c52 => ?_) (fun c52 => ?_)
              · have g53 := z_f_ne rfl z_l0 c52
                refine lv_lconst (v := 1) hx hb dX12_works_376 (by decide) ?_
                refine lv_goto (tgt := 381) hx hb dX12_works_377 (by decide) ?_
                refine lv_lstore (lv' := [(8, .long 1), (6, .long 0), (4, .long 0), (3, .int x17), (2, .int y5), (0, .ref (ad 0)), (1, .int a1)]) hx hb dX12_works_381 hl (by decide) rfl (fun ls hl => ?_)
                refine lv_aload_n hx hb dX12_works_383 rfl (lv_at hl 5 rfl) ?_
                refine z_get (T := TX12) (N := 96) (ci := 12) (i := 0) (v := .ref (ad 24)) hx hb hts zj_X12_works_X12 hown hK hW rfl rfl 29 (by decide) (hts (.fieldLink RX12 79 "PetrolBoardModel" "result" "[J") (me_s (me_l (List.mem_of_getElem? (i := 3) rfl)))) (fun _ h => h) rfl dX12_works_384 ?_
                refine lv_iload_n hx hb dX12_works_387 rfl (lv_at hl 4 rfl) ?_
                refine lv_lload hx hb dX12_works_388 (lv_at hl 0 rfl) ?_
                refine z_cl hW hS hA (va_runS (As := [.long 1]) (rest := [.int y5, .ref (ad 24)]) ⟨hx, hb, hml, hown, hts⟩ (sx_X12_held_x l G ad I6 J7  1 _) (va_cwS 1 hts gX12_works_X12_held rfl rfl rfl (by decide +kernel) ⟨Nat.le_of_ble_eq_true rfl, Nat.le_of_ble_eq_true rfl⟩) (z_preS hK hW) rfl rfl hl.1 rfl (lv_room (Nat.le_of_ble_eq_true rfl)) dX12_works_390 ⟨Nat.le_of_ble_eq_true rfl, Nat.le_of_ble_eq_true rfl⟩) (fun r u1 H locs hp hW hS => ?_)
                obtain ⟨e9, hp⟩ := hp
                rw [e9] at hW
                refine lv_topl (fun w54 ew54 => ?_)
                rw [← ew54] at hp
                have hh55 := hp
                refine z_last (i := 24) hx hb hK hW hS rfl (z_ix rfl (by omega) (by omega)) dX12_works_393 (fun H locs hz1 hW hS => ?_)
                obtain ⟨J56, eJ56⟩ : ∃ K : z_J, K = z_up J7 24 y5.toNatClampNeg w54 := ⟨_, rfl⟩
                rw [← eJ56] at hW
                obtain ⟨x57, ex57⟩ : ∃ y : Int32, y = y5 + 1 := ⟨_, rfl⟩
                have tx57 : x57.toInt = y5.toInt + 1 := z_tadd ex57 rfl z_l1 (by omega) (by omega)
                refine lv_iinc (v := x57) (lv' := [(2, .int x57), (8, .long 1), (6, .long 0), (4, .long 0), (3, .int x17), (0, .ref (ad 0)), (1, .int a1)]) hx hb dX12_works_394 hl (k := 4) rfl (by rw [ex57]; rfl) (by decide) rfl (fun ls hl => ?_)
                refine lv_goto (tgt := 7) hx hb dX12_works_397 (by decide) ?_
                exact lp4ih x57 I6 J56 _ _ _ (by omega) (by omega) lp4Nd lp4Asf lp4Ast (by omega) (zw_B_s hod hnn hn9 hR9 hc9 eJ56 (by omega) (by first | (exact (hh55.trans (congrArg zp_h (show (1 : Int64).toInt = 1 by decide))).trans (zw_v13 (by omega) (by omega)).symm) | (exact (hh55.trans (congrArg zp_h (show (1 : Int64).toInt = 1 by decide))).trans (zw_v13n (by omega) (by omega)).symm) | (exfalso; omega)) (by omega)) lp4fr hW hS (lv_sub hl [0, 5, 6] rfl)
              · have g58 := z_f_eq rfl z_l0 c52
                refine lv_lload hx hb dX12_works_369 (lv_at hl 1 rfl) ?_
                refine lv_lconst (v := 0) hx hb dX12_works_371 (by decide) ?_
                refine W.lcmp hx hb dX12_works_372 ?_
                refine lv_topi (fun x59 ex59 => ?_)
                have tx59 := z_tcmp ex59
                have h60 := z_tlcmp ex59 (show (0 : Int64).toInt = 0 by decide) (show (0 : Int64).toInt = 0 by decide)
                refine lv_if_eq (tgt := 380) hx hb dX12_works_373 (by decide) (fun c61 => ?_) (fun c61 => ?_)
                · have g62 := z_f_eq rfl z_l0 c61
                  refine lv_lconst (v := 0) hx hb dX12_works_380 (by decide) ?_
                  refine lv_lstore (lv' := [(8, .long 0), (6, .long 0), (4, .long 0), (3, .int x17), (2, .int y5), (0, .ref (ad 0)), (1, .int a1)]) hx hb dX12_works_381 hl (by decide) rfl (fun ls hl => ?_)
                  refine lv_aload_n hx hb dX12_works_383 rfl (lv_at hl 5 rfl) ?_
                  refine z_get (T := TX12) (N := 96) (ci := 12) (i := 0) (v := .ref (ad 24)) hx hb hts zj_X12_works_X12 hown hK hW rfl rfl 29 (by decide) (hts (.fieldLink RX12 79 "PetrolBoardModel" "result" "[J") (me_s (me_l (List.mem_of_getElem? (i := 3) rfl)))) (fun _ h => h) rfl dX12_works_384 ?_
                  refine lv_iload_n hx hb dX12_works_387 rfl (lv_at hl 4 rfl) ?_
                  refine lv_lload hx hb dX12_works_388 (lv_at hl 0 rfl) ?_
                  refine z_cl hW hS hA (va_runS (As := [.long 0]) (rest := [.int y5, .ref (ad 24)]) ⟨hx, hb, hml, hown, hts⟩ (sx_X12_held_x l G ad I6 J7  0 _) (va_cwS 1 hts gX12_works_X12_held rfl rfl rfl (by decide +kernel) ⟨Nat.le_of_ble_eq_true rfl, Nat.le_of_ble_eq_true rfl⟩) (z_preS hK hW) rfl rfl hl.1 rfl (lv_room (Nat.le_of_ble_eq_true rfl)) dX12_works_390 ⟨Nat.le_of_ble_eq_true rfl, Nat.le_of_ble_eq_true rfl⟩) (fun r u1 H locs hp hW hS => ?_)
                  obtain ⟨e9, hp⟩ := hp
                  rw [e9] at hW
                  refine lv_topl (fun w63 ew63 => ?_)
                  rw [← ew63] at hp
                  have hh64 := hp
                  refine z_last (i := 24) hx hb hK hW hS rfl (z_ix rfl (by omega) (by omega)) dX12_works_393 (fun H locs hz1 hW hS => ?_)
                  obtain ⟨J65, eJ65⟩ : ∃ K : z_J, K = z_up J7 24 y5.toNatClampNeg w63 := ⟨_, rfl⟩
                  rw [← eJ65] at hW
                  obtain ⟨x66, ex66⟩ : ∃ y : Int32, y = y5 + 1 := ⟨_, rfl⟩
                  have tx66 : x66.toInt = y5.toInt + 1 := z_tadd ex66 rfl z_l1 (by omega) (by omega)
                  refine lv_iinc (v := x66) (lv' := [(2, .int x66), (8, .long 0), (6, .long 0), (4, .long 0), (3, .int x17), (0, .ref (ad 0)), (1, .int a1)]) hx hb dX12_works_394 hl (k := 4) rfl (by rw [ex66]; rfl) (by decide) rfl (fun ls hl => ?_)
                  refine lv_goto (tgt := 7) hx hb dX12_works_397 (by decide) ?_
                  exact lp4ih x66 I6 J65 _ _ _ (by omega) (by omega) lp4Nd lp4Asf lp4Ast (by omega) (zw_B_s hod hnn hn9 hR9 hc9 eJ65 (by omega) (by first | (exact (hh64.trans (congrArg zp_h (show (0 : Int64).toInt = 0 by decide))).trans (zw_v13 (by omega) (by omega)).symm) | (exact (hh64.trans (congrArg zp_h (show (0 : Int64).toInt = 0 by decide))).trans (zw_v13n (by omega) (by omega)).symm) | (exfalso; omega)) (by omega)) lp4fr hW hS (lv_sub hl [0, 5, 6] rfl)
                · have g67 := z_f_ne rfl z_l0 c61
                  refine lv_lconst (v := 1) hx hb dX12_works_376 (by decide) ?_
                  refine lv_goto (tgt := 381) hx hb dX12_works_377 (by decide) ?_
                  refine lv_lstore (lv' := [(8, .long 1), (6, .long 0), (4, .long 0), (3, .int x17), (2, .int y5), (0, .ref (ad 0)), (1, .int a1)]) hx hb dX12_works_381 hl (by decide) rfl (fun ls hl => ?_)
                  refine lv_aload_n hx hb dX12_works_383 rfl (lv_at hl 5 rfl) ?_
                  refine z_get (T := TX12) (N := 96) (ci := 12) (i := 0) (v := .ref (ad 24)) hx hb hts zj_X12_works_X12 hown hK hW rfl rfl 29 (by decide) (hts (.fieldLink RX12 79 "PetrolBoardModel" "result" "[J") (me_s (me_l (List.mem_of_getElem? (i := 3) rfl)))) (fun _ h => h) rfl dX12_works_384 ?_
                  refine lv_iload_n hx hb dX12_works_387 rfl (lv_at hl 4 rfl) ?_
                  refine lv_lload hx hb dX12_works_388 (lv_at hl 0 rfl) ?_
                  refine z_cl hW hS hA (va_runS (As := [.long 1]) (rest := [.int y5, .ref (ad 24)]) ⟨hx, hb, hml, hown, hts⟩ (sx_X12_held_x l G ad I6 J7  1 _) (va_cwS 1 hts gX12_works_X12_held rfl rfl rfl (by decide +kernel) ⟨Nat.le_of_ble_eq_true rfl, Nat.le_of_ble_eq_true rfl⟩) (z_preS hK hW) rfl rfl hl.1 rfl (lv_room (Nat.le_of_ble_eq_true rfl)) dX12_works_390 ⟨Nat.le_of_ble_eq_true rfl, Nat.le_of_ble_eq_true rfl⟩) (fun r u1 H locs hp hW hS => ?_)
                  obtain ⟨e9, hp⟩ := hp
                  rw [e9] at hW
                  refine lv_topl (fun w68 ew68 => ?_)
                  rw [← ew68] at hp
                  have hh69 := hp
                  refine z_last (i := 24) hx hb hK hW hS rfl (z_ix rfl (by omega) (by omega)) dX12_works_393 (fun H locs hz1 hW hS => ?_)
                  obtain ⟨J70, eJ70⟩ : ∃ K : z_J, K = z_up J7 24 y5.toNatClampNeg w68 := ⟨_, rfl⟩
                  rw [← eJ70] at hW
                  obtain ⟨x71, ex71⟩ : ∃ y : Int32, y = y5 + 1 := ⟨_, rfl⟩
                  have tx71 : x71.toInt = y5.toInt + 1 := z_tadd ex71 rfl z_l1 (by omega) (by omega)
                  refine lv_iinc (v := x71) (lv' := [(2, .int x71), (8, .long 1), (6, .long 0), (4, .long 0), (3, .int x17), (0, .ref (ad 0)), (1, .int a1)]) hx hb dX12_works_394 hl (k := 4) rfl (by rw [ex71]; rfl) (by decide) rfl (fun ls hl => ?_)
                  refine lv_goto (tgt := 7) hx hb dX12_works_397 (by decide) ?_
                  exact lp4ih x71 I6 J70 _ _ _ (by omega) (by omega) lp4Nd lp4Asf lp4Ast (by omega) (zw_B_s hod hnn hn9 hR9 hc9 eJ70 (by omega) (by first | (exact (hh69.trans (congrArg zp_h (show (1 : Int64).toInt = 1 by decide))).trans (zw_v13 (by omega) (by omega)).symm) | (exact (hh69.trans (congrArg zp_h (show (1 : Int64).toInt = 1 by decide))).trans (zw_v13n (by omega) (by omega)).symm) | (exfalso; omega)) (by omega)) lp4fr hW hS (lv_sub hl [0, 5, 6] rfl)
            · have g72 := z_f_eq rfl z_l1 c26
              refine lv_aload_n hx hb dX12_works_98 rfl (lv_at hl 5 rfl) ?_
              refine z_get (T := TX12) (N := 96) (ci := 12) (i := 0) (v := .ref (ad 30)) hx hb hts zj_X12_works_X12 hown hK hW rfl rfl 48 (by decide) (hts (.fieldLink RX12 103 "PetrolBoardModel" "asks" "[J") (me_s (me_l (List.mem_of_getElem? (i := 6) rfl)))) (fun _ h => h) rfl dX12_works_99 ?_
              refine lv_aload_n hx hb dX12_works_102 rfl (lv_at hl 5 rfl) ?_
              refine z_get (T := TX12) (N := 96) (ci := 12) (i := 0) (v := .ref (ad 22)) hx hb hts zj_X12_works_X12 hown hK hW rfl rfl 27 (by decide) (hts (.fieldLink RX12 73 "PetrolBoardModel" "nodeA" "[I") (me_s (me_l (List.mem_of_getElem? (i := 4) rfl)))) (fun _ h => h) rfl dX12_works_103 ?_
              refine lv_iload_n hx hb dX12_works_106 rfl (lv_at hl 4 rfl) ?_
              refine z_iald (i := 22) hx hb hK hW rfl (z_ix rfl (by omega) (by omega)) dX12_works_107 ?_
              refine lv_topi (fun x73 ex73 => ?_)
              have h74 := lp4Nd (y5 : Int32).toNatClampNeg
              rw [← ex17, ← ex73] at h74
              have h75 : x73.toInt = n9.2.1 := by rw [ex73, lp4fr 22 _ (z_wr_c (by decide))]; exact hq9.2.1
              refine z_lald (i := 30) hx hb hK hW rfl (z_ix rfl (by omega) (by omega)) dX12_works_108 ?_
              refine lv_topl (fun w76 ew76 => ?_)
              have tw76 : w76.toInt = zw_A J n9.2.1 := (zw_A_y (j := n9.2.1) ew76 (by omega) (by omega) (by omega)).trans (congrFun (zw_A_c hc9) _)
              have b77 := hbA n9.2.1 (by omega) (by omega)
              refine lv_lstore (lv' := [(8, .long w76), (6, .long 0), (4, .long 0), (3, .int x17), (2, .int y5), (0, .ref (ad 0)), (1, .int a1)]) hx hb dX12_works_109 hl (by decide) rfl (fun ls hl => ?_)
              refine lv_goto (tgt := 383) hx hb dX12_works_111 (by decide) ?_
              refine lv_aload_n hx hb dX12_works_383 rfl (lv_at hl 5 rfl) ?_
              refine z_get (T := TX12) (N := 96) (ci := 12) (i := 0) (v := .ref (ad 24)) hx hb hts zj_X12_works_X12 hown hK hW rfl rfl 29 (by decide) (hts (.fieldLink RX12 79 "PetrolBoardModel" "result" "[J") (me_s (me_l (List.mem_of_getElem? (i := 3) rfl)))) (fun _ h => h) rfl dX12_works_384 ?_
              refine lv_iload_n hx hb dX12_works_387 rfl (lv_at hl 4 rfl) ?_
              refine lv_lload hx hb dX12_works_388 (lv_at hl 0 rfl) ?_
              refine z_cl hW hS hA (va_runS (As := [.long w76]) (rest := [.int y5, .ref (ad 24)]) ⟨hx, hb, hml, hown, hts⟩ (sx_X12_held_x l G ad I6 J7  w76 _) (va_cwS 1 hts gX12_works_X12_held rfl rfl rfl (by decide +kernel) ⟨Nat.le_of_ble_eq_true rfl, Nat.le_of_ble_eq_true rfl⟩) (z_preS hK hW) rfl rfl hl.1 rfl (lv_room (Nat.le_of_ble_eq_true rfl)) dX12_works_390 ⟨Nat.le_of_ble_eq_true rfl, Nat.le_of_ble_eq_true rfl⟩) (fun r u1 H locs hp hW hS => ?_)
              obtain ⟨e9, hp⟩ := hp
              rw [e9] at hW
              refine lv_topl (fun w78 ew78 => ?_)
              rw [← ew78] at hp
              have hh79 := hp
              refine z_last (i := 24) hx hb hK hW hS rfl (z_ix rfl (by omega) (by omega)) dX12_works_393 (fun H locs hz1 hW hS => ?_)
              obtain ⟨J80, eJ80⟩ : ∃ K : z_J, K = z_up J7 24 y5.toNatClampNeg w78 := ⟨_, rfl⟩
              rw [← eJ80] at hW
              obtain ⟨x81, ex81⟩ : ∃ y : Int32, y = y5 + 1 := ⟨_, rfl⟩
              have tx81 : x81.toInt = y5.toInt + 1 := z_tadd ex81 rfl z_l1 (by omega) (by omega)
              refine lv_iinc (v := x81) (lv' := [(2, .int x81), (8, .long w76), (6, .long 0), (4, .long 0), (3, .int x17), (0, .ref (ad 0)), (1, .int a1)]) hx hb dX12_works_394 hl (k := 4) rfl (by rw [ex81]; rfl) (by decide) rfl (fun ls hl => ?_)
              refine lv_goto (tgt := 7) hx hb dX12_works_397 (by decide) ?_
              exact lp4ih x81 I6 J80 _ _ _ (by omega) (by omega) lp4Nd lp4Asf lp4Ast (by omega) (zw_B_s hod hnn hn9 hR9 hc9 eJ80 (by omega) (by exact (hh79.trans (congrArg zp_h tw76)).trans (zw_v1 (by omega)).symm) (by omega)) lp4fr hW hS (lv_sub hl [0, 5, 6] rfl)
          · have g82 := z_f_eq rfl z_l0 c24
            refine lv_aload_n hx hb dX12_works_81 rfl (lv_at hl 5 rfl) ?_
            refine z_get (T := TX12) (N := 96) (ci := 12) (i := 0) (v := .ref (ad 22)) hx hb hts zj_X12_works_X12 hown hK hW rfl rfl 27 (by decide) (hts (.fieldLink RX12 73 "PetrolBoardModel" "nodeA" "[I") (me_s (me_l (List.mem_of_getElem? (i := 4) rfl)))) (fun _ h => h) rfl dX12_works_82 ?_
            refine lv_iload_n hx hb dX12_works_85 rfl (lv_at hl 4 rfl) ?_
            refine z_iald (i := 22) hx hb hK hW rfl (z_ix rfl (by omega) (by omega)) dX12_works_86 ?_
            refine lv_topi (fun x83 ex83 => ?_)
            have h84 := lp4Nd (y5 : Int32).toNatClampNeg
            rw [← ex17, ← ex83] at h84
            have h85 : x83.toInt = n9.2.1 := by rw [ex83, lp4fr 22 _ (z_wr_c (by decide))]; exact hq9.2.1
            refine lv_i2l (v := x83.toInt64) hx hb dX12_works_87 rfl ?_
            refine lv_topl (fun w86 ew86 => ?_)
            have tw86 : w86.toInt = x83.toInt := z_ti2l ew86 rfl
            refine lv_lstore (lv' := [(8, .long w86), (6, .long 0), (4, .long 0), (3, .int x17), (2, .int y5), (0, .ref (ad 0)), (1, .int a1)]) hx hb dX12_works_88 hl (by decide) rfl (fun ls hl => ?_)
            refine lv_goto (tgt := 383) hx hb dX12_works_90 (by decide) ?_
            refine lv_aload_n hx hb dX12_works_383 rfl (lv_at hl 5 rfl) ?_
            refine z_get (T := TX12) (N := 96) (ci := 12) (i := 0) (v := .ref (ad 24)) hx hb hts zj_X12_works_X12 hown hK hW rfl rfl 29 (by decide) (hts (.fieldLink RX12 79 "PetrolBoardModel" "result" "[J") (me_s (me_l (List.mem_of_getElem? (i := 3) rfl)))) (fun _ h => h) rfl dX12_works_384 ?_
            refine lv_iload_n hx hb dX12_works_387 rfl (lv_at hl 4 rfl) ?_
            refine lv_lload hx hb dX12_works_388 (lv_at hl 0 rfl) ?_
            refine z_cl hW hS hA (va_runS (As := [.long w86]) (rest := [.int y5, .ref (ad 24)]) ⟨hx, hb, hml, hown, hts⟩ (sx_X12_held_x l G ad I6 J7  w86 _) (va_cwS 1 hts gX12_works_X12_held rfl rfl rfl (by decide +kernel) ⟨Nat.le_of_ble_eq_true rfl, Nat.le_of_ble_eq_true rfl⟩) (z_preS hK hW) rfl rfl hl.1 rfl (lv_room (Nat.le_of_ble_eq_true rfl)) dX12_works_390 ⟨Nat.le_of_ble_eq_true rfl, Nat.le_of_ble_eq_true rfl⟩) (fun r u1 H locs hp hW hS => ?_)
            obtain ⟨e9, hp⟩ := hp
            rw [e9] at hW
            refine lv_topl (fun w87 ew87 => ?_)
            rw [← ew87] at hp
            have hh88 := hp
            refine z_last (i := 24) hx hb hK hW hS rfl (z_ix rfl (by omega) (by omega)) dX12_works_393 (fun H locs hz1 hW hS => ?_)
            obtain ⟨J89, eJ89⟩ : ∃ K : z_J, K = z_up J7 24 y5.toNatClampNeg w87 := ⟨_, rfl⟩
            rw [← eJ89] at hW
            obtain ⟨x90, ex90⟩ : ∃ y : Int32, y = y5 + 1 := ⟨_, rfl⟩
            have tx90 : x90.toInt = y5.toInt + 1 := z_tadd ex90 rfl z_l1 (by omega) (by omega)
            refine lv_iinc (v := x90) (lv' := [(2, .int x90), (8, .long w86), (6, .long 0), (4, .long 0), (3, .int x17), (0, .ref (ad 0)), (1, .int a1)]) hx hb dX12_works_394 hl (k := 4) rfl (by rw [ex90]; rfl) (by decide) rfl (fun ls hl => ?_)
            refine lv_goto (tgt := 7) hx hb dX12_works_397 (by decide) ?_
            exact lp4ih x90 I6 J89 _ _ _ (by omega) (by omega) lp4Nd lp4Asf lp4Ast (by omega) (zw_B_s hod hnn hn9 hR9 hc9 eJ89 (by omega) (by exact (hh88.trans (congrArg zp_h (show w86.toInt = n9.2.1 by omega))).trans (zw_v0 (n := n9) (by omega)).symm) (by omega)) lp4fr hW hS (lv_sub hl [0, 5, 6] rfl)
        · have g91 := z_f_nle rfl z_l1 c19
          have b92 := Int32.toInt_lt x17
          refine lv_aload_n hx hb dX12_works_29 rfl (lv_at hl 2 rfl) ?_
          refine z_get (T := TX12) (N := 96) (ci := 12) (i := 0) (v := .ref (ad 24)) hx hb hts zj_X12_works_X12 hown hK hW rfl rfl 29 (by decide) (hts (.fieldLink RX12 79 "PetrolBoardModel" "result" "[J") (me_s (me_l (List.mem_of_getElem? (i := 3) rfl)))) (fun _ h => h) rfl dX12_works_30 ?_
          refine lv_aload_n hx hb dX12_works_33 rfl (lv_at hl 2 rfl) ?_
          refine z_get (T := TX12) (N := 96) (ci := 12) (i := 0) (v := .ref (ad 22)) hx hb hts zj_X12_works_X12 hown hK hW rfl rfl 27 (by decide) (hts (.fieldLink RX12 73 "PetrolBoardModel" "nodeA" "[I") (me_s (me_l (List.mem_of_getElem? (i := 4) rfl)))) (fun _ h => h) rfl dX12_works_34 ?_
          refine lv_iload_n hx hb dX12_works_37 rfl (lv_at hl 1 rfl) ?_
          refine z_iald (i := 22) hx hb hK hW rfl (z_ix rfl (by omega) (by omega)) dX12_works_38 ?_
          refine lv_topi (fun x93 ex93 => ?_)
          have h94 := lp4Nd (y5 : Int32).toNatClampNeg
          rw [← ex17, ← ex93] at h94
          have h95 : x93.toInt = n9.2.1 := by rw [ex93, lp4fr 22 _ (z_wr_c (by decide))]; exact hq9.2.1
          refine z_lald (i := 24) hx hb hK hW rfl (z_ix rfl (by omega) (by omega)) dX12_works_39 ?_
          refine lv_topl (fun w96 ew96 => ?_)
          have tw96 := zw_R_y (j := n9.2.1) ew96 (by omega) (by omega)
          have b97 := zw_RV_b _ _ n9.2.1 hR9 (by omega) (by rw [hlt9]; omega)
          refine lv_goto (tgt := 44) hx hb dX12_works_40 (by decide) ?_
          refine lv_lstore (lv' := [(4, .long w96), (3, .int x17), (2, .int y5), (0, .ref (ad 0)), (1, .int a1)]) hx hb dX12_works_44 hl (by decide) rfl (fun ls hl => ?_)
          refine lv_iload_n hx hb dX12_works_46 rfl (lv_at hl 1 rfl) ?_
          refine lv_iconst (v := 1) hx hb dX12_works_47 (by decide) ?_
          refine lv_icmp_le (tgt := 71) hx hb dX12_works_48 (by decide) (fun c98 => (by have g := z_f_le rfl z_l1 c98; omega)) (fun c98 => ?_)
          have g99 := z_f_nle rfl z_l1 c98
          refine lv_iload_n hx hb dX12_works_51 rfl (lv_at hl 1 rfl) ?_
          refine lv_bipush (v := 11) hx hb dX12_works_52 (by decide) ?_
          refine lv_icmp_eq (tgt := 71) hx hb dX12_works_54 (by decide) (fun c100 => ?_) (fun c100 => ?_)
          · have g101 := z_f_eq rfl z_l11 c100
            refine lv_lconst (v := 0) hx hb dX12_works_71 (by decide) ?_
            refine lv_lstore (lv' := [(6, .long 0), (4, .long w96), (3, .int x17), (2, .int y5), (0, .ref (ad 0)), (1, .int a1)]) hx hb dX12_works_72 hl (by decide) rfl (fun ls hl => ?_)
            refine lv_lconst (v := 0) hx hb dX12_works_74 (by decide) ?_
            refine lv_lstore (lv' := [(8, .long 0), (6, .long 0), (4, .long w96), (3, .int x17), (2, .int y5), (0, .ref (ad 0)), (1, .int a1)]) hx hb dX12_works_75 hl (by decide) rfl (fun ls hl => ?_)
            refine lv_iload_n hx hb dX12_works_77 rfl (lv_at hl 3 rfl) ?_
            refine lv_if_ne (tgt := 93) hx hb dX12_works_78 (by decide) (fun c102 => ?_) (fun c102 => (by have g := z_f_eq rfl z_l0 c102; omega))
            have g103 := z_f_ne rfl z_l0 c102
            refine lv_iload_n hx hb dX12_works_93 rfl (lv_at hl 3 rfl) ?_
            refine lv_iconst (v := 1) hx hb dX12_works_94 (by decide) ?_
            refine lv_icmp_ne (tgt := 114) hx hb dX12_works_95 (by decide) (fun c104 => ?_) (fun c104 => (by have g := z_f_eq rfl z_l1 c104; omega))
            have g105 := z_f_ne rfl z_l1 c104
            refine lv_iload_n hx hb dX12_works_114 rfl (lv_at hl 3 rfl) ?_
            refine lv_iconst (v := 2) hx hb dX12_works_115 (by decide) ?_
            refine lv_icmp_ne (tgt := 129) hx hb dX12_works_116 (by decide) (fun c106 => ?_) (fun c106 => (by have g := z_f_eq rfl z_l2 c106; omega))
            have g107 := z_f_ne rfl z_l2 c106
            refine lv_iload_n hx hb dX12_works_129 rfl (lv_at hl 3 rfl) ?_
            refine lv_iconst (v := 3) hx hb dX12_works_130 (by decide) ?_
            refine lv_icmp_ne (tgt := 144) hx hb dX12_works_131 (by decide) (fun c108 => ?_) (fun c108 => (by have g := z_f_eq rfl z_l3 c108; omega))
            have g109 := z_f_ne rfl z_l3 c108
            refine lv_iload_n hx hb dX12_works_144 rfl (lv_at hl 3 rfl) ?_
            refine lv_iconst (v := 4) hx hb dX12_works_145 (by decide) ?_
            refine lv_icmp_ne (tgt := 159) hx hb dX12_works_146 (by decide) (fun c110 => ?_) (fun c110 => (by have g := z_f_eq rfl z_l4 c110; omega))
            have g111 := z_f_ne rfl z_l4 c110
            refine lv_iload_n hx hb dX12_works_159 rfl (lv_at hl 3 rfl) ?_
            refine lv_iconst (v := 5) hx hb dX12_works_160 (by decide) ?_
            refine lv_icmp_ne (tgt := 185) hx hb dX12_works_161 (by decide) (fun c112 => ?_) (fun c112 => (by have g := z_f_eq rfl z_l5 c112; omega))
            have g113 := z_f_ne rfl z_l5 c112
            refine lv_iload_n hx hb dX12_works_185 rfl (lv_at hl 3 rfl) ?_
            refine lv_bipush (v := 6) hx hb dX12_works_186 (by decide) ?_
            refine lv_icmp_ne (tgt := 211) hx hb dX12_works_188 (by decide) (fun c114 => ?_) (fun c114 => (by have g := z_f_eq rfl z_l6 c114; omega))
            have g115 := z_f_ne rfl z_l6 c114
            refine lv_iload_n hx hb dX12_works_211 rfl (lv_at hl 3 rfl) ?_
            refine lv_bipush (v := 7) hx hb dX12_works_212 (by decide) ?_
            refine lv_icmp_ne (tgt := 237) hx hb dX12_works_214 (by decide) (fun c116 => ?_) (fun c116 => (by have g := z_f_eq rfl z_l7 c116; omega))
            have g117 := z_f_ne rfl z_l7 c116
            refine lv_iload_n hx hb dX12_works_237 rfl (lv_at hl 3 rfl) ?_
            refine lv_bipush (v := 8) hx hb dX12_works_238 (by decide) ?_
            refine lv_icmp_ne (tgt := 261) hx hb dX12_works_240 (by decide) (fun c118 => ?_) (fun c118 => (by have g := z_f_eq rfl z_l8 c118; omega))
            have g119 := z_f_ne rfl z_l8 c118
            refine lv_iload_n hx hb dX12_works_261 rfl (lv_at hl 3 rfl) ?_
            refine lv_bipush (v := 9) hx hb dX12_works_262 (by decide) ?_
            refine lv_icmp_ne (tgt := 285) hx hb dX12_works_264 (by decide) (fun c120 => ?_) (fun c120 => (by have g := z_f_eq rfl z_l9 c120; omega))
            have g121 := z_f_ne rfl z_l9 c120
            refine lv_iload_n hx hb dX12_works_285 rfl (lv_at hl 3 rfl) ?_
            refine lv_bipush (v := 10) hx hb dX12_works_286 (by decide) ?_
            refine lv_icmp_ne (tgt := 309) hx hb dX12_works_288 (by decide) (fun c122 => ?_) (fun c122 => (by have g := z_f_eq rfl z_l10 c122; omega))
            have g123 := z_f_ne rfl z_l10 c122
            refine lv_iload_n hx hb dX12_works_309 rfl (lv_at hl 3 rfl) ?_
            refine lv_bipush (v := 11) hx hb dX12_works_310 (by decide) ?_
            refine lv_icmp_ne (tgt := 332) hx hb dX12_works_312 (by decide) (fun c124 => (by have g := z_f_ne rfl z_l11 c124; omega)) (fun c124 => ?_)
            have g125 := z_f_eq rfl z_l11 c124
            refine lv_lload hx hb dX12_works_315 (lv_at hl 2 rfl) ?_
            refine lv_lconst (v := 0) hx hb dX12_works_317 (by decide) ?_
            refine W.lcmp hx hb dX12_works_318 ?_
            refine lv_topi (fun x126 ex126 => ?_)
            have tx126 := z_tcmp ex126
            have h127 := z_tlcmp ex126 tw96 (show (0 : Int64).toInt = 0 by decide)
            refine lv_if_ne (tgt := 326) hx hb dX12_works_319 (by decide) (fun c128 => ?_) (fun c128 => ?_)
            · have g129 := z_f_ne rfl z_l0 c128
              refine lv_lconst (v := 0) hx hb dX12_works_326 (by decide) ?_
              refine lv_lstore (lv' := [(8, .long 0), (6, .long 0), (4, .long w96), (3, .int x17), (2, .int y5), (0, .ref (ad 0)), (1, .int a1)]) hx hb dX12_works_327 hl (by decide) rfl (fun ls hl => ?_)
              refine lv_goto (tgt := 383) hx hb dX12_works_329 (by decide) ?_
              refine lv_aload_n hx hb dX12_works_383 rfl (lv_at hl 5 rfl) ?_
              refine z_get (T := TX12) (N := 96) (ci := 12) (i := 0) (v := .ref (ad 24)) hx hb hts zj_X12_works_X12 hown hK hW rfl rfl 29 (by decide) (hts (.fieldLink RX12 79 "PetrolBoardModel" "result" "[J") (me_s (me_l (List.mem_of_getElem? (i := 3) rfl)))) (fun _ h => h) rfl dX12_works_384 ?_
              refine lv_iload_n hx hb dX12_works_387 rfl (lv_at hl 4 rfl) ?_
              refine lv_lload hx hb dX12_works_388 (lv_at hl 0 rfl) ?_
              refine z_cl hW hS hA (va_runS (As := [.long 0]) (rest := [.int y5, .ref (ad 24)]) ⟨hx, hb, hml, hown, hts⟩ (sx_X12_held_x l G ad I6 J7  0 _) (va_cwS 1 hts gX12_works_X12_held rfl rfl rfl (by decide +kernel) ⟨Nat.le_of_ble_eq_true rfl, Nat.le_of_ble_eq_true rfl⟩) (z_preS hK hW) rfl rfl hl.1 rfl (lv_room (Nat.le_of_ble_eq_true rfl)) dX12_works_390 ⟨Nat.le_of_ble_eq_true rfl, Nat.le_of_ble_eq_true rfl⟩) (fun r u1 H locs hp hW hS => ?_)
              obtain ⟨e9, hp⟩ := hp
              rw [e9] at hW
              refine lv_topl (fun w130 ew130 => ?_)
              rw [← ew130] at hp
              have hh131 := hp
              refine z_last (i := 24) hx hb hK hW hS rfl (z_ix rfl (by omega) (by omega)) dX12_works_393 (fun H locs hz1 hW hS => ?_)
              obtain ⟨J132, eJ132⟩ : ∃ K : z_J, K = z_up J7 24 y5.toNatClampNeg w130 := ⟨_, rfl⟩
              rw [← eJ132] at hW
              obtain ⟨x133, ex133⟩ : ∃ y : Int32, y = y5 + 1 := ⟨_, rfl⟩
              have tx133 : x133.toInt = y5.toInt + 1 := z_tadd ex133 rfl z_l1 (by omega) (by omega)
              refine lv_iinc (v := x133) (lv' := [(2, .int x133), (8, .long 0), (6, .long 0), (4, .long w96), (3, .int x17), (0, .ref (ad 0)), (1, .int a1)]) hx hb dX12_works_394 hl (k := 4) rfl (by rw [ex133]; rfl) (by decide) rfl (fun ls hl => ?_)
              refine lv_goto (tgt := 7) hx hb dX12_works_397 (by decide) ?_
              exact lp4ih x133 I6 J132 _ _ _ (by omega) (by omega) lp4Nd lp4Asf lp4Ast (by omega) (zw_B_s hod hnn hn9 hR9 hc9 eJ132 (by omega) (by first | (exact (hh131.trans (congrArg zp_h (show (0 : Int64).toInt = 0 by decide))).trans (zw_v11 (by omega) (by omega)).symm) | (exact (hh131.trans (congrArg zp_h (show (0 : Int64).toInt = 0 by decide))).trans (zw_v11n (by omega) (by omega)).symm)) (by omega)) lp4fr hW hS (lv_sub hl [0, 5, 6] rfl)
            · have g134 := z_f_eq rfl z_l0 c128
              refine lv_lconst (v := 1) hx hb dX12_works_322 (by decide) ?_
              refine lv_goto (tgt := 327) hx hb dX12_works_323 (by decide) ?_
              refine lv_lstore (lv' := [(8, .long 1), (6, .long 0), (4, .long w96), (3, .int x17), (2, .int y5), (0, .ref (ad 0)), (1, .int a1)]) hx hb dX12_works_327 hl (by decide) rfl (fun ls hl => ?_)
              refine lv_goto (tgt := 383) hx hb dX12_works_329 (by decide) ?_
              refine lv_aload_n hx hb dX12_works_383 rfl (lv_at hl 5 rfl) ?_
              refine z_get (T := TX12) (N := 96) (ci := 12) (i := 0) (v := .ref (ad 24)) hx hb hts zj_X12_works_X12 hown hK hW rfl rfl 29 (by decide) (hts (.fieldLink RX12 79 "PetrolBoardModel" "result" "[J") (me_s (me_l (List.mem_of_getElem? (i := 3) rfl)))) (fun _ h => h) rfl dX12_works_384 ?_
              refine lv_iload_n hx hb dX12_works_387 rfl (lv_at hl 4 rfl) ?_
              refine lv_lload hx hb dX12_works_388 (lv_at hl 0 rfl) ?_
              refine z_cl hW hS hA (va_runS (As := [.long 1]) (rest := [.int y5, .ref (ad 24)]) ⟨hx, hb, hml, hown, hts⟩ (sx_X12_held_x l G ad I6 J7  1 _) (va_cwS 1 hts gX12_works_X12_held rfl rfl rfl (by decide +kernel) ⟨Nat.le_of_ble_eq_true rfl, Nat.le_of_ble_eq_true rfl⟩) (z_preS hK hW) rfl rfl hl.1 rfl (lv_room (Nat.le_of_ble_eq_true rfl)) dX12_works_390 ⟨Nat.le_of_ble_eq_true rfl, Nat.le_of_ble_eq_true rfl⟩) (fun r u1 H locs hp hW hS => ?_)
              obtain ⟨e9, hp⟩ := hp
              rw [e9] at hW
              refine lv_topl (fun w135 ew135 => ?_)
              rw [← ew135] at hp
              have hh136 := hp
              refine z_last (i := 24) hx hb hK hW hS rfl (z_ix rfl (by omega) (by omega)) dX12_works_393 (fun H locs hz1 hW hS => ?_)
              obtain ⟨J137, eJ137⟩ : ∃ K : z_J, K = z_up J7 24 y5.toNatClampNeg w135 := ⟨_, rfl⟩
              rw [← eJ137] at hW
              obtain ⟨x138, ex138⟩ : ∃ y : Int32, y = y5 + 1 := ⟨_, rfl⟩
              have tx138 : x138.toInt = y5.toInt + 1 := z_tadd ex138 rfl z_l1 (by omega) (by omega)
              refine lv_iinc (v := x138) (lv' := [(2, .int x138), (8, .long 1), (6, .long 0), (4, .long w96), (3, .int x17), (0, .ref (ad 0)), (1, .int a1)]) hx hb dX12_works_394 hl (k := 4) rfl (by rw [ex138]; rfl) (by decide) rfl (fun ls hl => ?_)
              refine lv_goto (tgt := 7) hx hb dX12_works_397 (by decide) ?_
              exact lp4ih x138 I6 J137 _ _ _ (by omega) (by omega) lp4Nd lp4Asf lp4Ast (by omega) (zw_B_s hod hnn hn9 hR9 hc9 eJ137 (by omega) (by first | (exact (hh136.trans (congrArg zp_h (show (1 : Int64).toInt = 1 by decide))).trans (zw_v11 (by omega) (by omega)).symm) | (exact (hh136.trans (congrArg zp_h (show (1 : Int64).toInt = 1 by decide))).trans (zw_v11n (by omega) (by omega)).symm)) (by omega)) lp4fr hW hS (lv_sub hl [0, 5, 6] rfl)
          · have g139 := z_f_ne rfl z_l11 c100
            refine lv_aload_n hx hb dX12_works_57 rfl (lv_at hl 3 rfl) ?_
            refine z_get (T := TX12) (N := 96) (ci := 12) (i := 0) (v := .ref (ad 24)) hx hb hts zj_X12_works_X12 hown hK hW rfl rfl 29 (by decide) (hts (.fieldLink RX12 79 "PetrolBoardModel" "result" "[J") (me_s (me_l (List.mem_of_getElem? (i := 3) rfl)))) (fun _ h => h) rfl dX12_works_58 ?_
            refine lv_aload_n hx hb dX12_works_61 rfl (lv_at hl 3 rfl) ?_
            refine z_get (T := TX12) (N := 96) (ci := 12) (i := 0) (v := .ref (ad 23)) hx hb hts zj_X12_works_X12 hown hK hW rfl rfl 28 (by decide) (hts (.fieldLink RX12 76 "PetrolBoardModel" "nodeB" "[I") (me_s (me_l (List.mem_of_getElem? (i := 5) rfl)))) (fun _ h => h) rfl dX12_works_62 ?_
            refine lv_iload_n hx hb dX12_works_65 rfl (lv_at hl 2 rfl) ?_
            refine z_iald (i := 23) hx hb hK hW rfl (z_ix rfl (by omega) (by omega)) dX12_works_66 ?_
            refine lv_topi (fun x140 ex140 => ?_)
            have h141 := lp4Nd (y5 : Int32).toNatClampNeg
            rw [← ex17, ← ex140] at h141
            have h142 : x140.toInt = n9.2.2 := by rw [ex140, lp4fr 23 _ (z_wr_c (by decide))]; exact hq9.2.2
            refine z_lald (i := 24) hx hb hK hW rfl (z_ix rfl (by omega) (by omega)) dX12_works_67 ?_
            refine lv_topl (fun w143 ew143 => ?_)
            have tw143 := zw_R_y (j := n9.2.2) ew143 (by omega) (by omega)
            have b144 := zw_RV_b _ _ n9.2.2 hR9 (by omega) (by rw [hlt9]; omega)
            refine lv_goto (tgt := 72) hx hb dX12_works_68 (by decide) ?_
            refine lv_lstore (lv' := [(6, .long w143), (4, .long w96), (3, .int x17), (2, .int y5), (0, .ref (ad 0)), (1, .int a1)]) hx hb dX12_works_72 hl (by decide) rfl (fun ls hl => ?_)
            refine lv_lconst (v := 0) hx hb dX12_works_74 (by decide) ?_
            refine lv_lstore (lv' := [(8, .long 0), (6, .long w143), (4, .long w96), (3, .int x17), (2, .int y5), (0, .ref (ad 0)), (1, .int a1)]) hx hb dX12_works_75 hl (by decide) rfl (fun ls hl => ?_)
            refine lv_iload_n hx hb dX12_works_77 rfl (lv_at hl 3 rfl) ?_
            refine lv_if_ne (tgt := 93) hx hb dX12_works_78 (by decide) (fun c145 => ?_) (fun c145 => (by have g := z_f_eq rfl z_l0 c145; omega))
            have g146 := z_f_ne rfl z_l0 c145
            refine lv_iload_n hx hb dX12_works_93 rfl (lv_at hl 3 rfl) ?_
            refine lv_iconst (v := 1) hx hb dX12_works_94 (by decide) ?_
            refine lv_icmp_ne (tgt := 114) hx hb dX12_works_95 (by decide) (fun c147 => ?_) (fun c147 => (by have g := z_f_eq rfl z_l1 c147; omega))
            have g148 := z_f_ne rfl z_l1 c147
            refine lv_iload_n hx hb dX12_works_114 rfl (lv_at hl 3 rfl) ?_
            refine lv_iconst (v := 2) hx hb dX12_works_115 (by decide) ?_
            refine lv_icmp_ne (tgt := 129) hx hb dX12_works_116 (by decide) (fun c149 => ?_) (fun c149 => ?_)
            · have g150 := z_f_ne rfl z_l2 c149
              refine lv_iload_n hx hb dX12_works_129 rfl (lv_at hl 3 rfl) ?_
              refine lv_iconst (v := 3) hx hb dX12_works_130 (by decide) ?_
              refine lv_icmp_ne (tgt := 144) hx hb dX12_works_131 (by decide) (fun c151 => ?_) (fun c151 => ?_)
              · have g152 := z_f_ne rfl z_l3 c151
                refine lv_iload_n hx hb dX12_works_144 rfl (lv_at hl 3 rfl) ?_
                refine lv_iconst (v := 4) hx hb dX12_works_145 (by decide) ?_
                refine lv_icmp_ne (tgt := 159) hx hb dX12_works_146 (by decide) (fun c153 => ?_) (fun c153 => ?_)
                · have g154 := z_f_ne rfl z_l4 c153
                  refine lv_iload_n hx hb dX12_works_159 rfl (lv_at hl 3 rfl) ?_
                  refine lv_iconst (v := 5) hx hb dX12_works_160 (by decide) ?_
                  refine lv_icmp_ne (tgt := 185) hx hb dX12_works_161 (by decide) (fun c155 => ?_) (fun c155 => ?_)
                  · have g156 := z_f_ne rfl z_l5 c155
                    refine lv_iload_n hx hb dX12_works_185 rfl (lv_at hl 3 rfl) ?_
                    refine lv_bipush (v := 6) hx hb dX12_works_186 (by decide) ?_
                    refine lv_icmp_ne (tgt := 211) hx hb dX12_works_188 (by decide) (fun c157 => ?_) (fun c157 => ?_)
                    · have g158 := z_f_ne rfl z_l6 c157
                      refine lv_iload_n hx hb dX12_works_211 rfl (lv_at hl 3 rfl) ?_
                      refine lv_bipush (v := 7) hx hb dX12_works_212 (by decide) ?_
                      refine lv_icmp_ne (tgt := 237) hx hb dX12_works_214 (by decide) (fun c159 => ?_) (fun c159 => ?_)
                      · have g160 := z_f_ne rfl z_l7 c159
                        refine lv_iload_n hx hb dX12_works_237 rfl (lv_at hl 3 rfl) ?_
                        refine lv_bipush (v := 8) hx hb dX12_works_238 (by decide) ?_
                        refine lv_icmp_ne (tgt := 261) hx hb dX12_works_240 (by decide) (fun c161 => ?_) (fun c161 => ?_)
                        · have g162 := z_f_ne rfl z_l8 c161
                          refine lv_iload_n hx hb dX12_works_261 rfl (lv_at hl 3 rfl) ?_
                          refine lv_bipush (v := 9) hx hb dX12_works_262 (by decide) ?_
                          refine lv_icmp_ne (tgt := 285) hx hb dX12_works_264 (by decide) (fun c163 => ?_) (fun c163 => ?_)
                          · have g164 := z_f_ne rfl z_l9 c163
                            refine lv_iload_n hx hb dX12_works_285 rfl (lv_at hl 3 rfl) ?_
                            refine lv_bipush (v := 10) hx hb dX12_works_286 (by decide) ?_
                            refine lv_icmp_ne (tgt := 309) hx hb dX12_works_288 (by decide) (fun c165 => ?_) (fun c165 => ?_)
                            · have g166 := z_f_ne rfl z_l10 c165
                              refine lv_iload_n hx hb dX12_works_309 rfl (lv_at hl 3 rfl) ?_
                              refine lv_bipush (v := 11) hx hb dX12_works_310 (by decide) ?_
                              refine lv_icmp_ne (tgt := 332) hx hb dX12_works_312 (by decide) (fun c167 => ?_) (fun c167 => (by have g := z_f_eq rfl z_l11 c167; omega))
                              have g168 := z_f_ne rfl z_l11 c167
                              refine lv_iload_n hx hb dX12_works_332 rfl (lv_at hl 3 rfl) ?_
                              refine lv_bipush (v := 12) hx hb dX12_works_333 (by decide) ?_
                              refine lv_icmp_ne (tgt := 362) hx hb dX12_works_335 (by decide) (fun c169 => ?_) (fun c169 => ?_)
                              · have g170 := z_f_ne rfl z_l12 c169
                                refine lv_lload hx hb dX12_works_362 (lv_at hl 2 rfl) ?_
                                refine lv_lconst (v := 0) hx hb dX12_works_364 (by decide) ?_
                                refine W.lcmp hx hb dX12_works_365 ?_
                                refine lv_topi (fun x171 ex171 => ?_)
                                have tx171 := z_tcmp ex171
                                have h172 := z_tlcmp ex171 tw96 (show (0 : Int64).toInt = 0 by decide)
                                refine lv_if_ne (tgt := 376) hx hb dX12_works_366 (by decide) (fun c173 => ?_) (fun c173 => ?_)
                                · have g174 := z_f_ne rfl z_l0 c173
                                  refine lv_lconst (v := 1) hx hb dX12_works_376 (by decide) ?_
                                  refine lv_goto (tgt := 381) hx hb dX12_works_377 (by decide) ?_
                                  refine lv_lstore (lv' := [(8, .long 1), (6, .long w143), (4, .long w96), (3, .int x17), (2, .int y5), (0, .ref (ad 0)), (1, .int a1)]) hx hb dX12_works_381 hl (by decide) rfl (fun ls hl => ?_)
                                  refine lv_aload_n hx hb dX12_works_383 rfl (lv_at hl 5 rfl) ?_
                                  refine z_get (T := TX12) (N := 96) (ci := 12) (i := 0) (v := .ref (ad 24)) hx hb hts zj_X12_works_X12 hown hK hW rfl rfl 29 (by decide) (hts (.fieldLink RX12 79 "PetrolBoardModel" "result" "[J") (me_s (me_l (List.mem_of_getElem? (i := 3) rfl)))) (fun _ h => h) rfl dX12_works_384 ?_
                                  refine lv_iload_n hx hb dX12_works_387 rfl (lv_at hl 4 rfl) ?_
                                  refine lv_lload hx hb dX12_works_388 (lv_at hl 0 rfl) ?_
                                  refine z_cl hW hS hA (va_runS (As := [.long 1]) (rest := [.int y5, .ref (ad 24)]) ⟨hx, hb, hml, hown, hts⟩ (sx_X12_held_x l G ad I6 J7  1 _) (va_cwS 1 hts gX12_works_X12_held rfl rfl rfl (by decide +kernel) ⟨Nat.le_of_ble_eq_true rfl, Nat.le_of_ble_eq_true rfl⟩) (z_preS hK hW) rfl rfl hl.1 rfl (lv_room (Nat.le_of_ble_eq_true rfl)) dX12_works_390 ⟨Nat.le_of_ble_eq_true rfl, Nat.le_of_ble_eq_true rfl⟩) (fun r u1 H locs hp hW hS => ?_)
                                  obtain ⟨e9, hp⟩ := hp
                                  rw [e9] at hW
                                  refine lv_topl (fun w175 ew175 => ?_)
                                  rw [← ew175] at hp
                                  have hh176 := hp
                                  refine z_last (i := 24) hx hb hK hW hS rfl (z_ix rfl (by omega) (by omega)) dX12_works_393 (fun H locs hz1 hW hS => ?_)
                                  obtain ⟨J177, eJ177⟩ : ∃ K : z_J, K = z_up J7 24 y5.toNatClampNeg w175 := ⟨_, rfl⟩
                                  rw [← eJ177] at hW
                                  obtain ⟨x178, ex178⟩ : ∃ y : Int32, y = y5 + 1 := ⟨_, rfl⟩
                                  have tx178 : x178.toInt = y5.toInt + 1 := z_tadd ex178 rfl z_l1 (by omega) (by omega)
                                  refine lv_iinc (v := x178) (lv' := [(2, .int x178), (8, .long 1), (6, .long w143), (4, .long w96), (3, .int x17), (0, .ref (ad 0)), (1, .int a1)]) hx hb dX12_works_394 hl (k := 4) rfl (by rw [ex178]; rfl) (by decide) rfl (fun ls hl => ?_)
                                  refine lv_goto (tgt := 7) hx hb dX12_works_397 (by decide) ?_
                                  exact lp4ih x178 I6 J177 _ _ _ (by omega) (by omega) lp4Nd lp4Asf lp4Ast (by omega) (zw_B_s hod hnn hn9 hR9 hc9 eJ177 (by omega) (by first | (exact (hh176.trans (congrArg zp_h (show (1 : Int64).toInt = 1 by decide))).trans (zw_v13 (by omega) (by omega)).symm) | (exact (hh176.trans (congrArg zp_h (show (1 : Int64).toInt = 1 by decide))).trans (zw_v13n (by omega) (by omega)).symm) | (exfalso; omega)) (by omega)) lp4fr hW hS (lv_sub hl [0, 5, 6] rfl)
                                · have g179 := z_f_eq rfl z_l0 c173
                                  refine lv_lload hx hb dX12_works_369 (lv_at hl 1 rfl) ?_
                                  refine lv_lconst (v := 0) hx hb dX12_works_371 (by decide) ?_
                                  refine W.lcmp hx hb dX12_works_372 ?_
                                  refine lv_topi (fun x180 ex180 => ?_)
                                  have tx180 := z_tcmp ex180
                                  have h181 := z_tlcmp ex180 tw143 (show (0 : Int64).toInt = 0 by decide)
                                  refine lv_if_eq (tgt := 380) hx hb dX12_works_373 (by decide) (fun c182 => ?_) (fun c182 => ?_)
                                  · have g183 := z_f_eq rfl z_l0 c182
                                    refine lv_lconst (v := 0) hx hb dX12_works_380 (by decide) ?_
                                    refine lv_lstore (lv' := [(8, .long 0), (6, .long w143), (4, .long w96), (3, .int x17), (2, .int y5), (0, .ref (ad 0)), (1, .int a1)]) hx hb dX12_works_381 hl (by decide) rfl (fun ls hl => ?_)
                                    refine lv_aload_n hx hb dX12_works_383 rfl (lv_at hl 5 rfl) ?_
                                    refine z_get (T := TX12) (N := 96) (ci := 12) (i := 0) (v := .ref (ad 24)) hx hb hts zj_X12_works_X12 hown hK hW rfl rfl 29 (by decide) (hts (.fieldLink RX12 79 "PetrolBoardModel" "result" "[J") (me_s (me_l (List.mem_of_getElem? (i := 3) rfl)))) (fun _ h => h) rfl dX12_works_384 ?_
                                    refine lv_iload_n hx hb dX12_works_387 rfl (lv_at hl 4 rfl) ?_
                                    refine lv_lload hx hb dX12_works_388 (lv_at hl 0 rfl) ?_
                                    refine z_cl hW hS hA (va_runS (As := [.long 0]) (rest := [.int y5, .ref (ad 24)]) ⟨hx, hb, hml, hown, hts⟩ (sx_X12_held_x l G ad I6 J7  0 _) (va_cwS 1 hts gX12_works_X12_held rfl rfl rfl (by decide +kernel) ⟨Nat.le_of_ble_eq_true rfl, Nat.le_of_ble_eq_true rfl⟩) (z_preS hK hW) rfl rfl hl.1 rfl (lv_room (Nat.le_of_ble_eq_true rfl)) dX12_works_390 ⟨Nat.le_of_ble_eq_true rfl, Nat.le_of_ble_eq_true rfl⟩) (fun r u1 H locs hp hW hS => ?_)
                                    obtain ⟨e9, hp⟩ := hp
                                    rw [e9] at hW
                                    refine lv_topl (fun w184 ew184 => ?_)
                                    rw [← ew184] at hp
                                    have hh185 := hp
                                    refine z_last (i := 24) hx hb hK hW hS rfl (z_ix rfl (by omega) (by omega)) dX12_works_393 (fun H locs hz1 hW hS => ?_)
                                    obtain ⟨J186, eJ186⟩ : ∃ K : z_J, K = z_up J7 24 y5.toNatClampNeg w184 := ⟨_, rfl⟩
                                    rw [← eJ186] at hW
                                    obtain ⟨x187, ex187⟩ : ∃ y : Int32, y = y5 + 1 := ⟨_, rfl⟩
                                    have tx187 : x187.toInt = y5.toInt + 1 := z_tadd ex187 rfl z_l1 (by omega) (by omega)
                                    refine lv_iinc (v := x187) (lv' := [(2, .int x187), (8, .long 0), (6, .long w143), (4, .long w96), (3, .int x17), (0, .ref (ad 0)), (1, .int a1)]) hx hb dX12_works_394 hl (k := 4) rfl (by rw [ex187]; rfl) (by decide) rfl (fun ls hl => ?_)
                                    refine lv_goto (tgt := 7) hx hb dX12_works_397 (by decide) ?_
                                    exact lp4ih x187 I6 J186 _ _ _ (by omega) (by omega) lp4Nd lp4Asf lp4Ast (by omega) (zw_B_s hod hnn hn9 hR9 hc9 eJ186 (by omega) (by first | (exact (hh185.trans (congrArg zp_h (show (0 : Int64).toInt = 0 by decide))).trans (zw_v13 (by omega) (by omega)).symm) | (exact (hh185.trans (congrArg zp_h (show (0 : Int64).toInt = 0 by decide))).trans (zw_v13n (by omega) (by omega)).symm) | (exfalso; omega)) (by omega)) lp4fr hW hS (lv_sub hl [0, 5, 6] rfl)
                                  · have g188 := z_f_ne rfl z_l0 c182
                                    refine lv_lconst (v := 1) hx hb dX12_works_376 (by decide) ?_
                                    refine lv_goto (tgt := 381) hx hb dX12_works_377 (by decide) ?_
                                    refine lv_lstore (lv' := [(8, .long 1), (6, .long w143), (4, .long w96), (3, .int x17), (2, .int y5), (0, .ref (ad 0)), (1, .int a1)]) hx hb dX12_works_381 hl (by decide) rfl (fun ls hl => ?_)
                                    refine lv_aload_n hx hb dX12_works_383 rfl (lv_at hl 5 rfl) ?_
                                    refine z_get (T := TX12) (N := 96) (ci := 12) (i := 0) (v := .ref (ad 24)) hx hb hts zj_X12_works_X12 hown hK hW rfl rfl 29 (by decide) (hts (.fieldLink RX12 79 "PetrolBoardModel" "result" "[J") (me_s (me_l (List.mem_of_getElem? (i := 3) rfl)))) (fun _ h => h) rfl dX12_works_384 ?_
                                    refine lv_iload_n hx hb dX12_works_387 rfl (lv_at hl 4 rfl) ?_
                                    refine lv_lload hx hb dX12_works_388 (lv_at hl 0 rfl) ?_
                                    refine z_cl hW hS hA (va_runS (As := [.long 1]) (rest := [.int y5, .ref (ad 24)]) ⟨hx, hb, hml, hown, hts⟩ (sx_X12_held_x l G ad I6 J7  1 _) (va_cwS 1 hts gX12_works_X12_held rfl rfl rfl (by decide +kernel) ⟨Nat.le_of_ble_eq_true rfl, Nat.le_of_ble_eq_true rfl⟩) (z_preS hK hW) rfl rfl hl.1 rfl (lv_room (Nat.le_of_ble_eq_true rfl)) dX12_works_390 ⟨Nat.le_of_ble_eq_true rfl, Nat.le_of_ble_eq_true rfl⟩) (fun r u1 H locs hp hW hS => ?_)
                                    obtain ⟨e9, hp⟩ := hp
                                    rw [e9] at hW
                                    refine lv_topl (fun w189 ew189 => ?_)
                                    rw [← ew189] at hp
                                    have hh190 := hp
                                    refine z_last (i := 24) hx hb hK hW hS rfl (z_ix rfl (by omega) (by omega)) dX12_works_393 (fun H locs hz1 hW hS => ?_)
                                    obtain ⟨J191, eJ191⟩ : ∃ K : z_J, K = z_up J7 24 y5.toNatClampNeg w189 := ⟨_, rfl⟩
                                    rw [← eJ191] at hW
                                    obtain ⟨x192, ex192⟩ : ∃ y : Int32, y = y5 + 1 := ⟨_, rfl⟩
                                    have tx192 : x192.toInt = y5.toInt + 1 := z_tadd ex192 rfl z_l1 (by omega) (by omega)
                                    refine lv_iinc (v := x192) (lv' := [(2, .int x192), (8, .long 1), (6, .long w143), (4, .long w96), (3, .int x17), (0, .ref (ad 0)), (1, .int a1)]) hx hb dX12_works_394 hl (k := 4) rfl (by rw [ex192]; rfl) (by decide) rfl (fun ls hl => ?_)
                                    refine lv_goto (tgt := 7) hx hb dX12_works_397 (by decide) ?_
                                    exact lp4ih x192 I6 J191 _ _ _ (by omega) (by omega) lp4Nd lp4Asf lp4Ast (by omega) (zw_B_s hod hnn hn9 hR9 hc9 eJ191 (by omega) (by first | (exact (hh190.trans (congrArg zp_h (show (1 : Int64).toInt = 1 by decide))).trans (zw_v13 (by omega) (by omega)).symm) | (exact (hh190.trans (congrArg zp_h (show (1 : Int64).toInt = 1 by decide))).trans (zw_v13n (by omega) (by omega)).symm) | (exfalso; omega)) (by omega)) lp4fr hW hS (lv_sub hl [0, 5, 6] rfl)
                              · have g193 := z_f_eq rfl z_l12 c169
                                refine lv_lload hx hb dX12_works_338 (lv_at hl 2 rfl) ?_
                                refine lv_lconst (v := 0) hx hb dX12_works_340 (by decide) ?_
                                refine W.lcmp hx hb dX12_works_341 ?_
                                refine lv_topi (fun x194 ex194 => ?_)
                                have tx194 := z_tcmp ex194
                                have h195 := z_tlcmp ex194 tw96 (show (0 : Int64).toInt = 0 by decide)
                                refine lv_if_eq (tgt := 356) hx hb dX12_works_342 (by decide) (fun c196 => ?_) (fun c196 => ?_)
                                · have g197 := z_f_eq rfl z_l0 c196
                                  refine lv_lconst (v := 0) hx hb dX12_works_356 (by decide) ?_
                                  refine lv_lstore (lv' := [(8, .long 0), (6, .long w143), (4, .long w96), (3, .int x17), (2, .int y5), (0, .ref (ad 0)), (1, .int a1)]) hx hb dX12_works_357 hl (by decide) rfl (fun ls hl => ?_)
                                  refine lv_goto (tgt := 383) hx hb dX12_works_359 (by decide) ?_
                                  refine lv_aload_n hx hb dX12_works_383 rfl (lv_at hl 5 rfl) ?_
                                  refine z_get (T := TX12) (N := 96) (ci := 12) (i := 0) (v := .ref (ad 24)) hx hb hts zj_X12_works_X12 hown hK hW rfl rfl 29 (by decide) (hts (.fieldLink RX12 79 "PetrolBoardModel" "result" "[J") (me_s (me_l (List.mem_of_getElem? (i := 3) rfl)))) (fun _ h => h) rfl dX12_works_384 ?_
                                  refine lv_iload_n hx hb dX12_works_387 rfl (lv_at hl 4 rfl) ?_
                                  refine lv_lload hx hb dX12_works_388 (lv_at hl 0 rfl) ?_
                                  refine z_cl hW hS hA (va_runS (As := [.long 0]) (rest := [.int y5, .ref (ad 24)]) ⟨hx, hb, hml, hown, hts⟩ (sx_X12_held_x l G ad I6 J7  0 _) (va_cwS 1 hts gX12_works_X12_held rfl rfl rfl (by decide +kernel) ⟨Nat.le_of_ble_eq_true rfl, Nat.le_of_ble_eq_true rfl⟩) (z_preS hK hW) rfl rfl hl.1 rfl (lv_room (Nat.le_of_ble_eq_true rfl)) dX12_works_390 ⟨Nat.le_of_ble_eq_true rfl, Nat.le_of_ble_eq_true rfl⟩) (fun r u1 H locs hp hW hS => ?_)
                                  obtain ⟨e9, hp⟩ := hp
                                  rw [e9] at hW
                                  refine lv_topl (fun w198 ew198 => ?_)
                                  rw [← ew198] at hp
                                  have hh199 := hp
                                  refine z_last (i := 24) hx hb hK hW hS rfl (z_ix rfl (by omega) (by omega)) dX12_works_393 (fun H locs hz1 hW hS => ?_)
                                  obtain ⟨J200, eJ200⟩ : ∃ K : z_J, K = z_up J7 24 y5.toNatClampNeg w198 := ⟨_, rfl⟩
                                  rw [← eJ200] at hW
                                  obtain ⟨x201, ex201⟩ : ∃ y : Int32, y = y5 + 1 := ⟨_, rfl⟩
                                  have tx201 : x201.toInt = y5.toInt + 1 := z_tadd ex201 rfl z_l1 (by omega) (by omega)
                                  refine lv_iinc (v := x201) (lv' := [(2, .int x201), (8, .long 0), (6, .long w143), (4, .long w96), (3, .int x17), (0, .ref (ad 0)), (1, .int a1)]) hx hb dX12_works_394 hl (k := 4) rfl (by rw [ex201]; rfl) (by decide) rfl (fun ls hl => ?_)
                                  refine lv_goto (tgt := 7) hx hb dX12_works_397 (by decide) ?_
                                  exact lp4ih x201 I6 J200 _ _ _ (by omega) (by omega) lp4Nd lp4Asf lp4Ast (by omega) (zw_B_s hod hnn hn9 hR9 hc9 eJ200 (by omega) (by first | (exact (hh199.trans (congrArg zp_h (show (0 : Int64).toInt = 0 by decide))).trans (zw_v12 (by omega) (by omega)).symm) | (exact (hh199.trans (congrArg zp_h (show (0 : Int64).toInt = 0 by decide))).trans (zw_v12n (by omega) (by omega)).symm)) (by omega)) lp4fr hW hS (lv_sub hl [0, 5, 6] rfl)
                                · have g202 := z_f_ne rfl z_l0 c196
                                  refine lv_lload hx hb dX12_works_345 (lv_at hl 1 rfl) ?_
                                  refine lv_lconst (v := 0) hx hb dX12_works_347 (by decide) ?_
                                  refine W.lcmp hx hb dX12_works_348 ?_
                                  refine lv_topi (fun x203 ex203 => ?_)
                                  have tx203 := z_tcmp ex203
                                  have h204 := z_tlcmp ex203 tw143 (show (0 : Int64).toInt = 0 by decide)
                                  refine lv_if_eq (tgt := 356) hx hb dX12_works_349 (by decide) (fun c205 => ?_) (fun c205 => ?_)
                                  · have g206 := z_f_eq rfl z_l0 c205
                                    refine lv_lconst (v := 0) hx hb dX12_works_356 (by decide) ?_
                                    refine lv_lstore (lv' := [(8, .long 0), (6, .long w143), (4, .long w96), (3, .int x17), (2, .int y5), (0, .ref (ad 0)), (1, .int a1)]) hx hb dX12_works_357 hl (by decide) rfl (fun ls hl => ?_)
                                    refine lv_goto (tgt := 383) hx hb dX12_works_359 (by decide) ?_
                                    refine lv_aload_n hx hb dX12_works_383 rfl (lv_at hl 5 rfl) ?_
                                    refine z_get (T := TX12) (N := 96) (ci := 12) (i := 0) (v := .ref (ad 24)) hx hb hts zj_X12_works_X12 hown hK hW rfl rfl 29 (by decide) (hts (.fieldLink RX12 79 "PetrolBoardModel" "result" "[J") (me_s (me_l (List.mem_of_getElem? (i := 3) rfl)))) (fun _ h => h) rfl dX12_works_384 ?_
                                    refine lv_iload_n hx hb dX12_works_387 rfl (lv_at hl 4 rfl) ?_
                                    refine lv_lload hx hb dX12_works_388 (lv_at hl 0 rfl) ?_
                                    refine z_cl hW hS hA (va_runS (As := [.long 0]) (rest := [.int y5, .ref (ad 24)]) ⟨hx, hb, hml, hown, hts⟩ (sx_X12_held_x l G ad I6 J7  0 _) (va_cwS 1 hts gX12_works_X12_held rfl rfl rfl (by decide +kernel) ⟨Nat.le_of_ble_eq_true rfl, Nat.le_of_ble_eq_true rfl⟩) (z_preS hK hW) rfl rfl hl.1 rfl (lv_room (Nat.le_of_ble_eq_true rfl)) dX12_works_390 ⟨Nat.le_of_ble_eq_true rfl, Nat.le_of_ble_eq_true rfl⟩) (fun r u1 H locs hp hW hS => ?_)
                                    obtain ⟨e9, hp⟩ := hp
                                    rw [e9] at hW
                                    refine lv_topl (fun w207 ew207 => ?_)
                                    rw [← ew207] at hp
                                    have hh208 := hp
                                    refine z_last (i := 24) hx hb hK hW hS rfl (z_ix rfl (by omega) (by omega)) dX12_works_393 (fun H locs hz1 hW hS => ?_)
                                    obtain ⟨J209, eJ209⟩ : ∃ K : z_J, K = z_up J7 24 y5.toNatClampNeg w207 := ⟨_, rfl⟩
                                    rw [← eJ209] at hW
                                    obtain ⟨x210, ex210⟩ : ∃ y : Int32, y = y5 + 1 := ⟨_, rfl⟩
                                    have tx210 : x210.toInt = y5.toInt + 1 := z_tadd ex210 rfl z_l1 (by omega) (by omega)
                                    refine lv_iinc (v := x210) (lv' := [(2, .int x210), (8, .long 0), (6, .long w143), (4, .long w96), (3, .int x17), (0, .ref (ad 0)), (1, .int a1)]) hx hb dX12_works_394 hl (k := 4) rfl (by rw [ex210]; rfl) (by decide) rfl (fun ls hl => ?_)
                                    refine lv_goto (tgt := 7) hx hb dX12_works_397 (by decide) ?_
                                    exact lp4ih x210 I6 J209 _ _ _ (by omega) (by omega) lp4Nd lp4Asf lp4Ast (by omega) (zw_B_s hod hnn hn9 hR9 hc9 eJ209 (by omega) (by first | (exact (hh208.trans (congrArg zp_h (show (0 : Int64).toInt = 0 by decide))).trans (zw_v12 (by omega) (by omega)).symm) | (exact (hh208.trans (congrArg zp_h (show (0 : Int64).toInt = 0 by decide))).trans (zw_v12n (by omega) (by omega)).symm)) (by omega)) lp4fr hW hS (lv_sub hl [0, 5, 6] rfl)
                                  · have g211 := z_f_ne rfl z_l0 c205
                                    refine lv_lconst (v := 1) hx hb dX12_works_352 (by decide) ?_
                                    refine lv_goto (tgt := 357) hx hb dX12_works_353 (by decide) ?_
                                    refine lv_lstore (lv' := [(8, .long 1), (6, .long w143), (4, .long w96), (3, .int x17), (2, .int y5), (0, .ref (ad 0)), (1, .int a1)]) hx hb dX12_works_357 hl (by decide) rfl (fun ls hl => ?_)
                                    refine lv_goto (tgt := 383) hx hb dX12_works_359 (by decide) ?_
                                    refine lv_aload_n hx hb dX12_works_383 rfl (lv_at hl 5 rfl) ?_
                                    refine z_get (T := TX12) (N := 96) (ci := 12) (i := 0) (v := .ref (ad 24)) hx hb hts zj_X12_works_X12 hown hK hW rfl rfl 29 (by decide) (hts (.fieldLink RX12 79 "PetrolBoardModel" "result" "[J") (me_s (me_l (List.mem_of_getElem? (i := 3) rfl)))) (fun _ h => h) rfl dX12_works_384 ?_
                                    refine lv_iload_n hx hb dX12_works_387 rfl (lv_at hl 4 rfl) ?_
                                    refine lv_lload hx hb dX12_works_388 (lv_at hl 0 rfl) ?_
                                    refine z_cl hW hS hA (va_runS (As := [.long 1]) (rest := [.int y5, .ref (ad 24)]) ⟨hx, hb, hml, hown, hts⟩ (sx_X12_held_x l G ad I6 J7  1 _) (va_cwS 1 hts gX12_works_X12_held rfl rfl rfl (by decide +kernel) ⟨Nat.le_of_ble_eq_true rfl, Nat.le_of_ble_eq_true rfl⟩) (z_preS hK hW) rfl rfl hl.1 rfl (lv_room (Nat.le_of_ble_eq_true rfl)) dX12_works_390 ⟨Nat.le_of_ble_eq_true rfl, Nat.le_of_ble_eq_true rfl⟩) (fun r u1 H locs hp hW hS => ?_)
                                    obtain ⟨e9, hp⟩ := hp
                                    rw [e9] at hW
                                    refine lv_topl (fun w212 ew212 => ?_)
                                    rw [← ew212] at hp
                                    have hh213 := hp
                                    refine z_last (i := 24) hx hb hK hW hS rfl (z_ix rfl (by omega) (by omega)) dX12_works_393 (fun H locs hz1 hW hS => ?_)
                                    obtain ⟨J214, eJ214⟩ : ∃ K : z_J, K = z_up J7 24 y5.toNatClampNeg w212 := ⟨_, rfl⟩
                                    rw [← eJ214] at hW
                                    obtain ⟨x215, ex215⟩ : ∃ y : Int32, y = y5 + 1 := ⟨_, rfl⟩
                                    have tx215 : x215.toInt = y5.toInt + 1 := z_tadd ex215 rfl z_l1 (by omega) (by omega)
                                    refine lv_iinc (v := x215) (lv' := [(2, .int x215), (8, .long 1), (6, .long w143), (4, .long w96), (3, .int x17), (0, .ref (ad 0)), (1, .int a1)]) hx hb dX12_works_394 hl (k := 4) rfl (by rw [ex215]; rfl) (by decide) rfl (fun ls hl => ?_)
                                    refine lv_goto (tgt := 7) hx hb dX12_works_397 (by decide) ?_
                                    exact lp4ih x215 I6 J214 _ _ _ (by omega) (by omega) lp4Nd lp4Asf lp4Ast (by omega) (zw_B_s hod hnn hn9 hR9 hc9 eJ214 (by omega) (by first | (exact (hh213.trans (congrArg zp_h (show (1 : Int64).toInt = 1 by decide))).trans (zw_v12 (by omega) (by omega)).symm) | (exact (hh213.trans (congrArg zp_h (show (1 : Int64).toInt = 1 by decide))).trans (zw_v12n (by omega) (by omega)).symm)) (by omega)) lp4fr hW hS (lv_sub hl [0, 5, 6] rfl)
                            · have g216 := z_f_eq rfl z_l10 c165
                              refine lv_lload hx hb dX12_works_291 (lv_at hl 2 rfl) ?_
                              refine lv_lload hx hb dX12_works_293 (lv_at hl 1 rfl) ?_
                              refine W.lcmp hx hb dX12_works_295 ?_
                              refine lv_topi (fun x217 ex217 => ?_)
                              have tx217 := z_tcmp ex217
                              have h218 := z_tlcmp ex217 tw96 tw143
                              refine lv_if_ne (tgt := 303) hx hb dX12_works_296 (by decide) (fun c219 => ?_) (fun c219 => ?_)
                              · have g220 := z_f_ne rfl z_l0 c219
                                refine lv_lconst (v := 0) hx hb dX12_works_303 (by decide) ?_
                                refine lv_lstore (lv' := [(8, .long 0), (6, .long w143), (4, .long w96), (3, .int x17), (2, .int y5), (0, .ref (ad 0)), (1, .int a1)]) hx hb dX12_works_304 hl (by decide) rfl (fun ls hl => ?_)
                                refine lv_goto (tgt := 383) hx hb dX12_works_306 (by decide) ?_
                                refine lv_aload_n hx hb dX12_works_383 rfl (lv_at hl 5 rfl) ?_
                                refine z_get (T := TX12) (N := 96) (ci := 12) (i := 0) (v := .ref (ad 24)) hx hb hts zj_X12_works_X12 hown hK hW rfl rfl 29 (by decide) (hts (.fieldLink RX12 79 "PetrolBoardModel" "result" "[J") (me_s (me_l (List.mem_of_getElem? (i := 3) rfl)))) (fun _ h => h) rfl dX12_works_384 ?_
                                refine lv_iload_n hx hb dX12_works_387 rfl (lv_at hl 4 rfl) ?_
                                refine lv_lload hx hb dX12_works_388 (lv_at hl 0 rfl) ?_
                                refine z_cl hW hS hA (va_runS (As := [.long 0]) (rest := [.int y5, .ref (ad 24)]) ⟨hx, hb, hml, hown, hts⟩ (sx_X12_held_x l G ad I6 J7  0 _) (va_cwS 1 hts gX12_works_X12_held rfl rfl rfl (by decide +kernel) ⟨Nat.le_of_ble_eq_true rfl, Nat.le_of_ble_eq_true rfl⟩) (z_preS hK hW) rfl rfl hl.1 rfl (lv_room (Nat.le_of_ble_eq_true rfl)) dX12_works_390 ⟨Nat.le_of_ble_eq_true rfl, Nat.le_of_ble_eq_true rfl⟩) (fun r u1 H locs hp hW hS => ?_)
                                obtain ⟨e9, hp⟩ := hp
                                rw [e9] at hW
                                refine lv_topl (fun w221 ew221 => ?_)
                                rw [← ew221] at hp
                                have hh222 := hp
                                refine z_last (i := 24) hx hb hK hW hS rfl (z_ix rfl (by omega) (by omega)) dX12_works_393 (fun H locs hz1 hW hS => ?_)
                                obtain ⟨J223, eJ223⟩ : ∃ K : z_J, K = z_up J7 24 y5.toNatClampNeg w221 := ⟨_, rfl⟩
                                rw [← eJ223] at hW
                                obtain ⟨x224, ex224⟩ : ∃ y : Int32, y = y5 + 1 := ⟨_, rfl⟩
                                have tx224 : x224.toInt = y5.toInt + 1 := z_tadd ex224 rfl z_l1 (by omega) (by omega)
                                refine lv_iinc (v := x224) (lv' := [(2, .int x224), (8, .long 0), (6, .long w143), (4, .long w96), (3, .int x17), (0, .ref (ad 0)), (1, .int a1)]) hx hb dX12_works_394 hl (k := 4) rfl (by rw [ex224]; rfl) (by decide) rfl (fun ls hl => ?_)
                                refine lv_goto (tgt := 7) hx hb dX12_works_397 (by decide) ?_
                                exact lp4ih x224 I6 J223 _ _ _ (by omega) (by omega) lp4Nd lp4Asf lp4Ast (by omega) (zw_B_s hod hnn hn9 hR9 hc9 eJ223 (by omega) (by first | (exact (hh222.trans (congrArg zp_h (show (0 : Int64).toInt = 0 by decide))).trans (zw_v10 (by omega) (by omega)).symm) | (exact (hh222.trans (congrArg zp_h (show (0 : Int64).toInt = 0 by decide))).trans (zw_v10n (by omega) (by omega)).symm)) (by omega)) lp4fr hW hS (lv_sub hl [0, 5, 6] rfl)
                              · have g225 := z_f_eq rfl z_l0 c219
                                refine lv_lconst (v := 1) hx hb dX12_works_299 (by decide) ?_
                                refine lv_goto (tgt := 304) hx hb dX12_works_300 (by decide) ?_
                                refine lv_lstore (lv' := [(8, .long 1), (6, .long w143), (4, .long w96), (3, .int x17), (2, .int y5), (0, .ref (ad 0)), (1, .int a1)]) hx hb dX12_works_304 hl (by decide) rfl (fun ls hl => ?_)
                                refine lv_goto (tgt := 383) hx hb dX12_works_306 (by decide) ?_
                                refine lv_aload_n hx hb dX12_works_383 rfl (lv_at hl 5 rfl) ?_
                                refine z_get (T := TX12) (N := 96) (ci := 12) (i := 0) (v := .ref (ad 24)) hx hb hts zj_X12_works_X12 hown hK hW rfl rfl 29 (by decide) (hts (.fieldLink RX12 79 "PetrolBoardModel" "result" "[J") (me_s (me_l (List.mem_of_getElem? (i := 3) rfl)))) (fun _ h => h) rfl dX12_works_384 ?_
                                refine lv_iload_n hx hb dX12_works_387 rfl (lv_at hl 4 rfl) ?_
                                refine lv_lload hx hb dX12_works_388 (lv_at hl 0 rfl) ?_
                                refine z_cl hW hS hA (va_runS (As := [.long 1]) (rest := [.int y5, .ref (ad 24)]) ⟨hx, hb, hml, hown, hts⟩ (sx_X12_held_x l G ad I6 J7  1 _) (va_cwS 1 hts gX12_works_X12_held rfl rfl rfl (by decide +kernel) ⟨Nat.le_of_ble_eq_true rfl, Nat.le_of_ble_eq_true rfl⟩) (z_preS hK hW) rfl rfl hl.1 rfl (lv_room (Nat.le_of_ble_eq_true rfl)) dX12_works_390 ⟨Nat.le_of_ble_eq_true rfl, Nat.le_of_ble_eq_true rfl⟩) (fun r u1 H locs hp hW hS => ?_)
                                obtain ⟨e9, hp⟩ := hp
                                rw [e9] at hW
                                refine lv_topl (fun w226 ew226 => ?_)
                                rw [← ew226] at hp
                                have hh227 := hp
                                refine z_last (i := 24) hx hb hK hW hS rfl (z_ix rfl (by omega) (by omega)) dX12_works_393 (fun H locs hz1 hW hS => ?_)
                                obtain ⟨J228, eJ228⟩ : ∃ K : z_J, K = z_up J7 24 y5.toNatClampNeg w226 := ⟨_, rfl⟩
                                rw [← eJ228] at hW
                                obtain ⟨x229, ex229⟩ : ∃ y : Int32, y = y5 + 1 := ⟨_, rfl⟩
                                have tx229 : x229.toInt = y5.toInt + 1 := z_tadd ex229 rfl z_l1 (by omega) (by omega)
                                refine lv_iinc (v := x229) (lv' := [(2, .int x229), (8, .long 1), (6, .long w143), (4, .long w96), (3, .int x17), (0, .ref (ad 0)), (1, .int a1)]) hx hb dX12_works_394 hl (k := 4) rfl (by rw [ex229]; rfl) (by decide) rfl (fun ls hl => ?_)
                                refine lv_goto (tgt := 7) hx hb dX12_works_397 (by decide) ?_
                                exact lp4ih x229 I6 J228 _ _ _ (by omega) (by omega) lp4Nd lp4Asf lp4Ast (by omega) (zw_B_s hod hnn hn9 hR9 hc9 eJ228 (by omega) (by first | (exact (hh227.trans (congrArg zp_h (show (1 : Int64).toInt = 1 by decide))).trans (zw_v10 (by omega) (by omega)).symm) | (exact (hh227.trans (congrArg zp_h (show (1 : Int64).toInt = 1 by decide))).trans (zw_v10n (by omega) (by omega)).symm)) (by omega)) lp4fr hW hS (lv_sub hl [0, 5, 6] rfl)
                          · have g230 := z_f_eq rfl z_l9 c163
                            refine lv_lload hx hb dX12_works_267 (lv_at hl 2 rfl) ?_
                            refine lv_lload hx hb dX12_works_269 (lv_at hl 1 rfl) ?_
                            refine W.lcmp hx hb dX12_works_271 ?_
                            refine lv_topi (fun x231 ex231 => ?_)
                            have tx231 := z_tcmp ex231
                            have h232 := z_tlcmp ex231 tw96 tw143
                            refine lv_if_le (tgt := 279) hx hb dX12_works_272 (by decide) (fun c233 => ?_) (fun c233 => ?_)
                            · have g234 := z_f_le rfl z_l0 c233
                              refine lv_lconst (v := 0) hx hb dX12_works_279 (by decide) ?_
                              refine lv_lstore (lv' := [(8, .long 0), (6, .long w143), (4, .long w96), (3, .int x17), (2, .int y5), (0, .ref (ad 0)), (1, .int a1)]) hx hb dX12_works_280 hl (by decide) rfl (fun ls hl => ?_)
                              refine lv_goto (tgt := 383) hx hb dX12_works_282 (by decide) ?_
                              refine lv_aload_n hx hb dX12_works_383 rfl (lv_at hl 5 rfl) ?_
                              refine z_get (T := TX12) (N := 96) (ci := 12) (i := 0) (v := .ref (ad 24)) hx hb hts zj_X12_works_X12 hown hK hW rfl rfl 29 (by decide) (hts (.fieldLink RX12 79 "PetrolBoardModel" "result" "[J") (me_s (me_l (List.mem_of_getElem? (i := 3) rfl)))) (fun _ h => h) rfl dX12_works_384 ?_
                              refine lv_iload_n hx hb dX12_works_387 rfl (lv_at hl 4 rfl) ?_
                              refine lv_lload hx hb dX12_works_388 (lv_at hl 0 rfl) ?_
                              refine z_cl hW hS hA (va_runS (As := [.long 0]) (rest := [.int y5, .ref (ad 24)]) ⟨hx, hb, hml, hown, hts⟩ (sx_X12_held_x l G ad I6 J7  0 _) (va_cwS 1 hts gX12_works_X12_held rfl rfl rfl (by decide +kernel) ⟨Nat.le_of_ble_eq_true rfl, Nat.le_of_ble_eq_true rfl⟩) (z_preS hK hW) rfl rfl hl.1 rfl (lv_room (Nat.le_of_ble_eq_true rfl)) dX12_works_390 ⟨Nat.le_of_ble_eq_true rfl, Nat.le_of_ble_eq_true rfl⟩) (fun r u1 H locs hp hW hS => ?_)
                              obtain ⟨e9, hp⟩ := hp
                              rw [e9] at hW
                              refine lv_topl (fun w235 ew235 => ?_)
                              rw [← ew235] at hp
                              have hh236 := hp
                              refine z_last (i := 24) hx hb hK hW hS rfl (z_ix rfl (by omega) (by omega)) dX12_works_393 (fun H locs hz1 hW hS => ?_)
                              obtain ⟨J237, eJ237⟩ : ∃ K : z_J, K = z_up J7 24 y5.toNatClampNeg w235 := ⟨_, rfl⟩
                              rw [← eJ237] at hW
                              obtain ⟨x238, ex238⟩ : ∃ y : Int32, y = y5 + 1 := ⟨_, rfl⟩
                              have tx238 : x238.toInt = y5.toInt + 1 := z_tadd ex238 rfl z_l1 (by omega) (by omega)
                              refine lv_iinc (v := x238) (lv' := [(2, .int x238), (8, .long 0), (6, .long w143), (4, .long w96), (3, .int x17), (0, .ref (ad 0)), (1, .int a1)]) hx hb dX12_works_394 hl (k := 4) rfl (by rw [ex238]; rfl) (by decide) rfl (fun ls hl => ?_)
                              refine lv_goto (tgt := 7) hx hb dX12_works_397 (by decide) ?_
                              exact lp4ih x238 I6 J237 _ _ _ (by omega) (by omega) lp4Nd lp4Asf lp4Ast (by omega) (zw_B_s hod hnn hn9 hR9 hc9 eJ237 (by omega) (by first | (exact (hh236.trans (congrArg zp_h (show (0 : Int64).toInt = 0 by decide))).trans (zw_v9 (by omega) (by omega)).symm) | (exact (hh236.trans (congrArg zp_h (show (0 : Int64).toInt = 0 by decide))).trans (zw_v9n (by omega) (by omega)).symm)) (by omega)) lp4fr hW hS (lv_sub hl [0, 5, 6] rfl)
                            · have g239 := z_f_nle rfl z_l0 c233
                              refine lv_lconst (v := 1) hx hb dX12_works_275 (by decide) ?_
                              refine lv_goto (tgt := 280) hx hb dX12_works_276 (by decide) ?_
                              refine lv_lstore (lv' := [(8, .long 1), (6, .long w143), (4, .long w96), (3, .int x17), (2, .int y5), (0, .ref (ad 0)), (1, .int a1)]) hx hb dX12_works_280 hl (by decide) rfl (fun ls hl => ?_)
                              refine lv_goto (tgt := 383) hx hb dX12_works_282 (by decide) ?_
                              refine lv_aload_n hx hb dX12_works_383 rfl (lv_at hl 5 rfl) ?_
                              refine z_get (T := TX12) (N := 96) (ci := 12) (i := 0) (v := .ref (ad 24)) hx hb hts zj_X12_works_X12 hown hK hW rfl rfl 29 (by decide) (hts (.fieldLink RX12 79 "PetrolBoardModel" "result" "[J") (me_s (me_l (List.mem_of_getElem? (i := 3) rfl)))) (fun _ h => h) rfl dX12_works_384 ?_
                              refine lv_iload_n hx hb dX12_works_387 rfl (lv_at hl 4 rfl) ?_
                              refine lv_lload hx hb dX12_works_388 (lv_at hl 0 rfl) ?_
                              refine z_cl hW hS hA (va_runS (As := [.long 1]) (rest := [.int y5, .ref (ad 24)]) ⟨hx, hb, hml, hown, hts⟩ (sx_X12_held_x l G ad I6 J7  1 _) (va_cwS 1 hts gX12_works_X12_held rfl rfl rfl (by decide +kernel) ⟨Nat.le_of_ble_eq_true rfl, Nat.le_of_ble_eq_true rfl⟩) (z_preS hK hW) rfl rfl hl.1 rfl (lv_room (Nat.le_of_ble_eq_true rfl)) dX12_works_390 ⟨Nat.le_of_ble_eq_true rfl, Nat.le_of_ble_eq_true rfl⟩) (fun r u1 H locs hp hW hS => ?_)
                              obtain ⟨e9, hp⟩ := hp
                              rw [e9] at hW
                              refine lv_topl (fun w240 ew240 => ?_)
                              rw [← ew240] at hp
                              have hh241 := hp
                              refine z_last (i := 24) hx hb hK hW hS rfl (z_ix rfl (by omega) (by omega)) dX12_works_393 (fun H locs hz1 hW hS => ?_)
                              obtain ⟨J242, eJ242⟩ : ∃ K : z_J, K = z_up J7 24 y5.toNatClampNeg w240 := ⟨_, rfl⟩
                              rw [← eJ242] at hW
                              obtain ⟨x243, ex243⟩ : ∃ y : Int32, y = y5 + 1 := ⟨_, rfl⟩
                              have tx243 : x243.toInt = y5.toInt + 1 := z_tadd ex243 rfl z_l1 (by omega) (by omega)
                              refine lv_iinc (v := x243) (lv' := [(2, .int x243), (8, .long 1), (6, .long w143), (4, .long w96), (3, .int x17), (0, .ref (ad 0)), (1, .int a1)]) hx hb dX12_works_394 hl (k := 4) rfl (by rw [ex243]; rfl) (by decide) rfl (fun ls hl => ?_)
                              refine lv_goto (tgt := 7) hx hb dX12_works_397 (by decide) ?_
                              exact lp4ih x243 I6 J242 _ _ _ (by omega) (by omega) lp4Nd lp4Asf lp4Ast (by omega) (zw_B_s hod hnn hn9 hR9 hc9 eJ242 (by omega) (by first | (exact (hh241.trans (congrArg zp_h (show (1 : Int64).toInt = 1 by decide))).trans (zw_v9 (by omega) (by omega)).symm) | (exact (hh241.trans (congrArg zp_h (show (1 : Int64).toInt = 1 by decide))).trans (zw_v9n (by omega) (by omega)).symm)) (by omega)) lp4fr hW hS (lv_sub hl [0, 5, 6] rfl)
                        · have g244 := z_f_eq rfl z_l8 c161
                          refine lv_lload hx hb dX12_works_243 (lv_at hl 2 rfl) ?_
                          refine lv_lload hx hb dX12_works_245 (lv_at hl 1 rfl) ?_
                          refine W.lcmp hx hb dX12_works_247 ?_
                          refine lv_topi (fun x245 ex245 => ?_)
                          have tx245 := z_tcmp ex245
                          have h246 := z_tlcmp ex245 tw96 tw143
                          refine lv_if_ge (tgt := 255) hx hb dX12_works_248 (by decide) (fun c247 => ?_) (fun c247 => ?_)
                          · have g248 := z_f_ge rfl z_l0 c247
                            refine lv_lconst (v := 0) hx hb dX12_works_255 (by decide) ?_
                            refine lv_lstore (lv' := [(8, .long 0), (6, .long w143), (4, .long w96), (3, .int x17), (2, .int y5), (0, .ref (ad 0)), (1, .int a1)]) hx hb dX12_works_256 hl (by decide) rfl (fun ls hl => ?_)
                            refine lv_goto (tgt := 383) hx hb dX12_works_258 (by decide) ?_
                            refine lv_aload_n hx hb dX12_works_383 rfl (lv_at hl 5 rfl) ?_
                            refine z_get (T := TX12) (N := 96) (ci := 12) (i := 0) (v := .ref (ad 24)) hx hb hts zj_X12_works_X12 hown hK hW rfl rfl 29 (by decide) (hts (.fieldLink RX12 79 "PetrolBoardModel" "result" "[J") (me_s (me_l (List.mem_of_getElem? (i := 3) rfl)))) (fun _ h => h) rfl dX12_works_384 ?_
                            refine lv_iload_n hx hb dX12_works_387 rfl (lv_at hl 4 rfl) ?_
                            refine lv_lload hx hb dX12_works_388 (lv_at hl 0 rfl) ?_
                            refine z_cl hW hS hA (va_runS (As := [.long 0]) (rest := [.int y5, .ref (ad 24)]) ⟨hx, hb, hml, hown, hts⟩ (sx_X12_held_x l G ad I6 J7  0 _) (va_cwS 1 hts gX12_works_X12_held rfl rfl rfl (by decide +kernel) ⟨Nat.le_of_ble_eq_true rfl, Nat.le_of_ble_eq_true rfl⟩) (z_preS hK hW) rfl rfl hl.1 rfl (lv_room (Nat.le_of_ble_eq_true rfl)) dX12_works_390 ⟨Nat.le_of_ble_eq_true rfl, Nat.le_of_ble_eq_true rfl⟩) (fun r u1 H locs hp hW hS => ?_)
                            obtain ⟨e9, hp⟩ := hp
                            rw [e9] at hW
                            refine lv_topl (fun w249 ew249 => ?_)
                            rw [← ew249] at hp
                            have hh250 := hp
                            refine z_last (i := 24) hx hb hK hW hS rfl (z_ix rfl (by omega) (by omega)) dX12_works_393 (fun H locs hz1 hW hS => ?_)
                            obtain ⟨J251, eJ251⟩ : ∃ K : z_J, K = z_up J7 24 y5.toNatClampNeg w249 := ⟨_, rfl⟩
                            rw [← eJ251] at hW
                            obtain ⟨x252, ex252⟩ : ∃ y : Int32, y = y5 + 1 := ⟨_, rfl⟩
                            have tx252 : x252.toInt = y5.toInt + 1 := z_tadd ex252 rfl z_l1 (by omega) (by omega)
                            refine lv_iinc (v := x252) (lv' := [(2, .int x252), (8, .long 0), (6, .long w143), (4, .long w96), (3, .int x17), (0, .ref (ad 0)), (1, .int a1)]) hx hb dX12_works_394 hl (k := 4) rfl (by rw [ex252]; rfl) (by decide) rfl (fun ls hl => ?_)
                            refine lv_goto (tgt := 7) hx hb dX12_works_397 (by decide) ?_
                            exact lp4ih x252 I6 J251 _ _ _ (by omega) (by omega) lp4Nd lp4Asf lp4Ast (by omega) (zw_B_s hod hnn hn9 hR9 hc9 eJ251 (by omega) (by first | (exact (hh250.trans (congrArg zp_h (show (0 : Int64).toInt = 0 by decide))).trans (zw_v8 (by omega) (by omega)).symm) | (exact (hh250.trans (congrArg zp_h (show (0 : Int64).toInt = 0 by decide))).trans (zw_v8n (by omega) (by omega)).symm)) (by omega)) lp4fr hW hS (lv_sub hl [0, 5, 6] rfl)
                          · have g253 := z_f_nge rfl z_l0 c247
                            refine lv_lconst (v := 1) hx hb dX12_works_251 (by decide) ?_
                            refine lv_goto (tgt := 256) hx hb dX12_works_252 (by decide) ?_
                            refine lv_lstore (lv' := [(8, .long 1), (6, .long w143), (4, .long w96), (3, .int x17), (2, .int y5), (0, .ref (ad 0)), (1, .int a1)]) hx hb dX12_works_256 hl (by decide) rfl (fun ls hl => ?_)
                            refine lv_goto (tgt := 383) hx hb dX12_works_258 (by decide) ?_
                            refine lv_aload_n hx hb dX12_works_383 rfl (lv_at hl 5 rfl) ?_
                            refine z_get (T := TX12) (N := 96) (ci := 12) (i := 0) (v := .ref (ad 24)) hx hb hts zj_X12_works_X12 hown hK hW rfl rfl 29 (by decide) (hts (.fieldLink RX12 79 "PetrolBoardModel" "result" "[J") (me_s (me_l (List.mem_of_getElem? (i := 3) rfl)))) (fun _ h => h) rfl dX12_works_384 ?_
                            refine lv_iload_n hx hb dX12_works_387 rfl (lv_at hl 4 rfl) ?_
                            refine lv_lload hx hb dX12_works_388 (lv_at hl 0 rfl) ?_
                            refine z_cl hW hS hA (va_runS (As := [.long 1]) (rest := [.int y5, .ref (ad 24)]) ⟨hx, hb, hml, hown, hts⟩ (sx_X12_held_x l G ad I6 J7  1 _) (va_cwS 1 hts gX12_works_X12_held rfl rfl rfl (by decide +kernel) ⟨Nat.le_of_ble_eq_true rfl, Nat.le_of_ble_eq_true rfl⟩) (z_preS hK hW) rfl rfl hl.1 rfl (lv_room (Nat.le_of_ble_eq_true rfl)) dX12_works_390 ⟨Nat.le_of_ble_eq_true rfl, Nat.le_of_ble_eq_true rfl⟩) (fun r u1 H locs hp hW hS => ?_)
                            obtain ⟨e9, hp⟩ := hp
                            rw [e9] at hW
                            refine lv_topl (fun w254 ew254 => ?_)
                            rw [← ew254] at hp
                            have hh255 := hp
                            refine z_last (i := 24) hx hb hK hW hS rfl (z_ix rfl (by omega) (by omega)) dX12_works_393 (fun H locs hz1 hW hS => ?_)
                            obtain ⟨J256, eJ256⟩ : ∃ K : z_J, K = z_up J7 24 y5.toNatClampNeg w254 := ⟨_, rfl⟩
                            rw [← eJ256] at hW
                            obtain ⟨x257, ex257⟩ : ∃ y : Int32, y = y5 + 1 := ⟨_, rfl⟩
                            have tx257 : x257.toInt = y5.toInt + 1 := z_tadd ex257 rfl z_l1 (by omega) (by omega)
                            refine lv_iinc (v := x257) (lv' := [(2, .int x257), (8, .long 1), (6, .long w143), (4, .long w96), (3, .int x17), (0, .ref (ad 0)), (1, .int a1)]) hx hb dX12_works_394 hl (k := 4) rfl (by rw [ex257]; rfl) (by decide) rfl (fun ls hl => ?_)
                            refine lv_goto (tgt := 7) hx hb dX12_works_397 (by decide) ?_
                            exact lp4ih x257 I6 J256 _ _ _ (by omega) (by omega) lp4Nd lp4Asf lp4Ast (by omega) (zw_B_s hod hnn hn9 hR9 hc9 eJ256 (by omega) (by first | (exact (hh255.trans (congrArg zp_h (show (1 : Int64).toInt = 1 by decide))).trans (zw_v8 (by omega) (by omega)).symm) | (exact (hh255.trans (congrArg zp_h (show (1 : Int64).toInt = 1 by decide))).trans (zw_v8n (by omega) (by omega)).symm)) (by omega)) lp4fr hW hS (lv_sub hl [0, 5, 6] rfl)
                      · have g258 := z_f_eq rfl z_l7 c159
                        refine lv_lload hx hb dX12_works_217 (lv_at hl 2 rfl) ?_
                        refine lv_lload hx hb dX12_works_219 (lv_at hl 1 rfl) ?_
                        refine W.lcmp hx hb dX12_works_221 ?_
                        refine lv_topi (fun x259 ex259 => ?_)
                        have tx259 := z_tcmp ex259
                        have h260 := z_tlcmp ex259 tw96 tw143
                        refine lv_if_le (tgt := 230) hx hb dX12_works_222 (by decide) (fun c261 => ?_) (fun c261 => ?_)
                        · have g262 := z_f_le rfl z_l0 c261
                          refine lv_lload hx hb dX12_works_230 (lv_at hl 1 rfl) ?_
                          refine lv_lstore (lv' := [(8, .long w143), (6, .long w143), (4, .long w96), (3, .int x17), (2, .int y5), (0, .ref (ad 0)), (1, .int a1)]) hx hb dX12_works_232 hl (by decide) rfl (fun ls hl => ?_)
                          refine lv_goto (tgt := 383) hx hb dX12_works_234 (by decide) ?_
                          refine lv_aload_n hx hb dX12_works_383 rfl (lv_at hl 5 rfl) ?_
                          refine z_get (T := TX12) (N := 96) (ci := 12) (i := 0) (v := .ref (ad 24)) hx hb hts zj_X12_works_X12 hown hK hW rfl rfl 29 (by decide) (hts (.fieldLink RX12 79 "PetrolBoardModel" "result" "[J") (me_s (me_l (List.mem_of_getElem? (i := 3) rfl)))) (fun _ h => h) rfl dX12_works_384 ?_
                          refine lv_iload_n hx hb dX12_works_387 rfl (lv_at hl 4 rfl) ?_
                          refine lv_lload hx hb dX12_works_388 (lv_at hl 0 rfl) ?_
                          refine z_cl hW hS hA (va_runS (As := [.long w143]) (rest := [.int y5, .ref (ad 24)]) ⟨hx, hb, hml, hown, hts⟩ (sx_X12_held_x l G ad I6 J7  w143 _) (va_cwS 1 hts gX12_works_X12_held rfl rfl rfl (by decide +kernel) ⟨Nat.le_of_ble_eq_true rfl, Nat.le_of_ble_eq_true rfl⟩) (z_preS hK hW) rfl rfl hl.1 rfl (lv_room (Nat.le_of_ble_eq_true rfl)) dX12_works_390 ⟨Nat.le_of_ble_eq_true rfl, Nat.le_of_ble_eq_true rfl⟩) (fun r u1 H locs hp hW hS => ?_)
                          obtain ⟨e9, hp⟩ := hp
                          rw [e9] at hW
                          refine lv_topl (fun w263 ew263 => ?_)
                          rw [← ew263] at hp
                          have hh264 := hp
                          refine z_last (i := 24) hx hb hK hW hS rfl (z_ix rfl (by omega) (by omega)) dX12_works_393 (fun H locs hz1 hW hS => ?_)
                          obtain ⟨J265, eJ265⟩ : ∃ K : z_J, K = z_up J7 24 y5.toNatClampNeg w263 := ⟨_, rfl⟩
                          rw [← eJ265] at hW
                          obtain ⟨x266, ex266⟩ : ∃ y : Int32, y = y5 + 1 := ⟨_, rfl⟩
                          have tx266 : x266.toInt = y5.toInt + 1 := z_tadd ex266 rfl z_l1 (by omega) (by omega)
                          refine lv_iinc (v := x266) (lv' := [(2, .int x266), (8, .long w143), (6, .long w143), (4, .long w96), (3, .int x17), (0, .ref (ad 0)), (1, .int a1)]) hx hb dX12_works_394 hl (k := 4) rfl (by rw [ex266]; rfl) (by decide) rfl (fun ls hl => ?_)
                          refine lv_goto (tgt := 7) hx hb dX12_works_397 (by decide) ?_
                          exact lp4ih x266 I6 J265 _ _ _ (by omega) (by omega) lp4Nd lp4Asf lp4Ast (by omega) (zw_B_s hod hnn hn9 hR9 hc9 eJ265 (by omega) (by first | (exact (hh264.trans (congrArg zp_h tw143)).trans (zw_v7 (by omega) (by omega)).symm) | (exact (hh264.trans (congrArg zp_h tw143)).trans (zw_v7n (by omega) (by omega)).symm)) (by omega)) lp4fr hW hS (lv_sub hl [0, 5, 6] rfl)
                        · have g267 := z_f_nle rfl z_l0 c261
                          refine lv_lload hx hb dX12_works_225 (lv_at hl 2 rfl) ?_
                          refine lv_goto (tgt := 232) hx hb dX12_works_227 (by decide) ?_
                          refine lv_lstore (lv' := [(8, .long w96), (6, .long w143), (4, .long w96), (3, .int x17), (2, .int y5), (0, .ref (ad 0)), (1, .int a1)]) hx hb dX12_works_232 hl (by decide) rfl (fun ls hl => ?_)
                          refine lv_goto (tgt := 383) hx hb dX12_works_234 (by decide) ?_
                          refine lv_aload_n hx hb dX12_works_383 rfl (lv_at hl 5 rfl) ?_
                          refine z_get (T := TX12) (N := 96) (ci := 12) (i := 0) (v := .ref (ad 24)) hx hb hts zj_X12_works_X12 hown hK hW rfl rfl 29 (by decide) (hts (.fieldLink RX12 79 "PetrolBoardModel" "result" "[J") (me_s (me_l (List.mem_of_getElem? (i := 3) rfl)))) (fun _ h => h) rfl dX12_works_384 ?_
                          refine lv_iload_n hx hb dX12_works_387 rfl (lv_at hl 4 rfl) ?_
                          refine lv_lload hx hb dX12_works_388 (lv_at hl 0 rfl) ?_
                          refine z_cl hW hS hA (va_runS (As := [.long w96]) (rest := [.int y5, .ref (ad 24)]) ⟨hx, hb, hml, hown, hts⟩ (sx_X12_held_x l G ad I6 J7  w96 _) (va_cwS 1 hts gX12_works_X12_held rfl rfl rfl (by decide +kernel) ⟨Nat.le_of_ble_eq_true rfl, Nat.le_of_ble_eq_true rfl⟩) (z_preS hK hW) rfl rfl hl.1 rfl (lv_room (Nat.le_of_ble_eq_true rfl)) dX12_works_390 ⟨Nat.le_of_ble_eq_true rfl, Nat.le_of_ble_eq_true rfl⟩) (fun r u1 H locs hp hW hS => ?_)
                          obtain ⟨e9, hp⟩ := hp
                          rw [e9] at hW
                          refine lv_topl (fun w268 ew268 => ?_)
                          rw [← ew268] at hp
                          have hh269 := hp
                          refine z_last (i := 24) hx hb hK hW hS rfl (z_ix rfl (by omega) (by omega)) dX12_works_393 (fun H locs hz1 hW hS => ?_)
                          obtain ⟨J270, eJ270⟩ : ∃ K : z_J, K = z_up J7 24 y5.toNatClampNeg w268 := ⟨_, rfl⟩
                          rw [← eJ270] at hW
                          obtain ⟨x271, ex271⟩ : ∃ y : Int32, y = y5 + 1 := ⟨_, rfl⟩
                          have tx271 : x271.toInt = y5.toInt + 1 := z_tadd ex271 rfl z_l1 (by omega) (by omega)
                          refine lv_iinc (v := x271) (lv' := [(2, .int x271), (8, .long w96), (6, .long w143), (4, .long w96), (3, .int x17), (0, .ref (ad 0)), (1, .int a1)]) hx hb dX12_works_394 hl (k := 4) rfl (by rw [ex271]; rfl) (by decide) rfl (fun ls hl => ?_)
                          refine lv_goto (tgt := 7) hx hb dX12_works_397 (by decide) ?_
                          exact lp4ih x271 I6 J270 _ _ _ (by omega) (by omega) lp4Nd lp4Asf lp4Ast (by omega) (zw_B_s hod hnn hn9 hR9 hc9 eJ270 (by omega) (by first | (exact (hh269.trans (congrArg zp_h tw96)).trans (zw_v7 (by omega) (by omega)).symm) | (exact (hh269.trans (congrArg zp_h tw96)).trans (zw_v7n (by omega) (by omega)).symm)) (by omega)) lp4fr hW hS (lv_sub hl [0, 5, 6] rfl)
                    · have g272 := z_f_eq rfl z_l6 c157
                      refine lv_lload hx hb dX12_works_191 (lv_at hl 2 rfl) ?_
                      refine lv_lload hx hb dX12_works_193 (lv_at hl 1 rfl) ?_
                      refine W.lcmp hx hb dX12_works_195 ?_
                      refine lv_topi (fun x273 ex273 => ?_)
                      have tx273 := z_tcmp ex273
                      have h274 := z_tlcmp ex273 tw96 tw143
                      refine lv_if_ge (tgt := 204) hx hb dX12_works_196 (by decide) (fun c275 => ?_) (fun c275 => ?_)
                      · have g276 := z_f_ge rfl z_l0 c275
                        refine lv_lload hx hb dX12_works_204 (lv_at hl 1 rfl) ?_
                        refine lv_lstore (lv' := [(8, .long w143), (6, .long w143), (4, .long w96), (3, .int x17), (2, .int y5), (0, .ref (ad 0)), (1, .int a1)]) hx hb dX12_works_206 hl (by decide) rfl (fun ls hl => ?_)
                        refine lv_goto (tgt := 383) hx hb dX12_works_208 (by decide) ?_
                        refine lv_aload_n hx hb dX12_works_383 rfl (lv_at hl 5 rfl) ?_
                        refine z_get (T := TX12) (N := 96) (ci := 12) (i := 0) (v := .ref (ad 24)) hx hb hts zj_X12_works_X12 hown hK hW rfl rfl 29 (by decide) (hts (.fieldLink RX12 79 "PetrolBoardModel" "result" "[J") (me_s (me_l (List.mem_of_getElem? (i := 3) rfl)))) (fun _ h => h) rfl dX12_works_384 ?_
                        refine lv_iload_n hx hb dX12_works_387 rfl (lv_at hl 4 rfl) ?_
                        refine lv_lload hx hb dX12_works_388 (lv_at hl 0 rfl) ?_
                        refine z_cl hW hS hA (va_runS (As := [.long w143]) (rest := [.int y5, .ref (ad 24)]) ⟨hx, hb, hml, hown, hts⟩ (sx_X12_held_x l G ad I6 J7  w143 _) (va_cwS 1 hts gX12_works_X12_held rfl rfl rfl (by decide +kernel) ⟨Nat.le_of_ble_eq_true rfl, Nat.le_of_ble_eq_true rfl⟩) (z_preS hK hW) rfl rfl hl.1 rfl (lv_room (Nat.le_of_ble_eq_true rfl)) dX12_works_390 ⟨Nat.le_of_ble_eq_true rfl, Nat.le_of_ble_eq_true rfl⟩) (fun r u1 H locs hp hW hS => ?_)
                        obtain ⟨e9, hp⟩ := hp
                        rw [e9] at hW
                        refine lv_topl (fun w277 ew277 => ?_)
                        rw [← ew277] at hp
                        have hh278 := hp
                        refine z_last (i := 24) hx hb hK hW hS rfl (z_ix rfl (by omega) (by omega)) dX12_works_393 (fun H locs hz1 hW hS => ?_)
                        obtain ⟨J279, eJ279⟩ : ∃ K : z_J, K = z_up J7 24 y5.toNatClampNeg w277 := ⟨_, rfl⟩
                        rw [← eJ279] at hW
                        obtain ⟨x280, ex280⟩ : ∃ y : Int32, y = y5 + 1 := ⟨_, rfl⟩
                        have tx280 : x280.toInt = y5.toInt + 1 := z_tadd ex280 rfl z_l1 (by omega) (by omega)
                        refine lv_iinc (v := x280) (lv' := [(2, .int x280), (8, .long w143), (6, .long w143), (4, .long w96), (3, .int x17), (0, .ref (ad 0)), (1, .int a1)]) hx hb dX12_works_394 hl (k := 4) rfl (by rw [ex280]; rfl) (by decide) rfl (fun ls hl => ?_)
                        refine lv_goto (tgt := 7) hx hb dX12_works_397 (by decide) ?_
                        exact lp4ih x280 I6 J279 _ _ _ (by omega) (by omega) lp4Nd lp4Asf lp4Ast (by omega) (zw_B_s hod hnn hn9 hR9 hc9 eJ279 (by omega) (by first | (exact (hh278.trans (congrArg zp_h tw143)).trans (zw_v6 (by omega) (by omega)).symm) | (exact (hh278.trans (congrArg zp_h tw143)).trans (zw_v6n (by omega) (by omega)).symm)) (by omega)) lp4fr hW hS (lv_sub hl [0, 5, 6] rfl)
                      · have g281 := z_f_nge rfl z_l0 c275
                        refine lv_lload hx hb dX12_works_199 (lv_at hl 2 rfl) ?_
                        refine lv_goto (tgt := 206) hx hb dX12_works_201 (by decide) ?_
                        refine lv_lstore (lv' := [(8, .long w96), (6, .long w143), (4, .long w96), (3, .int x17), (2, .int y5), (0, .ref (ad 0)), (1, .int a1)]) hx hb dX12_works_206 hl (by decide) rfl (fun ls hl => ?_)
                        refine lv_goto (tgt := 383) hx hb dX12_works_208 (by decide) ?_
                        refine lv_aload_n hx hb dX12_works_383 rfl (lv_at hl 5 rfl) ?_
                        refine z_get (T := TX12) (N := 96) (ci := 12) (i := 0) (v := .ref (ad 24)) hx hb hts zj_X12_works_X12 hown hK hW rfl rfl 29 (by decide) (hts (.fieldLink RX12 79 "PetrolBoardModel" "result" "[J") (me_s (me_l (List.mem_of_getElem? (i := 3) rfl)))) (fun _ h => h) rfl dX12_works_384 ?_
                        refine lv_iload_n hx hb dX12_works_387 rfl (lv_at hl 4 rfl) ?_
                        refine lv_lload hx hb dX12_works_388 (lv_at hl 0 rfl) ?_
                        refine z_cl hW hS hA (va_runS (As := [.long w96]) (rest := [.int y5, .ref (ad 24)]) ⟨hx, hb, hml, hown, hts⟩ (sx_X12_held_x l G ad I6 J7  w96 _) (va_cwS 1 hts gX12_works_X12_held rfl rfl rfl (by decide +kernel) ⟨Nat.le_of_ble_eq_true rfl, Nat.le_of_ble_eq_true rfl⟩) (z_preS hK hW) rfl rfl hl.1 rfl (lv_room (Nat.le_of_ble_eq_true rfl)) dX12_works_390 ⟨Nat.le_of_ble_eq_true rfl, Nat.le_of_ble_eq_true rfl⟩) (fun r u1 H locs hp hW hS => ?_)
                        obtain ⟨e9, hp⟩ := hp
                        rw [e9] at hW
                        refine lv_topl (fun w282 ew282 => ?_)
                        rw [← ew282] at hp
                        have hh283 := hp
                        refine z_last (i := 24) hx hb hK hW hS rfl (z_ix rfl (by omega) (by omega)) dX12_works_393 (fun H locs hz1 hW hS => ?_)
                        obtain ⟨J284, eJ284⟩ : ∃ K : z_J, K = z_up J7 24 y5.toNatClampNeg w282 := ⟨_, rfl⟩
                        rw [← eJ284] at hW
                        obtain ⟨x285, ex285⟩ : ∃ y : Int32, y = y5 + 1 := ⟨_, rfl⟩
                        have tx285 : x285.toInt = y5.toInt + 1 := z_tadd ex285 rfl z_l1 (by omega) (by omega)
                        refine lv_iinc (v := x285) (lv' := [(2, .int x285), (8, .long w96), (6, .long w143), (4, .long w96), (3, .int x17), (0, .ref (ad 0)), (1, .int a1)]) hx hb dX12_works_394 hl (k := 4) rfl (by rw [ex285]; rfl) (by decide) rfl (fun ls hl => ?_)
                        refine lv_goto (tgt := 7) hx hb dX12_works_397 (by decide) ?_
                        exact lp4ih x285 I6 J284 _ _ _ (by omega) (by omega) lp4Nd lp4Asf lp4Ast (by omega) (zw_B_s hod hnn hn9 hR9 hc9 eJ284 (by omega) (by first | (exact (hh283.trans (congrArg zp_h tw96)).trans (zw_v6 (by omega) (by omega)).symm) | (exact (hh283.trans (congrArg zp_h tw96)).trans (zw_v6n (by omega) (by omega)).symm)) (by omega)) lp4fr hW hS (lv_sub hl [0, 5, 6] rfl)
                  · have g286 := z_f_eq rfl z_l5 c155
                    refine lv_lload hx hb dX12_works_164 (lv_at hl 1 rfl) ?_
                    refine lv_lconst (v := 0) hx hb dX12_works_166 (by decide) ?_
                    refine W.lcmp hx hb dX12_works_167 ?_
                    refine lv_topi (fun x287 ex287 => ?_)
                    have tx287 := z_tcmp ex287
                    have h288 := z_tlcmp ex287 tw143 (show (0 : Int64).toInt = 0 by decide)
                    refine lv_if_ne (tgt := 175) hx hb dX12_works_168 (by decide) (fun c289 => ?_) (fun c289 => ?_)
                    · have g290 := z_f_ne rfl z_l0 c289
                      refine lv_lload hx hb dX12_works_175 (lv_at hl 2 rfl) ?_
                      refine lv_lload hx hb dX12_works_177 (lv_at hl 1 rfl) ?_
                      refine lv_ldiv hx hb dX12_works_179 (fun q => by have q9 := tw143; rw [q] at q9; have q8 : (0 : Int64).toInt = 0 := (by decide); omega) ?_
                      refine lv_topl (fun w291 ew291 => ?_)
                      have tw291 : w291.toInt = ((zw_R J7 n9.2.1) : Int).tdiv (zw_R J7 n9.2.2) := z_tldiv ew291 tw96 tw143 (by omega)
                      have b292 := z_tdivb (n := (zw_R J7 n9.2.1)) (m := (zw_R J7 n9.2.2)) (by omega)
                      refine lv_lstore (lv' := [(8, .long w291), (6, .long w143), (4, .long w96), (3, .int x17), (2, .int y5), (0, .ref (ad 0)), (1, .int a1)]) hx hb dX12_works_180 hl (by decide) rfl (fun ls hl => ?_)
                      refine lv_goto (tgt := 383) hx hb dX12_works_182 (by decide) ?_
                      refine lv_aload_n hx hb dX12_works_383 rfl (lv_at hl 5 rfl) ?_
                      refine z_get (T := TX12) (N := 96) (ci := 12) (i := 0) (v := .ref (ad 24)) hx hb hts zj_X12_works_X12 hown hK hW rfl rfl 29 (by decide) (hts (.fieldLink RX12 79 "PetrolBoardModel" "result" "[J") (me_s (me_l (List.mem_of_getElem? (i := 3) rfl)))) (fun _ h => h) rfl dX12_works_384 ?_
                      refine lv_iload_n hx hb dX12_works_387 rfl (lv_at hl 4 rfl) ?_
                      refine lv_lload hx hb dX12_works_388 (lv_at hl 0 rfl) ?_
                      refine z_cl hW hS hA (va_runS (As := [.long w291]) (rest := [.int y5, .ref (ad 24)]) ⟨hx, hb, hml, hown, hts⟩ (sx_X12_held_x l G ad I6 J7  w291 _) (va_cwS 1 hts gX12_works_X12_held rfl rfl rfl (by decide +kernel) ⟨Nat.le_of_ble_eq_true rfl, Nat.le_of_ble_eq_true rfl⟩) (z_preS hK hW) rfl rfl hl.1 rfl (lv_room (Nat.le_of_ble_eq_true rfl)) dX12_works_390 ⟨Nat.le_of_ble_eq_true rfl, Nat.le_of_ble_eq_true rfl⟩) (fun r u1 H locs hp hW hS => ?_)
                      obtain ⟨e9, hp⟩ := hp
                      rw [e9] at hW
                      refine lv_topl (fun w293 ew293 => ?_)
                      rw [← ew293] at hp
                      have hh294 := hp
                      refine z_last (i := 24) hx hb hK hW hS rfl (z_ix rfl (by omega) (by omega)) dX12_works_393 (fun H locs hz1 hW hS => ?_)
                      obtain ⟨J295, eJ295⟩ : ∃ K : z_J, K = z_up J7 24 y5.toNatClampNeg w293 := ⟨_, rfl⟩
                      rw [← eJ295] at hW
                      obtain ⟨x296, ex296⟩ : ∃ y : Int32, y = y5 + 1 := ⟨_, rfl⟩
                      have tx296 : x296.toInt = y5.toInt + 1 := z_tadd ex296 rfl z_l1 (by omega) (by omega)
                      refine lv_iinc (v := x296) (lv' := [(2, .int x296), (8, .long w291), (6, .long w143), (4, .long w96), (3, .int x17), (0, .ref (ad 0)), (1, .int a1)]) hx hb dX12_works_394 hl (k := 4) rfl (by rw [ex296]; rfl) (by decide) rfl (fun ls hl => ?_)
                      refine lv_goto (tgt := 7) hx hb dX12_works_397 (by decide) ?_
                      exact lp4ih x296 I6 J295 _ _ _ (by omega) (by omega) lp4Nd lp4Asf lp4Ast (by omega) (zw_B_s hod hnn hn9 hR9 hc9 eJ295 (by omega) (by first | (exact (hh294.trans (congrArg zp_h tw291)).trans (zw_v5 (by omega) (by omega)).symm) | (exact (hh294.trans (congrArg zp_h tw291)).trans (zw_v5n (by omega) (by omega)).symm)) (by omega)) lp4fr hW hS (lv_sub hl [0, 5, 6] rfl)
                    · have g297 := z_f_eq rfl z_l0 c289
                      refine lv_lconst (v := 0) hx hb dX12_works_171 (by decide) ?_
                      refine lv_goto (tgt := 180) hx hb dX12_works_172 (by decide) ?_
                      refine lv_lstore (lv' := [(8, .long 0), (6, .long w143), (4, .long w96), (3, .int x17), (2, .int y5), (0, .ref (ad 0)), (1, .int a1)]) hx hb dX12_works_180 hl (by decide) rfl (fun ls hl => ?_)
                      refine lv_goto (tgt := 383) hx hb dX12_works_182 (by decide) ?_
                      refine lv_aload_n hx hb dX12_works_383 rfl (lv_at hl 5 rfl) ?_
                      refine z_get (T := TX12) (N := 96) (ci := 12) (i := 0) (v := .ref (ad 24)) hx hb hts zj_X12_works_X12 hown hK hW rfl rfl 29 (by decide) (hts (.fieldLink RX12 79 "PetrolBoardModel" "result" "[J") (me_s (me_l (List.mem_of_getElem? (i := 3) rfl)))) (fun _ h => h) rfl dX12_works_384 ?_
                      refine lv_iload_n hx hb dX12_works_387 rfl (lv_at hl 4 rfl) ?_
                      refine lv_lload hx hb dX12_works_388 (lv_at hl 0 rfl) ?_
                      refine z_cl hW hS hA (va_runS (As := [.long 0]) (rest := [.int y5, .ref (ad 24)]) ⟨hx, hb, hml, hown, hts⟩ (sx_X12_held_x l G ad I6 J7  0 _) (va_cwS 1 hts gX12_works_X12_held rfl rfl rfl (by decide +kernel) ⟨Nat.le_of_ble_eq_true rfl, Nat.le_of_ble_eq_true rfl⟩) (z_preS hK hW) rfl rfl hl.1 rfl (lv_room (Nat.le_of_ble_eq_true rfl)) dX12_works_390 ⟨Nat.le_of_ble_eq_true rfl, Nat.le_of_ble_eq_true rfl⟩) (fun r u1 H locs hp hW hS => ?_)
                      obtain ⟨e9, hp⟩ := hp
                      rw [e9] at hW
                      refine lv_topl (fun w298 ew298 => ?_)
                      rw [← ew298] at hp
                      have hh299 := hp
                      refine z_last (i := 24) hx hb hK hW hS rfl (z_ix rfl (by omega) (by omega)) dX12_works_393 (fun H locs hz1 hW hS => ?_)
                      obtain ⟨J300, eJ300⟩ : ∃ K : z_J, K = z_up J7 24 y5.toNatClampNeg w298 := ⟨_, rfl⟩
                      rw [← eJ300] at hW
                      obtain ⟨x301, ex301⟩ : ∃ y : Int32, y = y5 + 1 := ⟨_, rfl⟩
                      have tx301 : x301.toInt = y5.toInt + 1 := z_tadd ex301 rfl z_l1 (by omega) (by omega)
                      refine lv_iinc (v := x301) (lv' := [(2, .int x301), (8, .long 0), (6, .long w143), (4, .long w96), (3, .int x17), (0, .ref (ad 0)), (1, .int a1)]) hx hb dX12_works_394 hl (k := 4) rfl (by rw [ex301]; rfl) (by decide) rfl (fun ls hl => ?_)
                      refine lv_goto (tgt := 7) hx hb dX12_works_397 (by decide) ?_
                      exact lp4ih x301 I6 J300 _ _ _ (by omega) (by omega) lp4Nd lp4Asf lp4Ast (by omega) (zw_B_s hod hnn hn9 hR9 hc9 eJ300 (by omega) (by first | (exact (hh299.trans (congrArg zp_h (show (0 : Int64).toInt = 0 by decide))).trans (zw_v5 (by omega) (by omega)).symm) | (exact (hh299.trans (congrArg zp_h (show (0 : Int64).toInt = 0 by decide))).trans (zw_v5n (by omega) (by omega)).symm)) (by omega)) lp4fr hW hS (lv_sub hl [0, 5, 6] rfl)
                · have g302 := z_f_eq rfl z_l4 c153
                  refine lv_lload hx hb dX12_works_149 (lv_at hl 2 rfl) ?_
                  refine lv_lload hx hb dX12_works_151 (lv_at hl 1 rfl) ?_
                  refine lv_lmul hx hb dX12_works_153 ?_
                  refine lv_topl (fun w303 ew303 => ?_)
                  have tw303 : w303.toInt = (zw_R J7 n9.2.1) * (zw_R J7 n9.2.2) := z_tlmul ew303 tw96 tw143 (by omega) (by omega)
                  have b304 := z_mulb (n := (zw_R J7 n9.2.1)) (m := (zw_R J7 n9.2.2)) (by omega) (by omega)
                  refine lv_lstore (lv' := [(8, .long w303), (6, .long w143), (4, .long w96), (3, .int x17), (2, .int y5), (0, .ref (ad 0)), (1, .int a1)]) hx hb dX12_works_154 hl (by decide) rfl (fun ls hl => ?_)
                  refine lv_goto (tgt := 383) hx hb dX12_works_156 (by decide) ?_
                  refine lv_aload_n hx hb dX12_works_383 rfl (lv_at hl 5 rfl) ?_
                  refine z_get (T := TX12) (N := 96) (ci := 12) (i := 0) (v := .ref (ad 24)) hx hb hts zj_X12_works_X12 hown hK hW rfl rfl 29 (by decide) (hts (.fieldLink RX12 79 "PetrolBoardModel" "result" "[J") (me_s (me_l (List.mem_of_getElem? (i := 3) rfl)))) (fun _ h => h) rfl dX12_works_384 ?_
                  refine lv_iload_n hx hb dX12_works_387 rfl (lv_at hl 4 rfl) ?_
                  refine lv_lload hx hb dX12_works_388 (lv_at hl 0 rfl) ?_
                  refine z_cl hW hS hA (va_runS (As := [.long w303]) (rest := [.int y5, .ref (ad 24)]) ⟨hx, hb, hml, hown, hts⟩ (sx_X12_held_x l G ad I6 J7  w303 _) (va_cwS 1 hts gX12_works_X12_held rfl rfl rfl (by decide +kernel) ⟨Nat.le_of_ble_eq_true rfl, Nat.le_of_ble_eq_true rfl⟩) (z_preS hK hW) rfl rfl hl.1 rfl (lv_room (Nat.le_of_ble_eq_true rfl)) dX12_works_390 ⟨Nat.le_of_ble_eq_true rfl, Nat.le_of_ble_eq_true rfl⟩) (fun r u1 H locs hp hW hS => ?_)
                  obtain ⟨e9, hp⟩ := hp
                  rw [e9] at hW
                  refine lv_topl (fun w305 ew305 => ?_)
                  rw [← ew305] at hp
                  have hh306 := hp
                  refine z_last (i := 24) hx hb hK hW hS rfl (z_ix rfl (by omega) (by omega)) dX12_works_393 (fun H locs hz1 hW hS => ?_)
                  obtain ⟨J307, eJ307⟩ : ∃ K : z_J, K = z_up J7 24 y5.toNatClampNeg w305 := ⟨_, rfl⟩
                  rw [← eJ307] at hW
                  obtain ⟨x308, ex308⟩ : ∃ y : Int32, y = y5 + 1 := ⟨_, rfl⟩
                  have tx308 : x308.toInt = y5.toInt + 1 := z_tadd ex308 rfl z_l1 (by omega) (by omega)
                  refine lv_iinc (v := x308) (lv' := [(2, .int x308), (8, .long w303), (6, .long w143), (4, .long w96), (3, .int x17), (0, .ref (ad 0)), (1, .int a1)]) hx hb dX12_works_394 hl (k := 4) rfl (by rw [ex308]; rfl) (by decide) rfl (fun ls hl => ?_)
                  refine lv_goto (tgt := 7) hx hb dX12_works_397 (by decide) ?_
                  exact lp4ih x308 I6 J307 _ _ _ (by omega) (by omega) lp4Nd lp4Asf lp4Ast (by omega) (zw_B_s hod hnn hn9 hR9 hc9 eJ307 (by omega) (by exact (hh306.trans (congrArg zp_h tw303)).trans (zw_v4 (by omega)).symm) (by omega)) lp4fr hW hS (lv_sub hl [0, 5, 6] rfl)
              · have g309 := z_f_eq rfl z_l3 c151
                refine lv_lload hx hb dX12_works_134 (lv_at hl 2 rfl) ?_
                refine lv_lload hx hb dX12_works_136 (lv_at hl 1 rfl) ?_
                refine lv_lsub hx hb dX12_works_138 ?_
                refine lv_topl (fun w310 ew310 => ?_)
                have tw310 : w310.toInt = (zw_R J7 n9.2.1) - (zw_R J7 n9.2.2) := z_tlsub ew310 tw96 tw143 (by omega) (by omega)
                refine lv_lstore (lv' := [(8, .long w310), (6, .long w143), (4, .long w96), (3, .int x17), (2, .int y5), (0, .ref (ad 0)), (1, .int a1)]) hx hb dX12_works_139 hl (by decide) rfl (fun ls hl => ?_)
                refine lv_goto (tgt := 383) hx hb dX12_works_141 (by decide) ?_
                refine lv_aload_n hx hb dX12_works_383 rfl (lv_at hl 5 rfl) ?_
                refine z_get (T := TX12) (N := 96) (ci := 12) (i := 0) (v := .ref (ad 24)) hx hb hts zj_X12_works_X12 hown hK hW rfl rfl 29 (by decide) (hts (.fieldLink RX12 79 "PetrolBoardModel" "result" "[J") (me_s (me_l (List.mem_of_getElem? (i := 3) rfl)))) (fun _ h => h) rfl dX12_works_384 ?_
                refine lv_iload_n hx hb dX12_works_387 rfl (lv_at hl 4 rfl) ?_
                refine lv_lload hx hb dX12_works_388 (lv_at hl 0 rfl) ?_
                refine z_cl hW hS hA (va_runS (As := [.long w310]) (rest := [.int y5, .ref (ad 24)]) ⟨hx, hb, hml, hown, hts⟩ (sx_X12_held_x l G ad I6 J7  w310 _) (va_cwS 1 hts gX12_works_X12_held rfl rfl rfl (by decide +kernel) ⟨Nat.le_of_ble_eq_true rfl, Nat.le_of_ble_eq_true rfl⟩) (z_preS hK hW) rfl rfl hl.1 rfl (lv_room (Nat.le_of_ble_eq_true rfl)) dX12_works_390 ⟨Nat.le_of_ble_eq_true rfl, Nat.le_of_ble_eq_true rfl⟩) (fun r u1 H locs hp hW hS => ?_)
                obtain ⟨e9, hp⟩ := hp
                rw [e9] at hW
                refine lv_topl (fun w311 ew311 => ?_)
                rw [← ew311] at hp
                have hh312 := hp
                refine z_last (i := 24) hx hb hK hW hS rfl (z_ix rfl (by omega) (by omega)) dX12_works_393 (fun H locs hz1 hW hS => ?_)
                obtain ⟨J313, eJ313⟩ : ∃ K : z_J, K = z_up J7 24 y5.toNatClampNeg w311 := ⟨_, rfl⟩
                rw [← eJ313] at hW
                obtain ⟨x314, ex314⟩ : ∃ y : Int32, y = y5 + 1 := ⟨_, rfl⟩
                have tx314 : x314.toInt = y5.toInt + 1 := z_tadd ex314 rfl z_l1 (by omega) (by omega)
                refine lv_iinc (v := x314) (lv' := [(2, .int x314), (8, .long w310), (6, .long w143), (4, .long w96), (3, .int x17), (0, .ref (ad 0)), (1, .int a1)]) hx hb dX12_works_394 hl (k := 4) rfl (by rw [ex314]; rfl) (by decide) rfl (fun ls hl => ?_)
                refine lv_goto (tgt := 7) hx hb dX12_works_397 (by decide) ?_
                exact lp4ih x314 I6 J313 _ _ _ (by omega) (by omega) lp4Nd lp4Asf lp4Ast (by omega) (zw_B_s hod hnn hn9 hR9 hc9 eJ313 (by omega) (by exact (hh312.trans (congrArg zp_h tw310)).trans (zw_v3 (by omega)).symm) (by omega)) lp4fr hW hS (lv_sub hl [0, 5, 6] rfl)
            · have g315 := z_f_eq rfl z_l2 c149
              refine lv_lload hx hb dX12_works_119 (lv_at hl 2 rfl) ?_
              refine lv_lload hx hb dX12_works_121 (lv_at hl 1 rfl) ?_
              refine lv_ladd hx hb dX12_works_123 ?_
              refine lv_topl (fun w316 ew316 => ?_)
              have tw316 : w316.toInt = (zw_R J7 n9.2.1) + (zw_R J7 n9.2.2) := z_tladd ew316 tw96 tw143 (by omega) (by omega)
              refine lv_lstore (lv' := [(8, .long w316), (6, .long w143), (4, .long w96), (3, .int x17), (2, .int y5), (0, .ref (ad 0)), (1, .int a1)]) hx hb dX12_works_124 hl (by decide) rfl (fun ls hl => ?_)
              refine lv_goto (tgt := 383) hx hb dX12_works_126 (by decide) ?_
              refine lv_aload_n hx hb dX12_works_383 rfl (lv_at hl 5 rfl) ?_
              refine z_get (T := TX12) (N := 96) (ci := 12) (i := 0) (v := .ref (ad 24)) hx hb hts zj_X12_works_X12 hown hK hW rfl rfl 29 (by decide) (hts (.fieldLink RX12 79 "PetrolBoardModel" "result" "[J") (me_s (me_l (List.mem_of_getElem? (i := 3) rfl)))) (fun _ h => h) rfl dX12_works_384 ?_
              refine lv_iload_n hx hb dX12_works_387 rfl (lv_at hl 4 rfl) ?_
              refine lv_lload hx hb dX12_works_388 (lv_at hl 0 rfl) ?_
              refine z_cl hW hS hA (va_runS (As := [.long w316]) (rest := [.int y5, .ref (ad 24)]) ⟨hx, hb, hml, hown, hts⟩ (sx_X12_held_x l G ad I6 J7  w316 _) (va_cwS 1 hts gX12_works_X12_held rfl rfl rfl (by decide +kernel) ⟨Nat.le_of_ble_eq_true rfl, Nat.le_of_ble_eq_true rfl⟩) (z_preS hK hW) rfl rfl hl.1 rfl (lv_room (Nat.le_of_ble_eq_true rfl)) dX12_works_390 ⟨Nat.le_of_ble_eq_true rfl, Nat.le_of_ble_eq_true rfl⟩) (fun r u1 H locs hp hW hS => ?_)
              obtain ⟨e9, hp⟩ := hp
              rw [e9] at hW
              refine lv_topl (fun w317 ew317 => ?_)
              rw [← ew317] at hp
              have hh318 := hp
              refine z_last (i := 24) hx hb hK hW hS rfl (z_ix rfl (by omega) (by omega)) dX12_works_393 (fun H locs hz1 hW hS => ?_)
              obtain ⟨J319, eJ319⟩ : ∃ K : z_J, K = z_up J7 24 y5.toNatClampNeg w317 := ⟨_, rfl⟩
              rw [← eJ319] at hW
              obtain ⟨x320, ex320⟩ : ∃ y : Int32, y = y5 + 1 := ⟨_, rfl⟩
              have tx320 : x320.toInt = y5.toInt + 1 := z_tadd ex320 rfl z_l1 (by omega) (by omega)
              refine lv_iinc (v := x320) (lv' := [(2, .int x320), (8, .long w316), (6, .long w143), (4, .long w96), (3, .int x17), (0, .ref (ad 0)), (1, .int a1)]) hx hb dX12_works_394 hl (k := 4) rfl (by rw [ex320]; rfl) (by decide) rfl (fun ls hl => ?_)
              refine lv_goto (tgt := 7) hx hb dX12_works_397 (by decide) ?_
              exact lp4ih x320 I6 J319 _ _ _ (by omega) (by omega) lp4Nd lp4Asf lp4Ast (by omega) (zw_B_s hod hnn hn9 hR9 hc9 eJ319 (by omega) (by exact (hh318.trans (congrArg zp_h tw316)).trans (zw_v2 (by omega)).symm) (by omega)) lp4fr hW hS (lv_sub hl [0, 5, 6] rfl)
  exact lp4 4294967296 x1 I J _ _ _ (z_m0u _) (by omega) hNd hAsf hAst (by omega) (zw_B_0 (by omega) (fun _ => rfl)) z_fr_0 hW hS (lv_sub hl [0, 1, 2] rfl)
