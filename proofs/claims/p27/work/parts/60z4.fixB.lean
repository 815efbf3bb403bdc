set_option maxHeartbeats 8000000 in
set_option maxRecDepth 100000 in
theorem sx_X12_inForce_x_q (l : Launch) (G : z_G) (ad : Nat → Nat) (I : z_I) (J : z_J) (hmb : z_imb I) (a1 : Int32) (a2 : Int32) : z_M l yX12_inForce wsX12_inForce { frames := 1, cells := 0, slots := 0, locals := 12 } [.ref (ad 0), .int a1, .int a2] G (shM, ad, I, J, PM ad) (fun r u1 => u1 = (shM, ad, I, J, PM ad) ∧ (zi_B (zi_km I) (zi_kt I) a1.toInt a2.toInt (I 0 13).toNatClampNeg r.toInt ∧ (-1 ≤ r.toInt ∧ r.toInt ≤ 11))) 0 0 := by
  intro sz
  refine z_headQ (cc := cX12_inForce) (maxL := 5) (ret := (some .int)) (by decide) rfl (Nat.le_of_ble_eq_true rfl) ?_
  intro p e s m below meth c0 ls hIn hK hsz hW hl
  obtain ⟨hx, hb, hr, hml, hown, hts, hlocks, hname⟩ := hIn
  subst hsz
  have hown : s.vm.findClass RX12 = some m.cls := hown
  have hA : ∀ q : Nat, s.heap.size ≤ q → z_A (shM, ad, I, J, PM ad) s.heap.size q := fun q h => Or.inr h
  generalize hAe : z_A (shM, ad, I, J, PM ad) s.heap.size = A at *
  have hS : va_S A s.heap s.heap [] := va_S.rf
  have hl : lv_has ls 5 [(0, .ref (ad 0)), (1, .int a1), (2, .int a2)] := hl
  refine lv_iconst (v := (-1)) hx hb dX12_inForce_0 (by decide) ?_
  refine lv_istore_n (lv' := [(3, .int (-1)), (0, .ref (ad 0)), (1, .int a1), (2, .int a2)]) hx hb dX12_inForce_1 rfl hl (by decide) rfl (fun ls hl => ?_)
  refine lv_iconst (v := 0) hx hb dX12_inForce_2 (by decide) ?_
  refine lv_istore (lv' := [(4, .int 0), (3, .int (-1)), (0, .ref (ad 0)), (1, .int a1), (2, .int a2)]) hx hb dX12_inForce_3 hl (by decide) rfl (fun ls hl => ?_)
  have lp1 : ∀ (f : Nat) (y2 : Int32) (y3 : Int32) (H : Heap) (locs : List Loc) (ls : Array Slot), (2147483647 < y2.toInt + (f : Int)) → (0 ≤ y2.toInt) → ((-1) ≤ y3.toInt) → (y3.toInt ≤ 11) → (∃ i : Nat, (i : Int) = y2.toInt ∧ (i : Int) ≤ (I 0 13).toInt ∧ zi_B (zi_km I) (zi_kt I) a1.toInt a2.toInt i y3.toInt ∧ y3.toInt < (i : Int)) → z_W G A (shM, ad, I, J, PM ad) H → va_S A s.heap H locs → lv_has ls 5 [(4, .int y2), (3, .int y3), (0, .ref (ad 0)), (1, .int a1), (2, .int a2)] → W p l e (headSpec wsX12_inForce { frames := 1, cells := 0, slots := 0, locals := 12 }).room s m ([.ref (ad 0), .int a1, .int a2] : List Value).toArray below meth c0 H locs 0 0 (MQ below (va_Qi (fun (r : Int32) (u1 : z_U) => u1 = (shM, ad, I, J, PM ad) ∧ (zi_B (zi_km I) (zi_kt I) a1.toInt a2.toInt (I 0 13).toNatClampNeg r.toInt ∧ (-1 ≤ r.toInt ∧ r.toInt ≤ 11))) (z_B G A) A) ([.ref (ad 0), .int a1, .int a2] : List Value).toArray s 0 0 A) (F0 m 5 ls []) := by
    intro f
    induction f with
    | zero => intro y2 y3 H locs ls lp1m lp1l4 lp1l3 lp1u3 lp1B hW hS hl; exact absurd lp1m (by have := Int32.toInt_lt y2; have := Int32.le_toInt y2; omega)
    | succ f lp1ih =>
      intro y2 y3 H locs ls lp1m lp1l4 lp1l3 lp1u3 lp1B hW hS hl
      refine lv_iload hx hb dX12_inForce_5 (lv_at hl 0 rfl) ?_
      refine lv_aload_n hx hb dX12_inForce_7 rfl (lv_at hl 2 rfl) ?_
      have r4 : 0 ≤ (I 0 13).toInt ∧ (I 0 13).toInt ≤ 12 := hmb.1
      refine z_get (T := TX12) (N := 96) (ci := 12) (i := 0) (v := .int (I 0 13)) hx hb hts zj_X12_inForce_X12 hown hK hW rfl rfl 13 (by decide) (hts (.fieldLink RX12 408 "PetrolBoardModel" "texts" "I") (me_s (me_l (List.mem_of_getElem? (i := 0) rfl)))) (fun _ h => h) rfl dX12_inForce_8 ?_
      refine lv_icmp_ge (tgt := 65) hx hb dX12_inForce_11 (by decide) (fun c5 => ?_) (fun c5 => ?_)
      · have g6 := z_f_ge rfl rfl c5
        have b7 := Int32.toInt_lt y2
        refine lv_iload_n hx hb dX12_inForce_65 rfl (lv_at hl 1 rfl) ?_
        exact z_iret hx hb hr hK hS (Nat.le_of_ble_eq_true rfl) (Nat.le_of_ble_eq_true rfl) hlocks dX12_inForce_66 (shM, ad, I, J, PM ad) hW ⟨rfl, (by obtain ⟨i9, hi9, hn9, hB9, hl9⟩ := lp1B; have e9 : i9 = (I 0 13).toNatClampNeg := (by have := z_clt (x := I 0 13) rfl (by omega); omega); rw [← e9]; exact ⟨hB9, by omega⟩)⟩
      · have g8 := z_f_nge rfl rfl c5
        have b9 := Int32.toInt_lt y2
        refine lv_aload_n hx hb dX12_inForce_14 rfl (lv_at hl 2 rfl) ?_
        refine z_get (T := TX12) (N := 96) (ci := 12) (i := 0) (v := .ref (ad 14)) hx hb hts zj_X12_inForce_X12 hown hK hW rfl rfl 19 (by decide) (hts (.fieldLink RX12 49 "PetrolBoardModel" "textTold" "[I") (me_s (me_l (List.mem_of_getElem? (i := 1) rfl)))) (fun _ h => h) rfl dX12_inForce_15 ?_
        refine lv_iload hx hb dX12_inForce_18 (lv_at hl 0 rfl) ?_
        refine z_iald (i := 14) hx hb hK hW rfl (z_ix rfl (by omega) (by omega)) dX12_inForce_20 ?_
        refine lv_topi (fun x10 ex10 => ?_)
        have h11 : zi_kt I y2.toNatClampNeg = x10.toInt := by unfold zi_kt; rw [ex10]
        have h12 := z_clt (x := y2) rfl (by omega)
        refine lv_iload_n hx hb dX12_inForce_21 rfl (lv_at hl 4 rfl) ?_
        refine lv_icmp_gt (tgt := 59) hx hb dX12_inForce_22 (by decide) (fun c13 => ?_) (fun c13 => ?_)
        · have g14 := z_f_gt rfl rfl c13
          have b15 := Int32.toInt_lt x10
          have b16 := Int32.toInt_lt a2
          obtain ⟨x17, ex17⟩ : ∃ y : Int32, y = y2 + 1 := ⟨_, rfl⟩
          have tx17 : x17.toInt = y2.toInt + 1 := z_tadd ex17 rfl z_l1 (by omega) (by omega)
          refine lv_iinc (v := x17) (lv' := [(4, .int x17), (3, .int y3), (0, .ref (ad 0)), (1, .int a1), (2, .int a2)]) hx hb dX12_inForce_59 hl (k := 0) rfl (by rw [ex17]; rfl) (by decide) rfl (fun ls hl => ?_)
          refine lv_goto (tgt := 5) hx hb dX12_inForce_62 (by decide) ?_
          exact lp1ih x17 y3 _ _ _ (by omega) (by omega) (by omega) (by omega) (by obtain ⟨i9, hi9, hn9, hB9, hl9⟩ := lp1B; have e9 : i9 = y2.toNatClampNeg := (by have := z_clt (x := y2) rfl (by omega); omega); subst e9; first | exact ⟨_, by have := z_clt (x := y2) rfl (by omega); omega, by have := z_clt (x := y2) rfl (by omega); omega, zi_B_no hB9 (by omega), by have := z_clt (x := y2) rfl (by omega); omega⟩ | exact ⟨_, by have := z_clt (x := y2) rfl (by omega); omega, by have := z_clt (x := y2) rfl (by omega); omega, zi_B_lo (q := y3.toNatClampNeg) hB9 (by have := z_clt (x := y3) rfl (by omega); omega) (by omega), by have := z_clt (x := y2) rfl (by omega); omega⟩) hW hS (lv_sub hl [0, 1, 2, 3, 4] rfl)
        · have g18 := z_f_ngt rfl rfl c13
          have b19 := Int32.toInt_lt x10
          have b20 := Int32.toInt_lt a2
          refine lv_aload_n hx hb dX12_inForce_25 rfl (lv_at hl 2 rfl) ?_
          refine z_get (T := TX12) (N := 96) (ci := 12) (i := 0) (v := .ref (ad 13)) hx hb hts zj_X12_inForce_X12 hown hK hW rfl rfl 18 (by decide) (hts (.fieldLink RX12 46 "PetrolBoardModel" "textMonth" "[I") (me_s (me_l (List.mem_of_getElem? (i := 2) rfl)))) (fun _ h => h) rfl dX12_inForce_26 ?_
          refine lv_iload hx hb dX12_inForce_29 (lv_at hl 0 rfl) ?_
          refine z_iald (i := 13) hx hb hK hW rfl (z_ix rfl (by omega) (by omega)) dX12_inForce_31 ?_
          refine lv_topi (fun x21 ex21 => ?_)
          have h22 : zi_km I y2.toNatClampNeg = x21.toInt := by unfold zi_km; rw [ex21]
          have h23 := z_clt (x := y2) rfl (by omega)
          refine lv_iload_n hx hb dX12_inForce_32 rfl (lv_at hl 3 rfl) ?_
          refine lv_icmp_gt (tgt := 59) hx hb dX12_inForce_33 (by decide) (fun c24 => ?_) (fun c24 => ?_)
          · have g25 := z_f_gt rfl rfl c24
            have b26 := Int32.toInt_lt x21
            have b27 := Int32.toInt_lt a1
            obtain ⟨x28, ex28⟩ : ∃ y : Int32, y = y2 + 1 := ⟨_, rfl⟩
            have tx28 : x28.toInt = y2.toInt + 1 := z_tadd ex28 rfl z_l1 (by omega) (by omega)
            refine lv_iinc (v := x28) (lv' := [(4, .int x28), (3, .int y3), (0, .ref (ad 0)), (1, .int a1), (2, .int a2)]) hx hb dX12_inForce_59 hl (k := 0) rfl (by rw [ex28]; rfl) (by decide) rfl (fun ls hl => ?_)
            refine lv_goto (tgt := 5) hx hb dX12_inForce_62 (by decide) ?_
            exact lp1ih x28 y3 _ _ _ (by omega) (by omega) (by omega) (by omega) (by obtain ⟨i9, hi9, hn9, hB9, hl9⟩ := lp1B; have e9 : i9 = y2.toNatClampNeg := (by have := z_clt (x := y2) rfl (by omega); omega); subst e9; first | exact ⟨_, by have := z_clt (x := y2) rfl (by omega); omega, by have := z_clt (x := y2) rfl (by omega); omega, zi_B_no hB9 (by omega), by have := z_clt (x := y2) rfl (by omega); omega⟩ | exact ⟨_, by have := z_clt (x := y2) rfl (by omega); omega, by have := z_clt (x := y2) rfl (by omega); omega, zi_B_lo (q := y3.toNatClampNeg) hB9 (by have := z_clt (x := y3) rfl (by omega); omega) (by omega), by have := z_clt (x := y2) rfl (by omega); omega⟩) hW hS (lv_sub hl [0, 1, 2, 3, 4] rfl)
          · have g29 := z_f_ngt rfl rfl c24
            have b30 := Int32.toInt_lt x21
            have b31 := Int32.toInt_lt a1
            refine lv_iload_n hx hb dX12_inForce_36 rfl (lv_at hl 1 rfl) ?_
            refine lv_if_lt (tgt := 56) hx hb dX12_inForce_37 (by decide) (fun c32 => ?_) (fun c32 => ?_)
            · have g33 := z_f_lt rfl z_l0 c32
              refine lv_iload hx hb dX12_inForce_56 (lv_at hl 0 rfl) ?_
              refine lv_istore_n (lv' := [(3, .int y2), (4, .int y2), (0, .ref (ad 0)), (1, .int a1), (2, .int a2)]) hx hb dX12_inForce_58 rfl hl (by decide) rfl (fun ls hl => ?_)
              obtain ⟨x34, ex34⟩ : ∃ y : Int32, y = y2 + 1 := ⟨_, rfl⟩
              have tx34 : x34.toInt = y2.toInt + 1 := z_tadd ex34 rfl z_l1 (by omega) (by omega)
              refine lv_iinc (v := x34) (lv' := [(4, .int x34), (3, .int y2), (0, .ref (ad 0)), (1, .int a1), (2, .int a2)]) hx hb dX12_inForce_59 hl (k := 1) rfl (by rw [ex34]; rfl) (by decide) rfl (fun ls hl => ?_)
              refine lv_goto (tgt := 5) hx hb dX12_inForce_62 (by decide) ?_
              exact lp1ih x34 y2 _ _ _ (by omega) (by omega) (by omega) (by omega) (by obtain ⟨i9, hi9, hn9, hB9, hl9⟩ := lp1B; have e9 : i9 = y2.toNatClampNeg := (by have := z_clt (x := y2) rfl (by omega); omega); subst e9; exact ⟨_, by have := z_clt (x := y2) rfl (by omega); omega, by have := z_clt (x := y2) rfl (by omega); omega, zi_B_up hB9 (by omega) (by omega) (by first | exact Or.inl (by omega) | exact Or.inr ⟨y3.toNatClampNeg, by have := z_clt (x := y3) rfl (by omega); omega, by omega⟩) (by have := z_clt (x := y2) rfl (by omega); omega), by have := z_clt (x := y2) rfl (by omega); omega⟩) hW hS (lv_sub hl [0, 1, 2, 3, 4] rfl)
            · have g35 := z_f_nlt rfl z_l0 c32
              refine lv_aload_n hx hb dX12_inForce_40 rfl (lv_at hl 2 rfl) ?_
              refine z_get (T := TX12) (N := 96) (ci := 12) (i := 0) (v := .ref (ad 13)) hx hb hts zj_X12_inForce_X12 hown hK hW rfl rfl 18 (by decide) (hts (.fieldLink RX12 46 "PetrolBoardModel" "textMonth" "[I") (me_s (me_l (List.mem_of_getElem? (i := 2) rfl)))) (fun _ h => h) rfl dX12_inForce_41 ?_
              refine lv_iload hx hb dX12_inForce_44 (lv_at hl 0 rfl) ?_
              refine z_iald (i := 13) hx hb hK hW rfl (z_ix rfl (by omega) (by omega)) dX12_inForce_46 ?_
              refine z_topi (v := x21) ex21.symm ?_
              refine lv_aload_n hx hb dX12_inForce_47 rfl (lv_at hl 2 rfl) ?_
              refine z_get (T := TX12) (N := 96) (ci := 12) (i := 0) (v := .ref (ad 13)) hx hb hts zj_X12_inForce_X12 hown hK hW rfl rfl 18 (by decide) (hts (.fieldLink RX12 46 "PetrolBoardModel" "textMonth" "[I") (me_s (me_l (List.mem_of_getElem? (i := 2) rfl)))) (fun _ h => h) rfl dX12_inForce_48 ?_
              refine lv_iload_n hx hb dX12_inForce_51 rfl (lv_at hl 1 rfl) ?_
              refine z_iald (i := 13) hx hb hK hW rfl (z_ix rfl (by omega) (by omega)) dX12_inForce_52 ?_
              refine lv_topi (fun x36 ex36 => ?_)
              have h37 : zi_km I y3.toNatClampNeg = x36.toInt := by unfold zi_km; rw [ex36]
              have h38 := z_clt (x := y3) rfl (by omega)
              refine lv_icmp_lt (tgt := 59) hx hb dX12_inForce_53 (by decide) (fun c39 => ?_) (fun c39 => ?_)
              · have g40 := z_f_lt rfl rfl c39
                have b41 := Int32.toInt_lt x36
                obtain ⟨x42, ex42⟩ : ∃ y : Int32, y = y2 + 1 := ⟨_, rfl⟩
                have tx42 : x42.toInt = y2.toInt + 1 := z_tadd ex42 rfl z_l1 (by omega) (by omega)
                refine lv_iinc (v := x42) (lv' := [(4, .int x42), (3, .int y3), (0, .ref (ad 0)), (1, .int a1), (2, .int a2)]) hx hb dX12_inForce_59 hl (k := 0) rfl (by rw [ex42]; rfl) (by decide) rfl (fun ls hl => ?_)
                refine lv_goto (tgt := 5) hx hb dX12_inForce_62 (by decide) ?_
                exact lp1ih x42 y3 _ _ _ (by omega) (by omega) (by omega) (by omega) (by obtain ⟨i9, hi9, hn9, hB9, hl9⟩ := lp1B; have e9 : i9 = y2.toNatClampNeg := (by have := z_clt (x := y2) rfl (by omega); omega); subst e9; first | exact ⟨_, by have := z_clt (x := y2) rfl (by omega); omega, by have := z_clt (x := y2) rfl (by omega); omega, zi_B_no hB9 (by omega), by have := z_clt (x := y2) rfl (by omega); omega⟩ | exact ⟨_, by have := z_clt (x := y2) rfl (by omega); omega, by have := z_clt (x := y2) rfl (by omega); omega, zi_B_lo (q := y3.toNatClampNeg) hB9 (by have := z_clt (x := y3) rfl (by omega); omega) (by omega), by have := z_clt (x := y2) rfl (by omega); omega⟩) hW hS (lv_sub hl [0, 1, 2, 3, 4] rfl)
              · have g43 := z_f_nlt rfl rfl c39
                have b44 := Int32.toInt_lt x36
                refine lv_iload hx hb dX12_inForce_56 (lv_at hl 0 rfl) ?_
                refine lv_istore_n (lv' := [(3, .int y2), (4, .int y2), (0, .ref (ad 0)), (1, .int a1), (2, .int a2)]) hx hb dX12_inForce_58 rfl hl (by decide) rfl (fun ls hl => ?_)
                obtain ⟨x45, ex45⟩ : ∃ y : Int32, y = y2 + 1 := ⟨_, rfl⟩
                have tx45 : x45.toInt = y2.toInt + 1 := z_tadd ex45 rfl z_l1 (by omega) (by omega)
                refine lv_iinc (v := x45) (lv' := [(4, .int x45), (3, .int y2), (0, .ref (ad 0)), (1, .int a1), (2, .int a2)]) hx hb dX12_inForce_59 hl (k := 1) rfl (by rw [ex45]; rfl) (by decide) rfl (fun ls hl => ?_)
                refine lv_goto (tgt := 5) hx hb dX12_inForce_62 (by decide) ?_
                exact lp1ih x45 y2 _ _ _ (by omega) (by omega) (by omega) (by omega) (by obtain ⟨i9, hi9, hn9, hB9, hl9⟩ := lp1B; have e9 : i9 = y2.toNatClampNeg := (by have := z_clt (x := y2) rfl (by omega); omega); subst e9; exact ⟨_, by have := z_clt (x := y2) rfl (by omega); omega, by have := z_clt (x := y2) rfl (by omega); omega, zi_B_up hB9 (by omega) (by omega) (by first | exact Or.inl (by omega) | exact Or.inr ⟨y3.toNatClampNeg, by have := z_clt (x := y3) rfl (by omega); omega, by omega⟩) (by have := z_clt (x := y2) rfl (by omega); omega), by have := z_clt (x := y2) rfl (by omega); omega⟩) hW hS (lv_sub hl [0, 1, 2, 3, 4] rfl)
  exact lp1 4294967296 (0) ((-1)) _ _ _ (z_m0u _) (by rw [z_l0]; omega) (by rw [z_lm1]; omega) (by rw [z_lm1]; omega) ⟨0, by decide, by have q9 := hmb.1.1; omega, zi_B_0, by decide⟩ hW hS (lv_sub hl [0, 1, 2, 3, 4] rfl)

section ZIA
variable {hd nu hd1 nu1 : Nat → Int} {w w1 d : Int}
end ZIA
set_option maxHeartbeats 8000000 in
set_option maxRecDepth 100000 in
theorem sx_X12_number_x_q (l : Launch) (G : z_G) (ad : Nat → Nat) (I : z_I) (J : z_J) (hmb : z_imb I) (hAtf : z_rg 11 0 288 I) (hAtm : z_rg 12 0 24 I) (a1 : Int32) (a2 : Int32) (a3 : Int32) (q1 : 3 ≤ a3.toInt ∧ a3.toInt ≤ 7) : z_M l yX12_number wsX12_number { frames := 2, cells := 0, slots := 0, locals := 36 } [.ref (ad 0), .int a1, .int a2, .int a3] G (shM, ad, I, J, PM ad) (fun r u1 => u1 = (shM, ad, I, J, PM ad) ∧ (zi_R (zi_km I) (zi_kt I) a1.toInt a2.toInt (I 0 13).toNatClampNeg (zi_us (a3.toInt - 3)) (zi_am I (a3.toInt - 3)) r.toInt)) 0 0 := by
  intro sz
  refine z_headQ (cc := cX12_number) (maxL := 7) (ret := (some .int)) (by decide) rfl (Nat.le_of_ble_eq_true rfl) ?_
  intro p e s m below meth c0 ls hIn hK hsz hW hl
  obtain ⟨hx, hb, hr, hml, hown, hts, hlocks, hname⟩ := hIn
  subst hsz
  have hown : s.vm.findClass RX12 = some m.cls := hown
  have hA : ∀ q : Nat, s.heap.size ≤ q → z_A (shM, ad, I, J, PM ad) s.heap.size q := fun q h => Or.inr h
  generalize hAe : z_A (shM, ad, I, J, PM ad) s.heap.size = A at *
  have hS : va_S A s.heap s.heap [] := va_S.rf
  have hl : lv_has ls 7 [(0, .ref (ad 0)), (1, .int a1), (2, .int a2), (3, .int a3)] := hl
  refine lv_iload_n hx hb dX12_number_0 rfl (lv_at hl 3 rfl) ?_
  refine lv_iconst (v := 3) hx hb dX12_number_1 (by decide) ?_
  refine lv_icmp_ne (tgt := 10) hx hb dX12_number_2 (by decide) (fun c1 => ?_) (fun c1 => ?_)
  · have g2 := z_f_ne rfl z_l3 c1
    refine lv_iload_n hx hb dX12_number_10 rfl (lv_at hl 3 rfl) ?_
    refine lv_iconst (v := 4) hx hb dX12_number_11 (by decide) ?_
    refine lv_icmp_ne (tgt := 19) hx hb dX12_number_12 (by decide) (fun c3 => ?_) (fun c3 => ?_)
    · have g4 := z_f_ne rfl z_l4 c3
      refine lv_iload_n hx hb dX12_number_19 rfl (lv_at hl 3 rfl) ?_
      refine lv_iconst (v := 5) hx hb dX12_number_20 (by decide) ?_
      refine lv_icmp_ne (tgt := 28) hx hb dX12_number_21 (by decide) (fun c5 => ?_) (fun c5 => ?_)
      · have g6 := z_f_ne rfl z_l5 c5
        refine lv_iload_n hx hb dX12_number_28 rfl (lv_at hl 3 rfl) ?_
        refine lv_bipush (v := 6) hx hb dX12_number_29 (by decide) ?_
        refine lv_icmp_ne (tgt := 38) hx hb dX12_number_31 (by decide) (fun c7 => ?_) (fun c7 => ?_)
        · have g8 := z_f_ne rfl z_l6 c7
          refine lv_bipush (v := 20) hx hb dX12_number_38 (by decide) ?_
          refine lv_istore (lv' := [(4, .int 20), (0, .ref (ad 0)), (1, .int a1), (2, .int a2), (3, .int a3)]) hx hb dX12_number_40 hl (by decide) rfl (fun ls hl => ?_)
          refine lv_aload_n hx hb dX12_number_42 rfl (lv_at hl 1 rfl) ?_
          refine lv_iload_n hx hb dX12_number_43 rfl (lv_at hl 2 rfl) ?_
          refine lv_iload_n hx hb dX12_number_44 rfl (lv_at hl 3 rfl) ?_
          refine z_ci hW hS hA (va_runV (As := [.int a1, .int a2]) (rest := []) ⟨hx, hb, hml, hown, hts⟩ (sx_X12_inForce_x l G ad I J ⟨(by show 0 ≤ (I 0 13).toInt ∧ (I 0 13).toInt ≤ 12; exact hmb.1), (by show 0 ≤ (I 0 14).toInt ∧ (I 0 14).toInt ≤ 288; exact hmb.2)⟩ a1 a2 _) (cwV 2 hts gX12_number_X12_inForce rfl rfl rfl (by decide +kernel) ⟨Nat.le_of_ble_eq_true rfl, Nat.le_of_ble_eq_true rfl⟩) (z_preV (i := 0) hK hW rfl rfl) rfl rfl hl.1 rfl (lv_room (Nat.le_of_ble_eq_true rfl)) dX12_number_45 ⟨Nat.le_of_ble_eq_true rfl, Nat.le_of_ble_eq_true rfl⟩) (fun r u1 H locs hp hW hS => ?_)
          obtain ⟨e9, hp⟩ := hp
          rw [e9] at hW
          refine lv_topi (fun x9 ex9 => ?_)
          rw [← ex9] at hp
          obtain ⟨hB_x9, h11⟩ := hp
          refine lv_istore (lv' := [(5, .int x9), (4, .int 20), (0, .ref (ad 0)), (1, .int a1), (2, .int a2), (3, .int a3)]) hx hb dX12_number_48 hl (by decide) rfl (fun ls hl => ?_)
          refine lv_iload hx hb dX12_number_50 (lv_at hl 0 rfl) ?_
          refine lv_if_ge (tgt := 58) hx hb dX12_number_52 (by decide) (fun c12 => ?_) (fun c12 => ?_)
          · have g13 := z_f_ge rfl z_l0 c12
            refine lv_aload_n hx hb dX12_number_58 rfl (lv_at hl 2 rfl) ?_
            refine z_get (T := TX12) (N := 96) (ci := 12) (i := 0) (v := .ref (ad 11)) hx hb hts zj_X12_number_X12 hown hK hW rfl rfl 16 (by decide) (hts (.fieldLink RX12 40 "PetrolBoardModel" "textFirst" "[I") (me_s (me_l (List.mem_of_getElem? (i := 0) rfl)))) (fun _ h => h) rfl dX12_number_59 ?_
            refine lv_iload hx hb dX12_number_62 (lv_at hl 0 rfl) ?_
            refine z_iald (i := 11) hx hb hK hW rfl (z_ix rfl (by omega) (by omega)) dX12_number_64 ?_
            refine lv_topi (fun x14 ex14 => ?_)
            have h15 : 0 ≤ x14.toInt ∧ x14.toInt ≤ 288 := by rw [ex14]; exact hAtf _
            have h16 : (I 11 x9.toNatClampNeg).toInt = x14.toInt := by rw [ex14]
            refine lv_istore (lv' := [(6, .int x14), (5, .int x9), (4, .int 20), (0, .ref (ad 0)), (1, .int a1), (2, .int a2), (3, .int a3)]) hx hb dX12_number_65 hl (by decide) rfl (fun ls hl => ?_)
            have lp17 : ∀ (f : Nat) (y18 : Int32) (y19 : Int32) (H : Heap) (locs : List Loc) (ls : Array Slot), (2147483647 < y18.toInt + (f : Int)) → (0 ≤ y18.toInt) → (x14.toInt ≤ y18.toInt) → (∃ i : Nat, y18.toInt = (I 11 x9.toNatClampNeg).toInt + (i : Int) ∧ (i : Int) ≤ (I 12 x9.toNatClampNeg).toInt ∧ y19.toInt = zi_A (zi_kh I (I 11 x9.toNatClampNeg).toNatClampNeg) (zi_kn I (I 11 x9.toNatClampNeg).toNatClampNeg) a3.toInt (20 : Int) i) → z_W G A (shM, ad, I, J, PM ad) H → va_S A s.heap H locs → lv_has ls 7 [(6, .int y18), (5, .int x9), (4, .int y19), (0, .ref (ad 0)), (1, .int a1), (2, .int a2), (3, .int a3)] → W p l e (headSpec wsX12_number { frames := 2, cells := 0, slots := 0, locals := 36 }).room s m ([.ref (ad 0), .int a1, .int a2, .int a3] : List Value).toArray below meth c0 H locs 0 0 (MQ below (va_Qi (fun (r : Int32) (u1 : z_U) => u1 = (shM, ad, I, J, PM ad) ∧ (zi_R (zi_km I) (zi_kt I) a1.toInt a2.toInt (I 0 13).toNatClampNeg (zi_us (a3.toInt - 3)) (zi_am I (a3.toInt - 3)) r.toInt)) (z_B G A) A) ([.ref (ad 0), .int a1, .int a2, .int a3] : List Value).toArray s 0 0 A) (F0 m 67 ls []) := by
              intro f
              induction f with
              | zero => intro y18 y19 H locs ls lp17m lp17l6 lp17z lp17B hW hS hl; exact absurd lp17m (by have := Int32.toInt_lt y18; have := Int32.le_toInt y18; omega)
              | succ f lp17ih =>
                intro y18 y19 H locs ls lp17m lp17l6 lp17z lp17B hW hS hl
                refine lv_iload hx hb dX12_number_67 (lv_at hl 0 rfl) ?_
                refine lv_aload_n hx hb dX12_number_69 rfl (lv_at hl 3 rfl) ?_
                refine z_get (T := TX12) (N := 96) (ci := 12) (i := 0) (v := .ref (ad 11)) hx hb hts zj_X12_number_X12 hown hK hW rfl rfl 16 (by decide) (hts (.fieldLink RX12 40 "PetrolBoardModel" "textFirst" "[I") (me_s (me_l (List.mem_of_getElem? (i := 0) rfl)))) (fun _ h => h) rfl dX12_number_70 ?_
                refine lv_iload hx hb dX12_number_73 (lv_at hl 1 rfl) ?_
                refine z_iald (i := 11) hx hb hK hW rfl (z_ix rfl (by omega) (by omega)) dX12_number_75 ?_
                refine z_topi (v := x14) ex14.symm ?_
                refine lv_aload_n hx hb dX12_number_76 rfl (lv_at hl 3 rfl) ?_
                refine z_get (T := TX12) (N := 96) (ci := 12) (i := 0) (v := .ref (ad 12)) hx hb hts zj_X12_number_X12 hown hK hW rfl rfl 17 (by decide) (hts (.fieldLink RX12 43 "PetrolBoardModel" "textMany" "[I") (me_s (me_l (List.mem_of_getElem? (i := 1) rfl)))) (fun _ h => h) rfl dX12_number_77 ?_
                refine lv_iload hx hb dX12_number_80 (lv_at hl 1 rfl) ?_
                refine z_iald (i := 12) hx hb hK hW rfl (z_ix rfl (by omega) (by omega)) dX12_number_82 ?_
                refine lv_topi (fun x20 ex20 => ?_)
                have h21 : 0 ≤ x20.toInt ∧ x20.toInt ≤ 24 := by rw [ex20]; exact hAtm _
                have h22 : (I 12 x9.toNatClampNeg).toInt = x20.toInt := by rw [ex20]
                refine lv_iadd hx hb dX12_number_83 ?_
                refine lv_topi (fun x23 ex23 => ?_)
                have tx23 : x23.toInt = x14.toInt + x20.toInt := z_tadd ex23 rfl rfl (by omega) (by omega)
                refine lv_icmp_ge (tgt := 113) hx hb dX12_number_84 (by decide) (fun c24 => ?_) (fun c24 => ?_)
                · have g25 := z_f_ge rfl rfl c24
                  have b26 := Int32.toInt_lt y18
                  refine lv_iload hx hb dX12_number_113 (lv_at hl 2 rfl) ?_
                  exact z_iret hx hb hr hK hS (Nat.le_of_ble_eq_true rfl) (Nat.le_of_ble_eq_true rfl) hlocks dX12_number_115 (shM, ad, I, J, PM ad) hW ⟨rfl, ⟨x9.toInt, hB_x9, Or.inr ⟨x9.toNatClampNeg, z_clt (x := x9) rfl (by omega), by have z9 := z_clt (x := x9) rfl (by omega); rcases hB_x9 with ⟨z1, _⟩ | ⟨q9, z1, z2, _⟩ <;> omega, by obtain ⟨i9, hi9, hn9, hB9⟩ := lp17B; have m9 := z_clt (x := (I 12 x9.toNatClampNeg)) rfl (by omega); unfold zi_am; rw [show 3 + (a3.toInt - 3) = a3.toInt by omega, (show zi_us (a3.toInt - 3) = (20 : Int) from zi_us_4 (by omega)), show (I 12 x9.toNatClampNeg).toNatClampNeg = i9 by omega]; exact hB9⟩⟩⟩
                · have g27 := z_f_nge rfl rfl c24
                  have b28 := Int32.toInt_lt y18
                  refine lv_aload_n hx hb dX12_number_87 rfl (lv_at hl 3 rfl) ?_
                  refine z_get (T := TX12) (N := 96) (ci := 12) (i := 0) (v := .ref (ad 15)) hx hb hts zj_X12_number_X12 hown hK hW rfl rfl 20 (by decide) (hts (.fieldLink RX12 52 "PetrolBoardModel" "stRule" "[I") (me_s (me_l (List.mem_of_getElem? (i := 2) rfl)))) (fun _ h => h) rfl dX12_number_88 ?_
                  refine lv_iload hx hb dX12_number_91 (lv_at hl 0 rfl) ?_
                  refine z_iald (i := 15) hx hb hK hW rfl (z_ix rfl (by omega) (by omega)) dX12_number_93 ?_
                  refine lv_topi (fun x29 ex29 => ?_)
                  refine lv_iload_n hx hb dX12_number_94 rfl (lv_at hl 6 rfl) ?_
                  refine lv_icmp_ne (tgt := 107) hx hb dX12_number_95 (by decide) (fun c30 => ?_) (fun c30 => ?_)
                  · have g31 := z_f_ne rfl rfl c30
                    have b32 := Int32.toInt_lt x29
                    obtain ⟨x33, ex33⟩ : ∃ y : Int32, y = y18 + 1 := ⟨_, rfl⟩
                    have tx33 : x33.toInt = y18.toInt + 1 := z_tadd ex33 rfl z_l1 (by omega) (by omega)
                    refine lv_iinc (v := x33) (lv' := [(6, .int x33), (5, .int x9), (4, .int y19), (0, .ref (ad 0)), (1, .int a1), (2, .int a2), (3, .int a3)]) hx hb dX12_number_107 hl (k := 0) rfl (by rw [ex33]; rfl) (by decide) rfl (fun ls hl => ?_)
                    refine lv_goto (tgt := 67) hx hb dX12_number_110 (by decide) ?_
                    exact lp17ih x33 y19 _ _ _ (by omega) (by omega) (by omega) (by obtain ⟨i9, hi9, hn9, hB9⟩ := lp17B; have c9 := z_clt (x := (I 11 x9.toNatClampNeg)) rfl (by omega); have d9 := z_clt (x := y18) rfl (by omega); have e9 : (I 11 x9.toNatClampNeg).toNatClampNeg + i9 = y18.toNatClampNeg := (by omega); have q9 : zi_kh I (I 11 x9.toNatClampNeg).toNatClampNeg i9 = x29.toInt := (by unfold zi_kh; rw [e9, ex29]); exact ⟨i9 + 1, by omega, by omega, by rw [zi_A_n (by omega)]; exact hB9⟩) hW hS (lv_sub hl [0, 1, 2, 3, 4, 5, 6] rfl)
                  · have g34 := z_f_eq rfl rfl c30
                    have b35 := Int32.toInt_lt x29
                    refine lv_aload_n hx hb dX12_number_98 rfl (lv_at hl 3 rfl) ?_
                    refine z_get (T := TX12) (N := 96) (ci := 12) (i := 0) (v := .ref (ad 16)) hx hb hts zj_X12_number_X12 hown hK hW rfl rfl 21 (by decide) (hts (.fieldLink RX12 55 "PetrolBoardModel" "stNumber" "[I") (me_s (me_l (List.mem_of_getElem? (i := 3) rfl)))) (fun _ h => h) rfl dX12_number_99 ?_
                    refine lv_iload hx hb dX12_number_102 (lv_at hl 0 rfl) ?_
                    refine z_iald (i := 16) hx hb hK hW rfl (z_ix rfl (by omega) (by omega)) dX12_number_104 ?_
                    refine lv_topi (fun x36 ex36 => ?_)
                    refine lv_istore (lv' := [(4, .int x36), (6, .int y18), (5, .int x9), (0, .ref (ad 0)), (1, .int a1), (2, .int a2), (3, .int a3)]) hx hb dX12_number_105 hl (by decide) rfl (fun ls hl => ?_)
                    obtain ⟨x37, ex37⟩ : ∃ y : Int32, y = y18 + 1 := ⟨_, rfl⟩
                    have tx37 : x37.toInt = y18.toInt + 1 := z_tadd ex37 rfl z_l1 (by omega) (by omega)
                    refine lv_iinc (v := x37) (lv' := [(6, .int x37), (4, .int x36), (5, .int x9), (0, .ref (ad 0)), (1, .int a1), (2, .int a2), (3, .int a3)]) hx hb dX12_number_107 hl (k := 1) rfl (by rw [ex37]; rfl) (by decide) rfl (fun ls hl => ?_)
                    refine lv_goto (tgt := 67) hx hb dX12_number_110 (by decide) ?_
                    exact lp17ih x37 x36 _ _ _ (by omega) (by omega) (by omega) (by obtain ⟨i9, hi9, hn9, hB9⟩ := lp17B; have c9 := z_clt (x := (I 11 x9.toNatClampNeg)) rfl (by omega); have d9 := z_clt (x := y18) rfl (by omega); have e9 : (I 11 x9.toNatClampNeg).toNatClampNeg + i9 = y18.toNatClampNeg := (by omega); have q9 : zi_kh I (I 11 x9.toNatClampNeg).toNatClampNeg i9 = x29.toInt := (by unfold zi_kh; rw [e9, ex29]); have p9 : zi_kn I (I 11 x9.toNatClampNeg).toNatClampNeg i9 = x36.toInt := (by unfold zi_kn; rw [e9, ex36]); exact ⟨i9 + 1, by omega, by omega, by rw [zi_A_y (by omega)]; exact p9.symm⟩) hW hS (lv_sub hl [0, 2, 1, 3, 4, 5, 6] rfl)
            exact lp17 4294967296 x14 (20) _ _ _ (z_m0u _) (by omega) (by omega) ⟨0, by omega, by have q9 := hAtm x9.toNatClampNeg; omega, by show _ = (20 : Int); first | omega | decide⟩ hW hS (lv_sub hl [0, 1, 2, 3, 4, 5, 6] rfl)
          · have g38 := z_f_nge rfl z_l0 c12
            refine lv_iload hx hb dX12_number_55 (lv_at hl 1 rfl) ?_
            exact z_iret hx hb hr hK hS (Nat.le_of_ble_eq_true rfl) (Nat.le_of_ble_eq_true rfl) hlocks dX12_number_57 (shM, ad, I, J, PM ad) hW ⟨rfl, ⟨x9.toInt, hB_x9, Or.inl ⟨by omega, by rw [(show zi_us (a3.toInt - 3) = (20 : Int) from zi_us_4 (by omega))]; first | omega | decide⟩⟩⟩
        · have g39 := z_f_eq rfl z_l6 c7
          refine lv_iconst (v := 0) hx hb dX12_number_34 (by decide) ?_
          refine lv_goto (tgt := 40) hx hb dX12_number_35 (by decide) ?_
          refine lv_istore (lv' := [(4, .int 0), (0, .ref (ad 0)), (1, .int a1), (2, .int a2), (3, .int a3)]) hx hb dX12_number_40 hl (by decide) rfl (fun ls hl => ?_)
          refine lv_aload_n hx hb dX12_number_42 rfl (lv_at hl 1 rfl) ?_
          refine lv_iload_n hx hb dX12_number_43 rfl (lv_at hl 2 rfl) ?_
          refine lv_iload_n hx hb dX12_number_44 rfl (lv_at hl 3 rfl) ?_
          refine z_ci hW hS hA (va_runV (As := [.int a1, .int a2]) (rest := []) ⟨hx, hb, hml, hown, hts⟩ (sx_X12_inForce_x l G ad I J ⟨(by show 0 ≤ (I 0 13).toInt ∧ (I 0 13).toInt ≤ 12; exact hmb.1), (by show 0 ≤ (I 0 14).toInt ∧ (I 0 14).toInt ≤ 288; exact hmb.2)⟩ a1 a2 _) (cwV 2 hts gX12_number_X12_inForce rfl rfl rfl (by decide +kernel) ⟨Nat.le_of_ble_eq_true rfl, Nat.le_of_ble_eq_true rfl⟩) (z_preV (i := 0) hK hW rfl rfl) rfl rfl hl.1 rfl (lv_room (Nat.le_of_ble_eq_true rfl)) dX12_number_45 ⟨Nat.le_of_ble_eq_true rfl, Nat.le_of_ble_eq_true rfl⟩) (fun r u1 H locs hp hW hS => ?_)
          obtain ⟨e9, hp⟩ := hp
          rw [e9] at hW
          refine lv_topi (fun x40 ex40 => ?_)
          rw [← ex40] at hp
          obtain ⟨hB_x40, h41⟩ := hp
          refine lv_istore (lv' := [(5, .int x40), (4, .int 0), (0, .ref (ad 0)), (1, .int a1), (2, .int a2), (3, .int a3)]) hx hb dX12_number_48 hl (by decide) rfl (fun ls hl => ?_)
          refine lv_iload hx hb dX12_number_50 (lv_at hl 0 rfl) ?_
          refine lv_if_ge (tgt := 58) hx hb dX12_number_52 (by decide) (fun c42 => ?_) (fun c42 => ?_)
          · have g43 := z_f_ge rfl z_l0 c42
            refine lv_aload_n hx hb dX12_number_58 rfl (lv_at hl 2 rfl) ?_
            refine z_get (T := TX12) (N := 96) (ci := 12) (i := 0) (v := .ref (ad 11)) hx hb hts zj_X12_number_X12 hown hK hW rfl rfl 16 (by decide) (hts (.fieldLink RX12 40 "PetrolBoardModel" "textFirst" "[I") (me_s (me_l (List.mem_of_getElem? (i := 0) rfl)))) (fun _ h => h) rfl dX12_number_59 ?_
            refine lv_iload hx hb dX12_number_62 (lv_at hl 0 rfl) ?_
            refine z_iald (i := 11) hx hb hK hW rfl (z_ix rfl (by omega) (by omega)) dX12_number_64 ?_
            refine lv_topi (fun x44 ex44 => ?_)
            have h45 : 0 ≤ x44.toInt ∧ x44.toInt ≤ 288 := by rw [ex44]; exact hAtf _
            have h46 : (I 11 x40.toNatClampNeg).toInt = x44.toInt := by rw [ex44]
            refine lv_istore (lv' := [(6, .int x44), (5, .int x40), (4, .int 0), (0, .ref (ad 0)), (1, .int a1), (2, .int a2), (3, .int a3)]) hx hb dX12_number_65 hl (by decide) rfl (fun ls hl => ?_)
            have lp47 : ∀ (f : Nat) (y48 : Int32) (y49 : Int32) (H : Heap) (locs : List Loc) (ls : Array Slot), (2147483647 < y48.toInt + (f : Int)) → (0 ≤ y48.toInt) → (x44.toInt ≤ y48.toInt) → (∃ i : Nat, y48.toInt = (I 11 x40.toNatClampNeg).toInt + (i : Int) ∧ (i : Int) ≤ (I 12 x40.toNatClampNeg).toInt ∧ y49.toInt = zi_A (zi_kh I (I 11 x40.toNatClampNeg).toNatClampNeg) (zi_kn I (I 11 x40.toNatClampNeg).toNatClampNeg) a3.toInt (0 : Int) i) → z_W G A (shM, ad, I, J, PM ad) H → va_S A s.heap H locs → lv_has ls 7 [(6, .int y48), (5, .int x40), (4, .int y49), (0, .ref (ad 0)), (1, .int a1), (2, .int a2), (3, .int a3)] → W p l e (headSpec wsX12_number { frames := 2, cells := 0, slots := 0, locals := 36 }).room s m ([.ref (ad 0), .int a1, .int a2, .int a3] : List Value).toArray below meth c0 H locs 0 0 (MQ below (va_Qi (fun (r : Int32) (u1 : z_U) => u1 = (shM, ad, I, J, PM ad) ∧ (zi_R (zi_km I) (zi_kt I) a1.toInt a2.toInt (I 0 13).toNatClampNeg (zi_us (a3.toInt - 3)) (zi_am I (a3.toInt - 3)) r.toInt)) (z_B G A) A) ([.ref (ad 0), .int a1, .int a2, .int a3] : List Value).toArray s 0 0 A) (F0 m 67 ls []) := by
              intro f
              induction f with
              | zero => intro y48 y49 H locs ls lp47m lp47l6 lp47z lp47B hW hS hl; exact absurd lp47m (by have := Int32.toInt_lt y48; have := Int32.le_toInt y48; omega)
              | succ f lp47ih =>
                intro y48 y49 H locs ls lp47m lp47l6 lp47z lp47B hW hS hl
                refine lv_iload hx hb dX12_number_67 (lv_at hl 0 rfl) ?_
                refine lv_aload_n hx hb dX12_number_69 rfl (lv_at hl 3 rfl) ?_
                refine z_get (T := TX12) (N := 96) (ci := 12) (i := 0) (v := .ref (ad 11)) hx hb hts zj_X12_number_X12 hown hK hW rfl rfl 16 (by decide) (hts (.fieldLink RX12 40 "PetrolBoardModel" "textFirst" "[I") (me_s (me_l (List.mem_of_getElem? (i := 0) rfl)))) (fun _ h => h) rfl dX12_number_70 ?_
                refine lv_iload hx hb dX12_number_73 (lv_at hl 1 rfl) ?_
                refine z_iald (i := 11) hx hb hK hW rfl (z_ix rfl (by omega) (by omega)) dX12_number_75 ?_
                refine z_topi (v := x44) ex44.symm ?_
                refine lv_aload_n hx hb dX12_number_76 rfl (lv_at hl 3 rfl) ?_
                refine z_get (T := TX12) (N := 96) (ci := 12) (i := 0) (v := .ref (ad 12)) hx hb hts zj_X12_number_X12 hown hK hW rfl rfl 17 (by decide) (hts (.fieldLink RX12 43 "PetrolBoardModel" "textMany" "[I") (me_s (me_l (List.mem_of_getElem? (i := 1) rfl)))) (fun _ h => h) rfl dX12_number_77 ?_
                refine lv_iload hx hb dX12_number_80 (lv_at hl 1 rfl) ?_
                refine z_iald (i := 12) hx hb hK hW rfl (z_ix rfl (by omega) (by omega)) dX12_number_82 ?_
                refine lv_topi (fun x50 ex50 => ?_)
                have h51 : 0 ≤ x50.toInt ∧ x50.toInt ≤ 24 := by rw [ex50]; exact hAtm _
                have h52 : (I 12 x40.toNatClampNeg).toInt = x50.toInt := by rw [ex50]
                refine lv_iadd hx hb dX12_number_83 ?_
                refine lv_topi (fun x53 ex53 => ?_)
                have tx53 : x53.toInt = x44.toInt + x50.toInt := z_tadd ex53 rfl rfl (by omega) (by omega)
                refine lv_icmp_ge (tgt := 113) hx hb dX12_number_84 (by decide) (fun c54 => ?_) (fun c54 => ?_)
                · have g55 := z_f_ge rfl rfl c54
                  have b56 := Int32.toInt_lt y48
                  refine lv_iload hx hb dX12_number_113 (lv_at hl 2 rfl) ?_
                  exact z_iret hx hb hr hK hS (Nat.le_of_ble_eq_true rfl) (Nat.le_of_ble_eq_true rfl) hlocks dX12_number_115 (shM, ad, I, J, PM ad) hW ⟨rfl, ⟨x40.toInt, hB_x40, Or.inr ⟨x40.toNatClampNeg, z_clt (x := x40) rfl (by omega), by have z9 := z_clt (x := x40) rfl (by omega); rcases hB_x40 with ⟨z1, _⟩ | ⟨q9, z1, z2, _⟩ <;> omega, by obtain ⟨i9, hi9, hn9, hB9⟩ := lp47B; have m9 := z_clt (x := (I 12 x40.toNatClampNeg)) rfl (by omega); unfold zi_am; rw [show 3 + (a3.toInt - 3) = a3.toInt by omega, (show zi_us (a3.toInt - 3) = (0 : Int) from zi_us_3 (by omega)), show (I 12 x40.toNatClampNeg).toNatClampNeg = i9 by omega]; exact hB9⟩⟩⟩
                · have g57 := z_f_nge rfl rfl c54
                  have b58 := Int32.toInt_lt y48
                  refine lv_aload_n hx hb dX12_number_87 rfl (lv_at hl 3 rfl) ?_
                  refine z_get (T := TX12) (N := 96) (ci := 12) (i := 0) (v := .ref (ad 15)) hx hb hts zj_X12_number_X12 hown hK hW rfl rfl 20 (by decide) (hts (.fieldLink RX12 52 "PetrolBoardModel" "stRule" "[I") (me_s (me_l (List.mem_of_getElem? (i := 2) rfl)))) (fun _ h => h) rfl dX12_number_88 ?_
                  refine lv_iload hx hb dX12_number_91 (lv_at hl 0 rfl) ?_
                  refine z_iald (i := 15) hx hb hK hW rfl (z_ix rfl (by omega) (by omega)) dX12_number_93 ?_
                  refine lv_topi (fun x59 ex59 => ?_)
                  refine lv_iload_n hx hb dX12_number_94 rfl (lv_at hl 6 rfl) ?_
                  refine lv_icmp_ne (tgt := 107) hx hb dX12_number_95 (by decide) (fun c60 => ?_) (fun c60 => ?_)
                  · have g61 := z_f_ne rfl rfl c60
                    have b62 := Int32.toInt_lt x59
                    obtain ⟨x63, ex63⟩ : ∃ y : Int32, y = y48 + 1 := ⟨_, rfl⟩
                    have tx63 : x63.toInt = y48.toInt + 1 := z_tadd ex63 rfl z_l1 (by omega) (by omega)
                    refine lv_iinc (v := x63) (lv' := [(6, .int x63), (5, .int x40), (4, .int y49), (0, .ref (ad 0)), (1, .int a1), (2, .int a2), (3, .int a3)]) hx hb dX12_number_107 hl (k := 0) rfl (by rw [ex63]; rfl) (by decide) rfl (fun ls hl => ?_)
                    refine lv_goto (tgt := 67) hx hb dX12_number_110 (by decide) ?_
                    exact lp47ih x63 y49 _ _ _ (by omega) (by omega) (by omega) (by obtain ⟨i9, hi9, hn9, hB9⟩ := lp47B; have c9 := z_clt (x := (I 11 x40.toNatClampNeg)) rfl (by omega); have d9 := z_clt (x := y48) rfl (by omega); have e9 : (I 11 x40.toNatClampNeg).toNatClampNeg + i9 = y48.toNatClampNeg := (by omega); have q9 : zi_kh I (I 11 x40.toNatClampNeg).toNatClampNeg i9 = x59.toInt := (by unfold zi_kh; rw [e9, ex59]); exact ⟨i9 + 1, by omega, by omega, by rw [zi_A_n (by omega)]; exact hB9⟩) hW hS (lv_sub hl [0, 1, 2, 3, 4, 5, 6] rfl)
                  · have g64 := z_f_eq rfl rfl c60
                    have b65 := Int32.toInt_lt x59
                    refine lv_aload_n hx hb dX12_number_98 rfl (lv_at hl 3 rfl) ?_
                    refine z_get (T := TX12) (N := 96) (ci := 12) (i := 0) (v := .ref (ad 16)) hx hb hts zj_X12_number_X12 hown hK hW rfl rfl 21 (by decide) (hts (.fieldLink RX12 55 "PetrolBoardModel" "stNumber" "[I") (me_s (me_l (List.mem_of_getElem? (i := 3) rfl)))) (fun _ h => h) rfl dX12_number_99 ?_
                    refine lv_iload hx hb dX12_number_102 (lv_at hl 0 rfl) ?_
                    refine z_iald (i := 16) hx hb hK hW rfl (z_ix rfl (by omega) (by omega)) dX12_number_104 ?_
                    refine lv_topi (fun x66 ex66 => ?_)
                    refine lv_istore (lv' := [(4, .int x66), (6, .int y48), (5, .int x40), (0, .ref (ad 0)), (1, .int a1), (2, .int a2), (3, .int a3)]) hx hb dX12_number_105 hl (by decide) rfl (fun ls hl => ?_)
                    obtain ⟨x67, ex67⟩ : ∃ y : Int32, y = y48 + 1 := ⟨_, rfl⟩
                    have tx67 : x67.toInt = y48.toInt + 1 := z_tadd ex67 rfl z_l1 (by omega) (by omega)
                    refine lv_iinc (v := x67) (lv' := [(6, .int x67), (4, .int x66), (5, .int x40), (0, .ref (ad 0)), (1, .int a1), (2, .int a2), (3, .int a3)]) hx hb dX12_number_107 hl (k := 1) rfl (by rw [ex67]; rfl) (by decide) rfl (fun ls hl => ?_)
                    refine lv_goto (tgt := 67) hx hb dX12_number_110 (by decide) ?_
                    exact lp47ih x67 x66 _ _ _ (by omega) (by omega) (by omega) (by obtain ⟨i9, hi9, hn9, hB9⟩ := lp47B; have c9 := z_clt (x := (I 11 x40.toNatClampNeg)) rfl (by omega); have d9 := z_clt (x := y48) rfl (by omega); have e9 : (I 11 x40.toNatClampNeg).toNatClampNeg + i9 = y48.toNatClampNeg := (by omega); have q9 : zi_kh I (I 11 x40.toNatClampNeg).toNatClampNeg i9 = x59.toInt := (by unfold zi_kh; rw [e9, ex59]); have p9 : zi_kn I (I 11 x40.toNatClampNeg).toNatClampNeg i9 = x66.toInt := (by unfold zi_kn; rw [e9, ex66]); exact ⟨i9 + 1, by omega, by omega, by rw [zi_A_y (by omega)]; exact p9.symm⟩) hW hS (lv_sub hl [0, 2, 1, 3, 4, 5, 6] rfl)
            exact lp47 4294967296 x44 (0) _ _ _ (z_m0u _) (by omega) (by omega) ⟨0, by omega, by have q9 := hAtm x40.toNatClampNeg; omega, by show _ = (0 : Int); first | omega | decide⟩ hW hS (lv_sub hl [0, 1, 2, 3, 4, 5, 6] rfl)
          · have g68 := z_f_nge rfl z_l0 c42
            refine lv_iload hx hb dX12_number_55 (lv_at hl 1 rfl) ?_
            exact z_iret hx hb hr hK hS (Nat.le_of_ble_eq_true rfl) (Nat.le_of_ble_eq_true rfl) hlocks dX12_number_57 (shM, ad, I, J, PM ad) hW ⟨rfl, ⟨x40.toInt, hB_x40, Or.inl ⟨by omega, by rw [(show zi_us (a3.toInt - 3) = (0 : Int) from zi_us_3 (by omega))]; first | omega | decide⟩⟩⟩
      · have g69 := z_f_eq rfl z_l5 c5
        refine lv_iconst (v := 5) hx hb dX12_number_24 (by decide) ?_
        refine lv_goto (tgt := 40) hx hb dX12_number_25 (by decide) ?_
        refine lv_istore (lv' := [(4, .int 5), (0, .ref (ad 0)), (1, .int a1), (2, .int a2), (3, .int a3)]) hx hb dX12_number_40 hl (by decide) rfl (fun ls hl => ?_)
        refine lv_aload_n hx hb dX12_number_42 rfl (lv_at hl 1 rfl) ?_
        refine lv_iload_n hx hb dX12_number_43 rfl (lv_at hl 2 rfl) ?_
        refine lv_iload_n hx hb dX12_number_44 rfl (lv_at hl 3 rfl) ?_
        refine z_ci hW hS hA (va_runV (As := [.int a1, .int a2]) (rest := []) ⟨hx, hb, hml, hown, hts⟩ (sx_X12_inForce_x l G ad I J ⟨(by show 0 ≤ (I 0 13).toInt ∧ (I 0 13).toInt ≤ 12; exact hmb.1), (by show 0 ≤ (I 0 14).toInt ∧ (I 0 14).toInt ≤ 288; exact hmb.2)⟩ a1 a2 _) (cwV 2 hts gX12_number_X12_inForce rfl rfl rfl (by decide +kernel) ⟨Nat.le_of_ble_eq_true rfl, Nat.le_of_ble_eq_true rfl⟩) (z_preV (i := 0) hK hW rfl rfl) rfl rfl hl.1 rfl (lv_room (Nat.le_of_ble_eq_true rfl)) dX12_number_45 ⟨Nat.le_of_ble_eq_true rfl, Nat.le_of_ble_eq_true rfl⟩) (fun r u1 H locs hp hW hS => ?_)
        obtain ⟨e9, hp⟩ := hp
        rw [e9] at hW
        refine lv_topi (fun x70 ex70 => ?_)
        rw [← ex70] at hp
        obtain ⟨hB_x70, h71⟩ := hp
        refine lv_istore (lv' := [(5, .int x70), (4, .int 5), (0, .ref (ad 0)), (1, .int a1), (2, .int a2), (3, .int a3)]) hx hb dX12_number_48 hl (by decide) rfl (fun ls hl => ?_)
        refine lv_iload hx hb dX12_number_50 (lv_at hl 0 rfl) ?_
        refine lv_if_ge (tgt := 58) hx hb dX12_number_52 (by decide) (fun c72 => ?_) (fun c72 => ?_)
        · have g73 := z_f_ge rfl z_l0 c72
          refine lv_aload_n hx hb dX12_number_58 rfl (lv_at hl 2 rfl) ?_
          refine z_get (T := TX12) (N := 96) (ci := 12) (i := 0) (v := .ref (ad 11)) hx hb hts zj_X12_number_X12 hown hK hW rfl rfl 16 (by decide) (hts (.fieldLink RX12 40 "PetrolBoardModel" "textFirst" "[I") (me_s (me_l (List.mem_of_getElem? (i := 0) rfl)))) (fun _ h => h) rfl dX12_number_59 ?_
          refine lv_iload hx hb dX12_number_62 (lv_at hl 0 rfl) ?_
          refine z_iald (i := 11) hx hb hK hW rfl (z_ix rfl (by omega) (by omega)) dX12_number_64 ?_
          refine lv_topi (fun x74 ex74 => ?_)
          have h75 : 0 ≤ x74.toInt ∧ x74.toInt ≤ 288 := by rw [ex74]; exact hAtf _
          have h76 : (I 11 x70.toNatClampNeg).toInt = x74.toInt := by rw [ex74]
          refine lv_istore (lv' := [(6, .int x74), (5, .int x70), (4, .int 5), (0, .ref (ad 0)), (1, .int a1), (2, .int a2), (3, .int a3)]) hx hb dX12_number_65 hl (by decide) rfl (fun ls hl => ?_)
          have lp77 : ∀ (f : Nat) (y78 : Int32) (y79 : Int32) (H : Heap) (locs : List Loc) (ls : Array Slot), (2147483647 < y78.toInt + (f : Int)) → (0 ≤ y78.toInt) → (x74.toInt ≤ y78.toInt) → (∃ i : Nat, y78.toInt = (I 11 x70.toNatClampNeg).toInt + (i : Int) ∧ (i : Int) ≤ (I 12 x70.toNatClampNeg).toInt ∧ y79.toInt = zi_A (zi_kh I (I 11 x70.toNatClampNeg).toNatClampNeg) (zi_kn I (I 11 x70.toNatClampNeg).toNatClampNeg) a3.toInt (5 : Int) i) → z_W G A (shM, ad, I, J, PM ad) H → va_S A s.heap H locs → lv_has ls 7 [(6, .int y78), (5, .int x70), (4, .int y79), (0, .ref (ad 0)), (1, .int a1), (2, .int a2), (3, .int a3)] → W p l e (headSpec wsX12_number { frames := 2, cells := 0, slots := 0, locals := 36 }).room s m ([.ref (ad 0), .int a1, .int a2, .int a3] : List Value).toArray below meth c0 H locs 0 0 (MQ below (va_Qi (fun (r : Int32) (u1 : z_U) => u1 = (shM, ad, I, J, PM ad) ∧ (zi_R (zi_km I) (zi_kt I) a1.toInt a2.toInt (I 0 13).toNatClampNeg (zi_us (a3.toInt - 3)) (zi_am I (a3.toInt - 3)) r.toInt)) (z_B G A) A) ([.ref (ad 0), .int a1, .int a2, .int a3] : List Value).toArray s 0 0 A) (F0 m 67 ls []) := by
            intro f
            induction f with
            | zero => intro y78 y79 H locs ls lp77m lp77l6 lp77z lp77B hW hS hl; exact absurd lp77m (by have := Int32.toInt_lt y78; have := Int32.le_toInt y78; omega)
            | succ f lp77ih =>
              intro y78 y79 H locs ls lp77m lp77l6 lp77z lp77B hW hS hl
              refine lv_iload hx hb dX12_number_67 (lv_at hl 0 rfl) ?_
              refine lv_aload_n hx hb dX12_number_69 rfl (lv_at hl 3 rfl) ?_
              refine z_get (T := TX12) (N := 96) (ci := 12) (i := 0) (v := .ref (ad 11)) hx hb hts zj_X12_number_X12 hown hK hW rfl rfl 16 (by decide) (hts (.fieldLink RX12 40 "PetrolBoardModel" "textFirst" "[I") (me_s (me_l (List.mem_of_getElem? (i := 0) rfl)))) (fun _ h => h) rfl dX12_number_70 ?_
              refine lv_iload hx hb dX12_number_73 (lv_at hl 1 rfl) ?_
              refine z_iald (i := 11) hx hb hK hW rfl (z_ix rfl (by omega) (by omega)) dX12_number_75 ?_
              refine z_topi (v := x74) ex74.symm ?_
              refine lv_aload_n hx hb dX12_number_76 rfl (lv_at hl 3 rfl) ?_
              refine z_get (T := TX12) (N := 96) (ci := 12) (i := 0) (v := .ref (ad 12)) hx hb hts zj_X12_number_X12 hown hK hW rfl rfl 17 (by decide) (hts (.fieldLink RX12 43 "PetrolBoardModel" "textMany" "[I") (me_s (me_l (List.mem_of_getElem? (i := 1) rfl)))) (fun _ h => h) rfl dX12_number_77 ?_
              refine lv_iload hx hb dX12_number_80 (lv_at hl 1 rfl) ?_
              refine z_iald (i := 12) hx hb hK hW rfl (z_ix rfl (by omega) (by omega)) dX12_number_82 ?_
              refine lv_topi (fun x80 ex80 => ?_)
              have h81 : 0 ≤ x80.toInt ∧ x80.toInt ≤ 24 := by rw [ex80]; exact hAtm _
              have h82 : (I 12 x70.toNatClampNeg).toInt = x80.toInt := by rw [ex80]
              refine lv_iadd hx hb dX12_number_83 ?_
              refine lv_topi (fun x83 ex83 => ?_)
              have tx83 : x83.toInt = x74.toInt + x80.toInt := z_tadd ex83 rfl rfl (by omega) (by omega)
              refine lv_icmp_ge (tgt := 113) hx hb dX12_number_84 (by decide) (fun c84 => ?_) (fun c84 => ?_)
              · have g85 := z_f_ge rfl rfl c84
                have b86 := Int32.toInt_lt y78
                refine lv_iload hx hb dX12_number_113 (lv_at hl 2 rfl) ?_
                exact z_iret hx hb hr hK hS (Nat.le_of_ble_eq_true rfl) (Nat.le_of_ble_eq_true rfl) hlocks dX12_number_115 (shM, ad, I, J, PM ad) hW ⟨rfl, ⟨x70.toInt, hB_x70, Or.inr ⟨x70.toNatClampNeg, z_clt (x := x70) rfl (by omega), by have z9 := z_clt (x := x70) rfl (by omega); rcases hB_x70 with ⟨z1, _⟩ | ⟨q9, z1, z2, _⟩ <;> omega, by obtain ⟨i9, hi9, hn9, hB9⟩ := lp77B; have m9 := z_clt (x := (I 12 x70.toNatClampNeg)) rfl (by omega); unfold zi_am; rw [show 3 + (a3.toInt - 3) = a3.toInt by omega, (show zi_us (a3.toInt - 3) = (5 : Int) from zi_us_2 (by omega)), show (I 12 x70.toNatClampNeg).toNatClampNeg = i9 by omega]; exact hB9⟩⟩⟩
              · have g87 := z_f_nge rfl rfl c84
                have b88 := Int32.toInt_lt y78
                refine lv_aload_n hx hb dX12_number_87 rfl (lv_at hl 3 rfl) ?_
                refine z_get (T := TX12) (N := 96) (ci := 12) (i := 0) (v := .ref (ad 15)) hx hb hts zj_X12_number_X12 hown hK hW rfl rfl 20 (by decide) (hts (.fieldLink RX12 52 "PetrolBoardModel" "stRule" "[I") (me_s (me_l (List.mem_of_getElem? (i := 2) rfl)))) (fun _ h => h) rfl dX12_number_88 ?_
                refine lv_iload hx hb dX12_number_91 (lv_at hl 0 rfl) ?_
                refine z_iald (i := 15) hx hb hK hW rfl (z_ix rfl (by omega) (by omega)) dX12_number_93 ?_
                refine lv_topi (fun x89 ex89 => ?_)
                refine lv_iload_n hx hb dX12_number_94 rfl (lv_at hl 6 rfl) ?_
                refine lv_icmp_ne (tgt := 107) hx hb dX12_number_95 (by decide) (fun c90 => ?_) (fun c90 => ?_)
                · have g91 := z_f_ne rfl rfl c90
                  have b92 := Int32.toInt_lt x89
                  obtain ⟨x93, ex93⟩ : ∃ y : Int32, y = y78 + 1 := ⟨_, rfl⟩
                  have tx93 : x93.toInt = y78.toInt + 1 := z_tadd ex93 rfl z_l1 (by omega) (by omega)
                  refine lv_iinc (v := x93) (lv' := [(6, .int x93), (5, .int x70), (4, .int y79), (0, .ref (ad 0)), (1, .int a1), (2, .int a2), (3, .int a3)]) hx hb dX12_number_107 hl (k := 0) rfl (by rw [ex93]; rfl) (by decide) rfl (fun ls hl => ?_)
                  refine lv_goto (tgt := 67) hx hb dX12_number_110 (by decide) ?_
                  exact lp77ih x93 y79 _ _ _ (by omega) (by omega) (by omega) (by obtain ⟨i9, hi9, hn9, hB9⟩ := lp77B; have c9 := z_clt (x := (I 11 x70.toNatClampNeg)) rfl (by omega); have d9 := z_clt (x := y78) rfl (by omega); have e9 : (I 11 x70.toNatClampNeg).toNatClampNeg + i9 = y78.toNatClampNeg := (by omega); have q9 : zi_kh I (I 11 x70.toNatClampNeg).toNatClampNeg i9 = x89.toInt := (by unfold zi_kh; rw [e9, ex89]); exact ⟨i9 + 1, by omega, by omega, by rw [zi_A_n (by omega)]; exact hB9⟩) hW hS (lv_sub hl [0, 1, 2, 3, 4, 5, 6] rfl)
                · have g94 := z_f_eq rfl rfl c90
                  have b95 := Int32.toInt_lt x89
                  refine lv_aload_n hx hb dX12_number_98 rfl (lv_at hl 3 rfl) ?_
                  refine z_get (T := TX12) (N := 96) (ci := 12) (i := 0) (v := .ref (ad 16)) hx hb hts zj_X12_number_X12 hown hK hW rfl rfl 21 (by decide) (hts (.fieldLink RX12 55 "PetrolBoardModel" "stNumber" "[I") (me_s (me_l (List.mem_of_getElem? (i := 3) rfl)))) (fun _ h => h) rfl dX12_number_99 ?_
                  refine lv_iload hx hb dX12_number_102 (lv_at hl 0 rfl) ?_
                  refine z_iald (i := 16) hx hb hK hW rfl (z_ix rfl (by omega) (by omega)) dX12_number_104 ?_
                  refine lv_topi (fun x96 ex96 => ?_)
                  refine lv_istore (lv' := [(4, .int x96), (6, .int y78), (5, .int x70), (0, .ref (ad 0)), (1, .int a1), (2, .int a2), (3, .int a3)]) hx hb dX12_number_105 hl (by decide) rfl (fun ls hl => ?_)
                  obtain ⟨x97, ex97⟩ : ∃ y : Int32, y = y78 + 1 := ⟨_, rfl⟩
                  have tx97 : x97.toInt = y78.toInt + 1 := z_tadd ex97 rfl z_l1 (by omega) (by omega)
                  refine lv_iinc (v := x97) (lv' := [(6, .int x97), (4, .int x96), (5, .int x70), (0, .ref (ad 0)), (1, .int a1), (2, .int a2), (3, .int a3)]) hx hb dX12_number_107 hl (k := 1) rfl (by rw [ex97]; rfl) (by decide) rfl (fun ls hl => ?_)
                  refine lv_goto (tgt := 67) hx hb dX12_number_110 (by decide) ?_
                  exact lp77ih x97 x96 _ _ _ (by omega) (by omega) (by omega) (by obtain ⟨i9, hi9, hn9, hB9⟩ := lp77B; have c9 := z_clt (x := (I 11 x70.toNatClampNeg)) rfl (by omega); have d9 := z_clt (x := y78) rfl (by omega); have e9 : (I 11 x70.toNatClampNeg).toNatClampNeg + i9 = y78.toNatClampNeg := (by omega); have q9 : zi_kh I (I 11 x70.toNatClampNeg).toNatClampNeg i9 = x89.toInt := (by unfold zi_kh; rw [e9, ex89]); have p9 : zi_kn I (I 11 x70.toNatClampNeg).toNatClampNeg i9 = x96.toInt := (by unfold zi_kn; rw [e9, ex96]); exact ⟨i9 + 1, by omega, by omega, by rw [zi_A_y (by omega)]; exact p9.symm⟩) hW hS (lv_sub hl [0, 2, 1, 3, 4, 5, 6] rfl)
          exact lp77 4294967296 x74 (5) _ _ _ (z_m0u _) (by omega) (by omega) ⟨0, by omega, by have q9 := hAtm x70.toNatClampNeg; omega, by show _ = (5 : Int); first | omega | decide⟩ hW hS (lv_sub hl [0, 1, 2, 3, 4, 5, 6] rfl)
        · have g98 := z_f_nge rfl z_l0 c72
          refine lv_iload hx hb dX12_number_55 (lv_at hl 1 rfl) ?_
          exact z_iret hx hb hr hK hS (Nat.le_of_ble_eq_true rfl) (Nat.le_of_ble_eq_true rfl) hlocks dX12_number_57 (shM, ad, I, J, PM ad) hW ⟨rfl, ⟨x70.toInt, hB_x70, Or.inl ⟨by omega, by rw [(show zi_us (a3.toInt - 3) = (5 : Int) from zi_us_2 (by omega))]; first | omega | decide⟩⟩⟩
    · have g99 := z_f_eq rfl z_l4 c3
      refine lv_iconst (v := 1) hx hb dX12_number_15 (by decide) ?_
      refine lv_goto (tgt := 40) hx hb dX12_number_16 (by decide) ?_
      refine lv_istore (lv' := [(4, .int 1), (0, .ref (ad 0)), (1, .int a1), (2, .int a2), (3, .int a3)]) hx hb dX12_number_40 hl (by decide) rfl (fun ls hl => ?_)
      refine lv_aload_n hx hb dX12_number_42 rfl (lv_at hl 1 rfl) ?_
      refine lv_iload_n hx hb dX12_number_43 rfl (lv_at hl 2 rfl) ?_
      refine lv_iload_n hx hb dX12_number_44 rfl (lv_at hl 3 rfl) ?_
      refine z_ci hW hS hA (va_runV (As := [.int a1, .int a2]) (rest := []) ⟨hx, hb, hml, hown, hts⟩ (sx_X12_inForce_x l G ad I J ⟨(by show 0 ≤ (I 0 13).toInt ∧ (I 0 13).toInt ≤ 12; exact hmb.1), (by show 0 ≤ (I 0 14).toInt ∧ (I 0 14).toInt ≤ 288; exact hmb.2)⟩ a1 a2 _) (cwV 2 hts gX12_number_X12_inForce rfl rfl rfl (by decide +kernel) ⟨Nat.le_of_ble_eq_true rfl, Nat.le_of_ble_eq_true rfl⟩) (z_preV (i := 0) hK hW rfl rfl) rfl rfl hl.1 rfl (lv_room (Nat.le_of_ble_eq_true rfl)) dX12_number_45 ⟨Nat.le_of_ble_eq_true rfl, Nat.le_of_ble_eq_true rfl⟩) (fun r u1 H locs hp hW hS => ?_)
      obtain ⟨e9, hp⟩ := hp
      rw [e9] at hW
      refine lv_topi (fun x100 ex100 => ?_)
      rw [← ex100] at hp
      obtain ⟨hB_x100, h101⟩ := hp
      refine lv_istore (lv' := [(5, .int x100), (4, .int 1), (0, .ref (ad 0)), (1, .int a1), (2, .int a2), (3, .int a3)]) hx hb dX12_number_48 hl (by decide) rfl (fun ls hl => ?_)
      refine lv_iload hx hb dX12_number_50 (lv_at hl 0 rfl) ?_
      refine lv_if_ge (tgt := 58) hx hb dX12_number_52 (by decide) (fun c102 => ?_) (fun c102 => ?_)
      · have g103 := z_f_ge rfl z_l0 c102
        refine lv_aload_n hx hb dX12_number_58 rfl (lv_at hl 2 rfl) ?_
        refine z_get (T := TX12) (N := 96) (ci := 12) (i := 0) (v := .ref (ad 11)) hx hb hts zj_X12_number_X12 hown hK hW rfl rfl 16 (by decide) (hts (.fieldLink RX12 40 "PetrolBoardModel" "textFirst" "[I") (me_s (me_l (List.mem_of_getElem? (i := 0) rfl)))) (fun _ h => h) rfl dX12_number_59 ?_
        refine lv_iload hx hb dX12_number_62 (lv_at hl 0 rfl) ?_
        refine z_iald (i := 11) hx hb hK hW rfl (z_ix rfl (by omega) (by omega)) dX12_number_64 ?_
        refine lv_topi (fun x104 ex104 => ?_)
        have h105 : 0 ≤ x104.toInt ∧ x104.toInt ≤ 288 := by rw [ex104]; exact hAtf _
        have h106 : (I 11 x100.toNatClampNeg).toInt = x104.toInt := by rw [ex104]
        refine lv_istore (lv' := [(6, .int x104), (5, .int x100), (4, .int 1), (0, .ref (ad 0)), (1, .int a1), (2, .int a2), (3, .int a3)]) hx hb dX12_number_65 hl (by decide) rfl (fun ls hl => ?_)
        have lp107 : ∀ (f : Nat) (y108 : Int32) (y109 : Int32) (H : Heap) (locs : List Loc) (ls : Array Slot), (2147483647 < y108.toInt + (f : Int)) → (0 ≤ y108.toInt) → (x104.toInt ≤ y108.toInt) → (∃ i : Nat, y108.toInt = (I 11 x100.toNatClampNeg).toInt + (i : Int) ∧ (i : Int) ≤ (I 12 x100.toNatClampNeg).toInt ∧ y109.toInt = zi_A (zi_kh I (I 11 x100.toNatClampNeg).toNatClampNeg) (zi_kn I (I 11 x100.toNatClampNeg).toNatClampNeg) a3.toInt (1 : Int) i) → z_W G A (shM, ad, I, J, PM ad) H → va_S A s.heap H locs → lv_has ls 7 [(6, .int y108), (5, .int x100), (4, .int y109), (0, .ref (ad 0)), (1, .int a1), (2, .int a2), (3, .int a3)] → W p l e (headSpec wsX12_number { frames := 2, cells := 0, slots := 0, locals := 36 }).room s m ([.ref (ad 0), .int a1, .int a2, .int a3] : List Value).toArray below meth c0 H locs 0 0 (MQ below (va_Qi (fun (r : Int32) (u1 : z_U) => u1 = (shM, ad, I, J, PM ad) ∧ (zi_R (zi_km I) (zi_kt I) a1.toInt a2.toInt (I 0 13).toNatClampNeg (zi_us (a3.toInt - 3)) (zi_am I (a3.toInt - 3)) r.toInt)) (z_B G A) A) ([.ref (ad 0), .int a1, .int a2, .int a3] : List Value).toArray s 0 0 A) (F0 m 67 ls []) := by
          intro f
          induction f with
          | zero => intro y108 y109 H locs ls lp107m lp107l6 lp107z lp107B hW hS hl; exact absurd lp107m (by have := Int32.toInt_lt y108; have := Int32.le_toInt y108; omega)
          | succ f lp107ih =>
            intro y108 y109 H locs ls lp107m lp107l6 lp107z lp107B hW hS hl
            refine lv_iload hx hb dX12_number_67 (lv_at hl 0 rfl) ?_
            refine lv_aload_n hx hb dX12_number_69 rfl (lv_at hl 3 rfl) ?_
            refine z_get (T := TX12) (N := 96) (ci := 12) (i := 0) (v := .ref (ad 11)) hx hb hts zj_X12_number_X12 hown hK hW rfl rfl 16 (by decide) (hts (.fieldLink RX12 40 "PetrolBoardModel" "textFirst" "[I") (me_s (me_l (List.mem_of_getElem? (i := 0) rfl)))) (fun _ h => h) rfl dX12_number_70 ?_
            refine lv_iload hx hb dX12_number_73 (lv_at hl 1 rfl) ?_
            refine z_iald (i := 11) hx hb hK hW rfl (z_ix rfl (by omega) (by omega)) dX12_number_75 ?_
            refine z_topi (v := x104) ex104.symm ?_
            refine lv_aload_n hx hb dX12_number_76 rfl (lv_at hl 3 rfl) ?_
            refine z_get (T := TX12) (N := 96) (ci := 12) (i := 0) (v := .ref (ad 12)) hx hb hts zj_X12_number_X12 hown hK hW rfl rfl 17 (by decide) (hts (.fieldLink RX12 43 "PetrolBoardModel" "textMany" "[I") (me_s (me_l (List.mem_of_getElem? (i := 1) rfl)))) (fun _ h => h) rfl dX12_number_77 ?_
            refine lv_iload hx hb dX12_number_80 (lv_at hl 1 rfl) ?_
            refine z_iald (i := 12) hx hb hK hW rfl (z_ix rfl (by omega) (by omega)) dX12_number_82 ?_
            refine lv_topi (fun x110 ex110 => ?_)
            have h111 : 0 ≤ x110.toInt ∧ x110.toInt ≤ 24 := by rw [ex110]; exact hAtm _
            have h112 : (I 12 x100.toNatClampNeg).toInt = x110.toInt := by rw [ex110]
            refine lv_iadd hx hb dX12_number_83 ?_
            refine lv_topi (fun x113 ex113 => ?_)
            have tx113 : x113.toInt = x104.toInt + x110.toInt := z_tadd ex113 rfl rfl (by omega) (by omega)
            refine lv_icmp_ge (tgt := 113) hx hb dX12_number_84 (by decide) (fun c114 => ?_) (fun c114 => ?_)
            · have g115 := z_f_ge rfl rfl c114
              have b116 := Int32.toInt_lt y108
              refine lv_iload hx hb dX12_number_113 (lv_at hl 2 rfl) ?_
              exact z_iret hx hb hr hK hS (Nat.le_of_ble_eq_true rfl) (Nat.le_of_ble_eq_true rfl) hlocks dX12_number_115 (shM, ad, I, J, PM ad) hW ⟨rfl, ⟨x100.toInt, hB_x100, Or.inr ⟨x100.toNatClampNeg, z_clt (x := x100) rfl (by omega), by have z9 := z_clt (x := x100) rfl (by omega); rcases hB_x100 with ⟨z1, _⟩ | ⟨q9, z1, z2, _⟩ <;> omega, by obtain ⟨i9, hi9, hn9, hB9⟩ := lp107B; have m9 := z_clt (x := (I 12 x100.toNatClampNeg)) rfl (by omega); unfold zi_am; rw [show 3 + (a3.toInt - 3) = a3.toInt by omega, (show zi_us (a3.toInt - 3) = (1 : Int) from zi_us_1 (by omega)), show (I 12 x100.toNatClampNeg).toNatClampNeg = i9 by omega]; exact hB9⟩⟩⟩
            · have g117 := z_f_nge rfl rfl c114
              have b118 := Int32.toInt_lt y108
              refine lv_aload_n hx hb dX12_number_87 rfl (lv_at hl 3 rfl) ?_
              refine z_get (T := TX12) (N := 96) (ci := 12) (i := 0) (v := .ref (ad 15)) hx hb hts zj_X12_number_X12 hown hK hW rfl rfl 20 (by decide) (hts (.fieldLink RX12 52 "PetrolBoardModel" "stRule" "[I") (me_s (me_l (List.mem_of_getElem? (i := 2) rfl)))) (fun _ h => h) rfl dX12_number_88 ?_
              refine lv_iload hx hb dX12_number_91 (lv_at hl 0 rfl) ?_
              refine z_iald (i := 15) hx hb hK hW rfl (z_ix rfl (by omega) (by omega)) dX12_number_93 ?_
              refine lv_topi (fun x119 ex119 => ?_)
              refine lv_iload_n hx hb dX12_number_94 rfl (lv_at hl 6 rfl) ?_
              refine lv_icmp_ne (tgt := 107) hx hb dX12_number_95 (by decide) (fun c120 => ?_) (fun c120 => ?_)
              · have g121 := z_f_ne rfl rfl c120
                have b122 := Int32.toInt_lt x119
                obtain ⟨x123, ex123⟩ : ∃ y : Int32, y = y108 + 1 := ⟨_, rfl⟩
                have tx123 : x123.toInt = y108.toInt + 1 := z_tadd ex123 rfl z_l1 (by omega) (by omega)
                refine lv_iinc (v := x123) (lv' := [(6, .int x123), (5, .int x100), (4, .int y109), (0, .ref (ad 0)), (1, .int a1), (2, .int a2), (3, .int a3)]) hx hb dX12_number_107 hl (k := 0) rfl (by rw [ex123]; rfl) (by decide) rfl (fun ls hl => ?_)
                refine lv_goto (tgt := 67) hx hb dX12_number_110 (by decide) ?_
                exact lp107ih x123 y109 _ _ _ (by omega) (by omega) (by omega) (by obtain ⟨i9, hi9, hn9, hB9⟩ := lp107B; have c9 := z_clt (x := (I 11 x100.toNatClampNeg)) rfl (by omega); have d9 := z_clt (x := y108) rfl (by omega); have e9 : (I 11 x100.toNatClampNeg).toNatClampNeg + i9 = y108.toNatClampNeg := (by omega); have q9 : zi_kh I (I 11 x100.toNatClampNeg).toNatClampNeg i9 = x119.toInt := (by unfold zi_kh; rw [e9, ex119]); exact ⟨i9 + 1, by omega, by omega, by rw [zi_A_n (by omega)]; exact hB9⟩) hW hS (lv_sub hl [0, 1, 2, 3, 4, 5, 6] rfl)
              · have g124 := z_f_eq rfl rfl c120
                have b125 := Int32.toInt_lt x119
                refine lv_aload_n hx hb dX12_number_98 rfl (lv_at hl 3 rfl) ?_
                refine z_get (T := TX12) (N := 96) (ci := 12) (i := 0) (v := .ref (ad 16)) hx hb hts zj_X12_number_X12 hown hK hW rfl rfl 21 (by decide) (hts (.fieldLink RX12 55 "PetrolBoardModel" "stNumber" "[I") (me_s (me_l (List.mem_of_getElem? (i := 3) rfl)))) (fun _ h => h) rfl dX12_number_99 ?_
                refine lv_iload hx hb dX12_number_102 (lv_at hl 0 rfl) ?_
                refine z_iald (i := 16) hx hb hK hW rfl (z_ix rfl (by omega) (by omega)) dX12_number_104 ?_
                refine lv_topi (fun x126 ex126 => ?_)
                refine lv_istore (lv' := [(4, .int x126), (6, .int y108), (5, .int x100), (0, .ref (ad 0)), (1, .int a1), (2, .int a2), (3, .int a3)]) hx hb dX12_number_105 hl (by decide) rfl (fun ls hl => ?_)
                obtain ⟨x127, ex127⟩ : ∃ y : Int32, y = y108 + 1 := ⟨_, rfl⟩
                have tx127 : x127.toInt = y108.toInt + 1 := z_tadd ex127 rfl z_l1 (by omega) (by omega)
                refine lv_iinc (v := x127) (lv' := [(6, .int x127), (4, .int x126), (5, .int x100), (0, .ref (ad 0)), (1, .int a1), (2, .int a2), (3, .int a3)]) hx hb dX12_number_107 hl (k := 1) rfl (by rw [ex127]; rfl) (by decide) rfl (fun ls hl => ?_)
                refine lv_goto (tgt := 67) hx hb dX12_number_110 (by decide) ?_
                exact lp107ih x127 x126 _ _ _ (by omega) (by omega) (by omega) (by obtain ⟨i9, hi9, hn9, hB9⟩ := lp107B; have c9 := z_clt (x := (I 11 x100.toNatClampNeg)) rfl (by omega); have d9 := z_clt (x := y108) rfl (by omega); have e9 : (I 11 x100.toNatClampNeg).toNatClampNeg + i9 = y108.toNatClampNeg := (by omega); have q9 : zi_kh I (I 11 x100.toNatClampNeg).toNatClampNeg i9 = x119.toInt := (by unfold zi_kh; rw [e9, ex119]); have p9 : zi_kn I (I 11 x100.toNatClampNeg).toNatClampNeg i9 = x126.toInt := (by unfold zi_kn; rw [e9, ex126]); exact ⟨i9 + 1, by omega, by omega, by rw [zi_A_y (by omega)]; exact p9.symm⟩) hW hS (lv_sub hl [0, 2, 1, 3, 4, 5, 6] rfl)
        exact lp107 4294967296 x104 (1) _ _ _ (z_m0u _) (by omega) (by omega) ⟨0, by omega, by have q9 := hAtm x100.toNatClampNeg; omega, by show _ = (1 : Int); first | omega | decide⟩ hW hS (lv_sub hl [0, 1, 2, 3, 4, 5, 6] rfl)
      · have g128 := z_f_nge rfl z_l0 c102
        refine lv_iload hx hb dX12_number_55 (lv_at hl 1 rfl) ?_
        exact z_iret hx hb hr hK hS (Nat.le_of_ble_eq_true rfl) (Nat.le_of_ble_eq_true rfl) hlocks dX12_number_57 (shM, ad, I, J, PM ad) hW ⟨rfl, ⟨x100.toInt, hB_x100, Or.inl ⟨by omega, by rw [(show zi_us (a3.toInt - 3) = (1 : Int) from zi_us_1 (by omega))]; first | omega | decide⟩⟩⟩
  · have g129 := z_f_eq rfl z_l3 c1
    refine lv_bipush (v := 10) hx hb dX12_number_5 (by decide) ?_
    refine lv_goto (tgt := 40) hx hb dX12_number_7 (by decide) ?_
    refine lv_istore (lv' := [(4, .int 10), (0, .ref (ad 0)), (1, .int a1), (2, .int a2), (3, .int a3)]) hx hb dX12_number_40 hl (by decide) rfl (fun ls hl => ?_)
    refine lv_aload_n hx hb dX12_number_42 rfl (lv_at hl 1 rfl) ?_
    refine lv_iload_n hx hb dX12_number_43 rfl (lv_at hl 2 rfl) ?_
    refine lv_iload_n hx hb dX12_number_44 rfl (lv_at hl 3 rfl) ?_
    refine z_ci hW hS hA (va_runV (As := [.int a1, .int a2]) (rest := []) ⟨hx, hb, hml, hown, hts⟩ (sx_X12_inForce_x l G ad I J ⟨(by show 0 ≤ (I 0 13).toInt ∧ (I 0 13).toInt ≤ 12; exact hmb.1), (by show 0 ≤ (I 0 14).toInt ∧ (I 0 14).toInt ≤ 288; exact hmb.2)⟩ a1 a2 _) (cwV 2 hts gX12_number_X12_inForce rfl rfl rfl (by decide +kernel) ⟨Nat.le_of_ble_eq_true rfl, Nat.le_of_ble_eq_true rfl⟩) (z_preV (i := 0) hK hW rfl rfl) rfl rfl hl.1 rfl (lv_room (Nat.le_of_ble_eq_true rfl)) dX12_number_45 ⟨Nat.le_of_ble_eq_true rfl, Nat.le_of_ble_eq_true rfl⟩) (fun r u1 H locs hp hW hS => ?_)
    obtain ⟨e9, hp⟩ := hp
    rw [e9] at hW
    refine lv_topi (fun x130 ex130 => ?_)
    rw [← ex130] at hp
    obtain ⟨hB_x130, h131⟩ := hp
    refine lv_istore (lv' := [(5, .int x130), (4, .int 10), (0, .ref (ad 0)), (1, .int a1), (2, .int a2), (3, .int a3)]) hx hb dX12_number_48 hl (by decide) rfl (fun ls hl => ?_)
    refine lv_iload hx hb dX12_number_50 (lv_at hl 0 rfl) ?_
    refine lv_if_ge (tgt := 58) hx hb dX12_number_52 (by decide) (fun c132 => ?_) (fun c132 => ?_)
    · have g133 := z_f_ge rfl z_l0 c132
      refine lv_aload_n hx hb dX12_number_58 rfl (lv_at hl 2 rfl) ?_
      refine z_get (T := TX12) (N := 96) (ci := 12) (i := 0) (v := .ref (ad 11)) hx hb hts zj_X12_number_X12 hown hK hW rfl rfl 16 (by decide) (hts (.fieldLink RX12 40 "PetrolBoardModel" "textFirst" "[I") (me_s (me_l (List.mem_of_getElem? (i := 0) rfl)))) (fun _ h => h) rfl dX12_number_59 ?_
      refine lv_iload hx hb dX12_number_62 (lv_at hl 0 rfl) ?_
      refine z_iald (i := 11) hx hb hK hW rfl (z_ix rfl (by omega) (by omega)) dX12_number_64 ?_
      refine lv_topi (fun x134 ex134 => ?_)
      have h135 : 0 ≤ x134.toInt ∧ x134.toInt ≤ 288 := by rw [ex134]; exact hAtf _
      have h136 : (I 11 x130.toNatClampNeg).toInt = x134.toInt := by rw [ex134]
      refine lv_istore (lv' := [(6, .int x134), (5, .int x130), (4, .int 10), (0, .ref (ad 0)), (1, .int a1), (2, .int a2), (3, .int a3)]) hx hb dX12_number_65 hl (by decide) rfl (fun ls hl => ?_)
      have lp137 : ∀ (f : Nat) (y138 : Int32) (y139 : Int32) (H : Heap) (locs : List Loc) (ls : Array Slot), (2147483647 < y138.toInt + (f : Int)) → (0 ≤ y138.toInt) → (x134.toInt ≤ y138.toInt) → (∃ i : Nat, y138.toInt = (I 11 x130.toNatClampNeg).toInt + (i : Int) ∧ (i : Int) ≤ (I 12 x130.toNatClampNeg).toInt ∧ y139.toInt = zi_A (zi_kh I (I 11 x130.toNatClampNeg).toNatClampNeg) (zi_kn I (I 11 x130.toNatClampNeg).toNatClampNeg) a3.toInt (10 : Int) i) → z_W G A (shM, ad, I, J, PM ad) H → va_S A s.heap H locs → lv_has ls 7 [(6, .int y138), (5, .int x130), (4, .int y139), (0, .ref (ad 0)), (1, .int a1), (2, .int a2), (3, .int a3)] → W p l e (headSpec wsX12_number { frames := 2, cells := 0, slots := 0, locals := 36 }).room s m ([.ref (ad 0), .int a1, .int a2, .int a3] : List Value).toArray below meth c0 H locs 0 0 (MQ below (va_Qi (fun (r : Int32) (u1 : z_U) => u1 = (shM, ad, I, J, PM ad) ∧ (zi_R (zi_km I) (zi_kt I) a1.toInt a2.toInt (I 0 13).toNatClampNeg (zi_us (a3.toInt - 3)) (zi_am I (a3.toInt - 3)) r.toInt)) (z_B G A) A) ([.ref (ad 0), .int a1, .int a2, .int a3] : List Value).toArray s 0 0 A) (F0 m 67 ls []) := by
        intro f
        induction f with
        | zero => intro y138 y139 H locs ls lp137m lp137l6 lp137z lp137B hW hS hl; exact absurd lp137m (by have := Int32.toInt_lt y138; have := Int32.le_toInt y138; omega)
        | succ f lp137ih =>
          intro y138 y139 H locs ls lp137m lp137l6 lp137z lp137B hW hS hl
          refine lv_iload hx hb dX12_number_67 (lv_at hl 0 rfl) ?_
          refine lv_aload_n hx hb dX12_number_69 rfl (lv_at hl 3 rfl) ?_
          refine z_get (T := TX12) (N := 96) (ci := 12) (i := 0) (v := .ref (ad 11)) hx hb hts zj_X12_number_X12 hown hK hW rfl rfl 16 (by decide) (hts (.fieldLink RX12 40 "PetrolBoardModel" "textFirst" "[I") (me_s (me_l (List.mem_of_getElem? (i := 0) rfl)))) (fun _ h => h) rfl dX12_number_70 ?_
          refine lv_iload hx hb dX12_number_73 (lv_at hl 1 rfl) ?_
          refine z_iald (i := 11) hx hb hK hW rfl (z_ix rfl (by omega) (by omega)) dX12_number_75 ?_
          refine z_topi (v := x134) ex134.symm ?_
          refine lv_aload_n hx hb dX12_number_76 rfl (lv_at hl 3 rfl) ?_
          refine z_get (T := TX12) (N := 96) (ci := 12) (i := 0) (v := .ref (ad 12)) hx hb hts zj_X12_number_X12 hown hK hW rfl rfl 17 (by decide) (hts (.fieldLink RX12 43 "PetrolBoardModel" "textMany" "[I") (me_s (me_l (List.mem_of_getElem? (i := 1) rfl)))) (fun _ h => h) rfl dX12_number_77 ?_
          refine lv_iload hx hb dX12_number_80 (lv_at hl 1 rfl) ?_
          refine z_iald (i := 12) hx hb hK hW rfl (z_ix rfl (by omega) (by omega)) dX12_number_82 ?_
          refine lv_topi (fun x140 ex140 => ?_)
          have h141 : 0 ≤ x140.toInt ∧ x140.toInt ≤ 24 := by rw [ex140]; exact hAtm _
          have h142 : (I 12 x130.toNatClampNeg).toInt = x140.toInt := by rw [ex140]
          refine lv_iadd hx hb dX12_number_83 ?_
          refine lv_topi (fun x143 ex143 => ?_)
          have tx143 : x143.toInt = x134.toInt + x140.toInt := z_tadd ex143 rfl rfl (by omega) (by omega)
          refine lv_icmp_ge (tgt := 113) hx hb dX12_number_84 (by decide) (fun c144 => ?_) (fun c144 => ?_)
          · have g145 := z_f_ge rfl rfl c144
            have b146 := Int32.toInt_lt y138
            refine lv_iload hx hb dX12_number_113 (lv_at hl 2 rfl) ?_
            exact z_iret hx hb hr hK hS (Nat.le_of_ble_eq_true rfl) (Nat.le_of_ble_eq_true rfl) hlocks dX12_number_115 (shM, ad, I, J, PM ad) hW ⟨rfl, ⟨x130.toInt, hB_x130, Or.inr ⟨x130.toNatClampNeg, z_clt (x := x130) rfl (by omega), by have z9 := z_clt (x := x130) rfl (by omega); rcases hB_x130 with ⟨z1, _⟩ | ⟨q9, z1, z2, _⟩ <;> omega, by obtain ⟨i9, hi9, hn9, hB9⟩ := lp137B; have m9 := z_clt (x := (I 12 x130.toNatClampNeg)) rfl (by omega); unfold zi_am; rw [show 3 + (a3.toInt - 3) = a3.toInt by omega, (show zi_us (a3.toInt - 3) = (10 : Int) from zi_us_0 (by omega)), show (I 12 x130.toNatClampNeg).toNatClampNeg = i9 by omega]; exact hB9⟩⟩⟩
          · have g147 := z_f_nge rfl rfl c144
            have b148 := Int32.toInt_lt y138
            refine lv_aload_n hx hb dX12_number_87 rfl (lv_at hl 3 rfl) ?_
            refine z_get (T := TX12) (N := 96) (ci := 12) (i := 0) (v := .ref (ad 15)) hx hb hts zj_X12_number_X12 hown hK hW rfl rfl 20 (by decide) (hts (.fieldLink RX12 52 "PetrolBoardModel" "stRule" "[I") (me_s (me_l (List.mem_of_getElem? (i := 2) rfl)))) (fun _ h => h) rfl dX12_number_88 ?_
            refine lv_iload hx hb dX12_number_91 (lv_at hl 0 rfl) ?_
            refine z_iald (i := 15) hx hb hK hW rfl (z_ix rfl (by omega) (by omega)) dX12_number_93 ?_
            refine lv_topi (fun x149 ex149 => ?_)
            refine lv_iload_n hx hb dX12_number_94 rfl (lv_at hl 6 rfl) ?_
            refine lv_icmp_ne (tgt := 107) hx hb dX12_number_95 (by decide) (fun c150 => ?_) (fun c150 => ?_)
            · have g151 := z_f_ne rfl rfl c150
              have b152 := Int32.toInt_lt x149
              obtain ⟨x153, ex153⟩ : ∃ y : Int32, y = y138 + 1 := ⟨_, rfl⟩
              have tx153 : x153.toInt = y138.toInt + 1 := z_tadd ex153 rfl z_l1 (by omega) (by omega)
              refine lv_iinc (v := x153) (lv' := [(6, .int x153), (5, .int x130), (4, .int y139), (0, .ref (ad 0)), (1, .int a1), (2, .int a2), (3, .int a3)]) hx hb dX12_number_107 hl (k := 0) rfl (by rw [ex153]; rfl) (by decide) rfl (fun ls hl => ?_)
              refine lv_goto (tgt := 67) hx hb dX12_number_110 (by decide) ?_
              exact lp137ih x153 y139 _ _ _ (by omega) (by omega) (by omega) (by obtain ⟨i9, hi9, hn9, hB9⟩ := lp137B; have c9 := z_clt (x := (I 11 x130.toNatClampNeg)) rfl (by omega); have d9 := z_clt (x := y138) rfl (by omega); have e9 : (I 11 x130.toNatClampNeg).toNatClampNeg + i9 = y138.toNatClampNeg := (by omega); have q9 : zi_kh I (I 11 x130.toNatClampNeg).toNatClampNeg i9 = x149.toInt := (by unfold zi_kh; rw [e9, ex149]); exact ⟨i9 + 1, by omega, by omega, by rw [zi_A_n (by omega)]; exact hB9⟩) hW hS (lv_sub hl [0, 1, 2, 3, 4, 5, 6] rfl)
            · have g154 := z_f_eq rfl rfl c150
              have b155 := Int32.toInt_lt x149
              refine lv_aload_n hx hb dX12_number_98 rfl (lv_at hl 3 rfl) ?_
              refine z_get (T := TX12) (N := 96) (ci := 12) (i := 0) (v := .ref (ad 16)) hx hb hts zj_X12_number_X12 hown hK hW rfl rfl 21 (by decide) (hts (.fieldLink RX12 55 "PetrolBoardModel" "stNumber" "[I") (me_s (me_l (List.mem_of_getElem? (i := 3) rfl)))) (fun _ h => h) rfl dX12_number_99 ?_
              refine lv_iload hx hb dX12_number_102 (lv_at hl 0 rfl) ?_
              refine z_iald (i := 16) hx hb hK hW rfl (z_ix rfl (by omega) (by omega)) dX12_number_104 ?_
              refine lv_topi (fun x156 ex156 => ?_)
              refine lv_istore (lv' := [(4, .int x156), (6, .int y138), (5, .int x130), (0, .ref (ad 0)), (1, .int a1), (2, .int a2), (3, .int a3)]) hx hb dX12_number_105 hl (by decide) rfl (fun ls hl => ?_)
              obtain ⟨x157, ex157⟩ : ∃ y : Int32, y = y138 + 1 := ⟨_, rfl⟩
              have tx157 : x157.toInt = y138.toInt + 1 := z_tadd ex157 rfl z_l1 (by omega) (by omega)
              refine lv_iinc (v := x157) (lv' := [(6, .int x157), (4, .int x156), (5, .int x130), (0, .ref (ad 0)), (1, .int a1), (2, .int a2), (3, .int a3)]) hx hb dX12_number_107 hl (k := 1) rfl (by rw [ex157]; rfl) (by decide) rfl (fun ls hl => ?_)
              refine lv_goto (tgt := 67) hx hb dX12_number_110 (by decide) ?_
              exact lp137ih x157 x156 _ _ _ (by omega) (by omega) (by omega) (by obtain ⟨i9, hi9, hn9, hB9⟩ := lp137B; have c9 := z_clt (x := (I 11 x130.toNatClampNeg)) rfl (by omega); have d9 := z_clt (x := y138) rfl (by omega); have e9 : (I 11 x130.toNatClampNeg).toNatClampNeg + i9 = y138.toNatClampNeg := (by omega); have q9 : zi_kh I (I 11 x130.toNatClampNeg).toNatClampNeg i9 = x149.toInt := (by unfold zi_kh; rw [e9, ex149]); have p9 : zi_kn I (I 11 x130.toNatClampNeg).toNatClampNeg i9 = x156.toInt := (by unfold zi_kn; rw [e9, ex156]); exact ⟨i9 + 1, by omega, by omega, by rw [zi_A_y (by omega)]; exact p9.symm⟩) hW hS (lv_sub hl [0, 2, 1, 3, 4, 5, 6] rfl)
      exact lp137 4294967296 x134 (10) _ _ _ (z_m0u _) (by omega) (by omega) ⟨0, by omega, by have q9 := hAtm x130.toNatClampNeg; omega, by show _ = (10 : Int); first | omega | decide⟩ hW hS (lv_sub hl [0, 1, 2, 3, 4, 5, 6] rfl)
    · have g158 := z_f_nge rfl z_l0 c132
      refine lv_iload hx hb dX12_number_55 (lv_at hl 1 rfl) ?_
      exact z_iret hx hb hr hK hS (Nat.le_of_ble_eq_true rfl) (Nat.le_of_ble_eq_true rfl) hlocks dX12_number_57 (shM, ad, I, J, PM ad) hW ⟨rfl, ⟨x130.toInt, hB_x130, Or.inl ⟨by omega, by rw [(show zi_us (a3.toInt - 3) = (10 : Int) from zi_us_0 (by omega))]; first | omega | decide⟩⟩⟩

section ZV1
variable {A : Int → Int} {ss : List zp_T} {j : Nat} {s : zp_T} {w : Int}
theorem zv_fi_b_q : ∀ ss : List zp_T, 0 ≤ zv_fi A w ss ∧ zv_fi A w ss ≤ 99
  | [] => ⟨Int.le_refl 0, by show (0 : Int) ≤ 99; decide⟩
  | s :: ss => by
    rw [zv_fi]
    split
    · exact zv_k_b _
    · exact zv_fi_b_q ss
end ZV1
