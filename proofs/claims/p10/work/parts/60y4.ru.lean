

set_option maxHeartbeats 8000000 in
set_option maxRecDepth 100000 in
theorem sx_X6_inForce_x (l : Launch) (G : z_G) (ad : Nat → Nat) (c : z_C) (I : z_I) (hO : z_iO I) (a1 : Int32) (a2 : Int32) (hon : (I 21 2).toInt = (c.2.1 : Int)) (hmo : ∀ j, j < c.2.1 → 0 ≤ (I (200 + 5 * j) 0).toInt) : z_M l yX6_inForce wsX6_inForce { frames := 1, cells := 0, slots := 0, locals := 12 } [.ref (ad 21), .int a1, .int a2] G (shC c, ad, I, JX, PC c ad) (fun r u1 => u1 = (shC c, ad, I, JX, PC c ad) ∧ (zi_B (zi_mo I) (zi_td I) a1.toInt a2.toInt c.2.1 r.toInt ∧ (-1 ≤ r.toInt ∧ r.toInt ≤ 11))) 0 0 := by
  intro sz
  refine z_headQ (cc := cX6_inForce) (maxL := 8) (ret := (some .int)) (by decide) rfl (Nat.le_of_ble_eq_true rfl) ?_
  intro p e s m below meth c0 ls hIn hK hsz hW hl
  obtain ⟨hx, hb, hr, hml, hown, hts, hlocks, hname⟩ := hIn
  subst hsz
  have hown : s.vm.findClass RX6 = some m.cls := hown
  have hA : ∀ q : Nat, s.heap.size ≤ q → z_A (shC c, ad, I, JX, PC c ad) s.heap.size q := fun q h => Or.inr h
  generalize hAe : z_A (shC c, ad, I, JX, PC c ad) s.heap.size = A at *
  have hS : va_S A s.heap s.heap [] := va_S.rf
  have hl : lv_has ls 8 [(0, .ref (ad 21)), (1, .int a1), (2, .int a2)] := hl
  refine lv_iconst (v := (-1)) hx hb dX6_inForce_0 (by decide) ?_
  refine lv_istore_n (lv' := [(3, .int (-1)), (0, .ref (ad 21)), (1, .int a1), (2, .int a2)]) hx hb dX6_inForce_1 rfl hl (by decide) rfl (fun ls hl => ?_)
  refine lv_iconst (v := (-1)) hx hb dX6_inForce_2 (by decide) ?_
  refine lv_istore (lv' := [(4, .int (-1)), (3, .int (-1)), (0, .ref (ad 21)), (1, .int a1), (2, .int a2)]) hx hb dX6_inForce_3 hl (by decide) rfl (fun ls hl => ?_)
  refine lv_iconst (v := 0) hx hb dX6_inForce_5 (by decide) ?_
  refine lv_istore (lv' := [(5, .int 0), (4, .int (-1)), (3, .int (-1)), (0, .ref (ad 21)), (1, .int a1), (2, .int a2)]) hx hb dX6_inForce_6 hl (by decide) rfl (fun ls hl => ?_)
  have lp1 : ∀ (f : Nat) (y2 : Int32) (y3 : Int32) (y4 : Int32) (H : Heap) (locs : List Loc) (ls : Array Slot), (2147483647 < y2.toInt + (f : Int)) → (0 ≤ y2.toInt) → ((-1) ≤ y4.toInt) → (y4.toInt ≤ 11) → (∃ i : Nat, (i : Int) = y2.toInt ∧ i ≤ c.2.1 ∧ zi_B (zi_mo I) (zi_td I) a1.toInt a2.toInt i y4.toInt ∧ ((y4.toInt = -1 ∧ y3.toInt = -1) ∨ ∃ q : Nat, y4.toInt = (q : Int) ∧ q < c.2.1 ∧ y3.toInt = zi_mo I q)) → z_W G A (shC c, ad, I, JX, PC c ad) H → va_S A s.heap H locs → lv_has ls 8 [(5, .int y2), (4, .int y3), (3, .int y4), (0, .ref (ad 21)), (1, .int a1), (2, .int a2)] → W p l e (headSpec wsX6_inForce { frames := 1, cells := 0, slots := 0, locals := 12 }).room s m ([.ref (ad 21), .int a1, .int a2] : List Value).toArray below meth c0 H locs 0 0 (MQ below (va_Qi (fun (r : Int32) (u1 : z_U) => u1 = (shC c, ad, I, JX, PC c ad) ∧ (zi_B (zi_mo I) (zi_td I) a1.toInt a2.toInt c.2.1 r.toInt ∧ (-1 ≤ r.toInt ∧ r.toInt ≤ 11))) (z_B G A) A) ([.ref (ad 21), .int a1, .int a2] : List Value).toArray s 0 0 A) (F0 m 8 ls []) := by
    intro f
    induction f with
    | zero => intro y2 y3 y4 H locs ls lp1m lp1l5 lp1l3 lp1u3 lp1B hW hS hl; exact absurd lp1m (by have := Int32.toInt_lt y2; have := Int32.le_toInt y2; omega)
    | succ f lp1ih =>
      intro y2 y3 y4 H locs ls lp1m lp1l5 lp1l3 lp1u3 lp1B hW hS hl
      refine lv_iload hx hb dX6_inForce_8 (lv_at hl 0 rfl) ?_
      refine lv_aload_n hx hb dX6_inForce_10 rfl (lv_at hl 3 rfl) ?_
      have r5 : 0 ≤ (I 21 2).toInt ∧ (I 21 2).toInt ≤ 12 := hO
      refine z_get (T := TX6) (N := 3) (ci := 6) (i := 21) (v := .int (I 21 2)) hx hb hts zj_X6_inForce_X6 hown hK hW rfl rfl 2 (by decide) (hts (.fieldLink RX6 24 "PetrolBoard$OrderBook" "number" "I") (me_s (me_l (me_l (List.mem_of_getElem? (i := 0) rfl))))) (fun _ h => h) rfl dX6_inForce_11 ?_
      refine lv_icmp_ge (tgt := 97) hx hb dX6_inForce_14 (by decide) (fun c6 => ?_) (fun c6 => ?_)
      · have g7 := z_f_ge rfl rfl c6
        have b8 := Int32.toInt_lt y2
        refine lv_iload_n hx hb dX6_inForce_97 rfl (lv_at hl 2 rfl) ?_
        exact z_iret hx hb hr hK hS (Nat.le_of_ble_eq_true rfl) (Nat.le_of_ble_eq_true rfl) hlocks dX6_inForce_98 (shC c, ad, I, JX, PC c ad) hW ⟨rfl, (by obtain ⟨i9, hi9, hn9, hB9, hL9⟩ := lp1B; have e9 : i9 = c.2.1 := (by omega); rw [← e9]; exact ⟨hB9, by omega⟩)⟩
      · have g9 := z_f_nge rfl rfl c6
        have b10 := Int32.toInt_lt y2
        refine lv_iload hx hb dX6_inForce_17 (lv_at hl 0 rfl) ?_
        refine lv_aload_n hx hb dX6_inForce_19 rfl (lv_at hl 3 rfl) ?_
        refine z_get (T := TX6) (N := 3) (ci := 6) (i := 21) (v := .ref (ad 22)) hx hb hts zj_X6_inForce_X6 hown hK hW rfl rfl 0 (by decide) (hts (.fieldLink RX6 11 "PetrolBoard$OrderBook" "told" "[LPetrolBoard$Orders;") (me_s (me_l (me_l (List.mem_of_getElem? (i := 1) rfl))))) (fun _ h => h) rfl dX6_inForce_20 ?_
        refine z_alen (i := 22) (v := 12) hx hb hK hW rfl (by simp [z_tys]) (by rfl) dX6_inForce_23 ?_
        refine lv_icmp_ge (tgt := 97) hx hb dX6_inForce_24 (by decide) (fun c11 => (by have g := z_f_ge rfl z_l12 c11; omega)) (fun c11 => ?_)
        have g12 := z_f_nge rfl z_l12 c11
        refine lv_aload_n hx hb dX6_inForce_27 rfl (lv_at hl 3 rfl) ?_
        refine z_get (T := TX6) (N := 3) (ci := 6) (i := 21) (v := .ref (ad 22)) hx hb hts zj_X6_inForce_X6 hown hK hW rfl rfl 0 (by decide) (hts (.fieldLink RX6 11 "PetrolBoard$OrderBook" "told" "[LPetrolBoard$Orders;") (me_s (me_l (me_l (List.mem_of_getElem? (i := 1) rfl))))) (fun _ h => h) rfl dX6_inForce_28 ?_
        refine lv_iload hx hb dX6_inForce_31 (lv_at hl 0 rfl) ?_
        obtain ⟨k13, ek13⟩ : ∃ k : Nat, (y2 : Int32).toNatClampNeg = k := ⟨_, rfl⟩
        have ck13 := z_clt (x := y2) rfl (by omega)
        obtain ⟨i9, hi9, hn9, hB9, hL9⟩ := lp1B
        have hik : i9 = k13 := by omega
        subst hik
        have hk13 : i9 < c.2.1 := by omega
        have hm9 : zi_mo I i9 = (I (200 + 5 * i9) 0).toInt := rfl
        have ht9 : zi_td I i9 = (I (200 + 5 * i9) 1).toInt := rfl
        have hm0 := hmo i9 hk13
        refine z_aald (i := 22) (v := .ref (ad (200 + 5 * i9))) hx hb hK hW rfl (by simp [z_tys]) rfl (z_ix rfl (by omega) (by omega)) (z_p22 ek13 hk13) dX6_inForce_33 ?_
        refine lv_astore (lv' := [(6, .ref (ad (200 + 5 * i9))), (5, .int y2), (4, .int y3), (3, .int y4), (0, .ref (ad 21)), (1, .int a1), (2, .int a2)]) hx hb dX6_inForce_34 hl (by decide) rfl (fun ls hl => ?_)
        refine lv_aload hx hb dX6_inForce_36 (lv_at hl 0 rfl) ?_
        refine lv_ifnull hx hb dX6_inForce_38 ?_
        refine lv_aload hx hb dX6_inForce_41 (lv_at hl 0 rfl) ?_
        refine z_get (T := TX7) (N := 6) (ci := 7) (i := (200 + 5 * i9)) (v := .int (I (200 + 5 * i9) 1)) hx hb hts zj_X6_inForce_X7 hown hK hW (z_so0 hk13) rfl 1 (by decide) (hts (.fieldLink RX6 28 "PetrolBoard$Orders" "toldOn" "I") (me_s (me_l (me_l (List.mem_of_getElem? (i := 2) rfl))))) (fun _ h => h) rfl dX6_inForce_43 ?_
        refine lv_iload_n hx hb dX6_inForce_46 rfl (lv_at hl 6 rfl) ?_
        refine lv_icmp_gt (tgt := 63) hx hb dX6_inForce_47 (by decide) (fun c14 => ?_) (fun c14 => ?_)
        · have g15 := z_f_gt rfl rfl c14
          have b16 := Int32.toInt_lt (I (200 + 5 * i9) 1)
          have b17 := Int32.toInt_lt a2
          refine lv_iconst (v := 0) hx hb dX6_inForce_63 (by decide) ?_
          refine lv_istore (lv' := [(7, .int 0), (6, .ref (ad (200 + 5 * i9))), (5, .int y2), (4, .int y3), (3, .int y4), (0, .ref (ad 21)), (1, .int a1), (2, .int a2)]) hx hb dX6_inForce_64 hl (by decide) rfl (fun ls hl => ?_)
          refine lv_iload hx hb dX6_inForce_66 (lv_at hl 0 rfl) ?_
          refine lv_if_eq (tgt := 91) hx hb dX6_inForce_68 (by decide) (fun c18 => ?_) (fun c18 => absurd (by decide) c18)
          obtain ⟨x19, ex19⟩ : ∃ y : Int32, y = y2 + 1 := ⟨_, rfl⟩
          have tx19 : x19.toInt = y2.toInt + 1 := z_tadd ex19 rfl z_l1 (by omega) (by omega)
          refine lv_iinc (v := x19) (lv' := [(5, .int x19), (7, .int 0), (6, .ref (ad (200 + 5 * i9))), (4, .int y3), (3, .int y4), (0, .ref (ad 21)), (1, .int a1), (2, .int a2)]) hx hb dX6_inForce_91 hl (k := 2) rfl (by rw [ex19]; rfl) (by decide) rfl (fun ls hl => ?_)
          refine lv_goto (tgt := 8) hx hb dX6_inForce_94 (by decide) ?_
          exact lp1ih x19 y3 y4 _ _ _ (by omega) (by omega) (by omega) (by omega) (by first | exact ⟨i9 + 1, by omega, by omega, zi_B_no hB9 (by omega), hL9⟩ | (rcases hL9 with ⟨l1, l2⟩ | ⟨q9, l1, l2, l3⟩ <;> first | (exfalso; omega) | exact ⟨i9 + 1, by omega, by omega, zi_B_lo hB9 l1 (by omega), Or.inr ⟨q9, l1, l2, l3⟩⟩)) hW hS (lv_sub hl [0, 3, 4, 5, 6, 7] rfl)
        · have g20 := z_f_ngt rfl rfl c14
          have b21 := Int32.toInt_lt (I (200 + 5 * i9) 1)
          have b22 := Int32.toInt_lt a2
          refine lv_aload hx hb dX6_inForce_50 (lv_at hl 0 rfl) ?_
          refine z_get (T := TX7) (N := 6) (ci := 7) (i := (200 + 5 * i9)) (v := .int (I (200 + 5 * i9) 0)) hx hb hts zj_X6_inForce_X7 hown hK hW (z_so0 hk13) rfl 0 (by decide) (hts (.fieldLink RX6 31 "PetrolBoard$Orders" "month" "I") (me_s (me_l (me_l (List.mem_of_getElem? (i := 3) rfl))))) (fun _ h => h) rfl dX6_inForce_52 ?_
          refine lv_iload_n hx hb dX6_inForce_55 rfl (lv_at hl 5 rfl) ?_
          refine lv_icmp_gt (tgt := 63) hx hb dX6_inForce_56 (by decide) (fun c23 => ?_) (fun c23 => ?_)
          · have g24 := z_f_gt rfl rfl c23
            have b25 := Int32.toInt_lt (I (200 + 5 * i9) 0)
            have b26 := Int32.toInt_lt a1
            refine lv_iconst (v := 0) hx hb dX6_inForce_63 (by decide) ?_
            refine lv_istore (lv' := [(7, .int 0), (6, .ref (ad (200 + 5 * i9))), (5, .int y2), (4, .int y3), (3, .int y4), (0, .ref (ad 21)), (1, .int a1), (2, .int a2)]) hx hb dX6_inForce_64 hl (by decide) rfl (fun ls hl => ?_)
            refine lv_iload hx hb dX6_inForce_66 (lv_at hl 0 rfl) ?_
            refine lv_if_eq (tgt := 91) hx hb dX6_inForce_68 (by decide) (fun c27 => ?_) (fun c27 => absurd (by decide) c27)
            obtain ⟨x28, ex28⟩ : ∃ y : Int32, y = y2 + 1 := ⟨_, rfl⟩
            have tx28 : x28.toInt = y2.toInt + 1 := z_tadd ex28 rfl z_l1 (by omega) (by omega)
            refine lv_iinc (v := x28) (lv' := [(5, .int x28), (7, .int 0), (6, .ref (ad (200 + 5 * i9))), (4, .int y3), (3, .int y4), (0, .ref (ad 21)), (1, .int a1), (2, .int a2)]) hx hb dX6_inForce_91 hl (k := 2) rfl (by rw [ex28]; rfl) (by decide) rfl (fun ls hl => ?_)
            refine lv_goto (tgt := 8) hx hb dX6_inForce_94 (by decide) ?_
            exact lp1ih x28 y3 y4 _ _ _ (by omega) (by omega) (by omega) (by omega) (by first | exact ⟨i9 + 1, by omega, by omega, zi_B_no hB9 (by omega), hL9⟩ | (rcases hL9 with ⟨l1, l2⟩ | ⟨q9, l1, l2, l3⟩ <;> first | (exfalso; omega) | exact ⟨i9 + 1, by omega, by omega, zi_B_lo hB9 l1 (by omega), Or.inr ⟨q9, l1, l2, l3⟩⟩)) hW hS (lv_sub hl [0, 3, 4, 5, 6, 7] rfl)
          · have g29 := z_f_ngt rfl rfl c23
            have b30 := Int32.toInt_lt (I (200 + 5 * i9) 0)
            have b31 := Int32.toInt_lt a1
            refine lv_iconst (v := 1) hx hb dX6_inForce_59 (by decide) ?_
            refine lv_goto (tgt := 64) hx hb dX6_inForce_60 (by decide) ?_
            refine lv_istore (lv' := [(7, .int 1), (6, .ref (ad (200 + 5 * i9))), (5, .int y2), (4, .int y3), (3, .int y4), (0, .ref (ad 21)), (1, .int a1), (2, .int a2)]) hx hb dX6_inForce_64 hl (by decide) rfl (fun ls hl => ?_)
            refine lv_iload hx hb dX6_inForce_66 (lv_at hl 0 rfl) ?_
            refine lv_if_eq (tgt := 91) hx hb dX6_inForce_68 (by decide) (fun c32 => absurd c32 (by decide)) (fun c32 => ?_)
            refine lv_aload hx hb dX6_inForce_71 (lv_at hl 1 rfl) ?_
            refine z_get (T := TX7) (N := 6) (ci := 7) (i := (200 + 5 * i9)) (v := .int (I (200 + 5 * i9) 0)) hx hb hts zj_X6_inForce_X7 hown hK hW (z_so0 hk13) rfl 0 (by decide) (hts (.fieldLink RX6 31 "PetrolBoard$Orders" "month" "I") (me_s (me_l (me_l (List.mem_of_getElem? (i := 3) rfl))))) (fun _ h => h) rfl dX6_inForce_73 ?_
            refine lv_iload hx hb dX6_inForce_76 (lv_at hl 3 rfl) ?_
            refine lv_icmp_lt (tgt := 91) hx hb dX6_inForce_78 (by decide) (fun c33 => ?_) (fun c33 => ?_)
            · have g34 := z_f_lt rfl rfl c33
              have b35 := Int32.toInt_lt y3
              obtain ⟨x36, ex36⟩ : ∃ y : Int32, y = y2 + 1 := ⟨_, rfl⟩
              have tx36 : x36.toInt = y2.toInt + 1 := z_tadd ex36 rfl z_l1 (by omega) (by omega)
              refine lv_iinc (v := x36) (lv' := [(5, .int x36), (7, .int 1), (6, .ref (ad (200 + 5 * i9))), (4, .int y3), (3, .int y4), (0, .ref (ad 21)), (1, .int a1), (2, .int a2)]) hx hb dX6_inForce_91 hl (k := 2) rfl (by rw [ex36]; rfl) (by decide) rfl (fun ls hl => ?_)
              refine lv_goto (tgt := 8) hx hb dX6_inForce_94 (by decide) ?_
              exact lp1ih x36 y3 y4 _ _ _ (by omega) (by omega) (by omega) (by omega) (by first | exact ⟨i9 + 1, by omega, by omega, zi_B_no hB9 (by omega), hL9⟩ | (rcases hL9 with ⟨l1, l2⟩ | ⟨q9, l1, l2, l3⟩ <;> first | (exfalso; omega) | exact ⟨i9 + 1, by omega, by omega, zi_B_lo hB9 l1 (by omega), Or.inr ⟨q9, l1, l2, l3⟩⟩)) hW hS (lv_sub hl [0, 3, 4, 5, 6, 7] rfl)
            · have g37 := z_f_nlt rfl rfl c33
              have b38 := Int32.toInt_lt y3
              refine lv_aload hx hb dX6_inForce_81 (lv_at hl 1 rfl) ?_
              refine z_get (T := TX7) (N := 6) (ci := 7) (i := (200 + 5 * i9)) (v := .int (I (200 + 5 * i9) 0)) hx hb hts zj_X6_inForce_X7 hown hK hW (z_so0 hk13) rfl 0 (by decide) (hts (.fieldLink RX6 31 "PetrolBoard$Orders" "month" "I") (me_s (me_l (me_l (List.mem_of_getElem? (i := 3) rfl))))) (fun _ h => h) rfl dX6_inForce_83 ?_
              refine lv_istore (lv' := [(4, .int (I (200 + 5 * i9) 0)), (7, .int 1), (6, .ref (ad (200 + 5 * i9))), (5, .int y2), (3, .int y4), (0, .ref (ad 21)), (1, .int a1), (2, .int a2)]) hx hb dX6_inForce_86 hl (by decide) rfl (fun ls hl => ?_)
              refine lv_iload hx hb dX6_inForce_88 (lv_at hl 3 rfl) ?_
              refine lv_istore_n (lv' := [(3, .int y2), (4, .int (I (200 + 5 * i9) 0)), (7, .int 1), (6, .ref (ad (200 + 5 * i9))), (5, .int y2), (0, .ref (ad 21)), (1, .int a1), (2, .int a2)]) hx hb dX6_inForce_90 rfl hl (by decide) rfl (fun ls hl => ?_)
              obtain ⟨x39, ex39⟩ : ∃ y : Int32, y = y2 + 1 := ⟨_, rfl⟩
              have tx39 : x39.toInt = y2.toInt + 1 := z_tadd ex39 rfl z_l1 (by omega) (by omega)
              refine lv_iinc (v := x39) (lv' := [(5, .int x39), (3, .int y2), (4, .int (I (200 + 5 * i9) 0)), (7, .int 1), (6, .ref (ad (200 + 5 * i9))), (0, .ref (ad 21)), (1, .int a1), (2, .int a2)]) hx hb dX6_inForce_91 hl (k := 4) rfl (by rw [ex39]; rfl) (by decide) rfl (fun ls hl => ?_)
              refine lv_goto (tgt := 8) hx hb dX6_inForce_94 (by decide) ?_
              exact lp1ih x39 (I (200 + 5 * i9) 0) y2 _ _ _ (by omega) (by omega) (by omega) (by omega) ⟨i9 + 1, by omega, by omega, zi_B_up hB9 (by omega) (by omega) (by rcases hL9 with ⟨l1, l2⟩ | ⟨q9, l1, l2, l3⟩; (· exact Or.inl l1); (· exact Or.inr ⟨q9, l1, by omega⟩)) (by omega), Or.inr ⟨i9, by omega, by omega, by omega⟩⟩ hW hS (lv_sub hl [0, 2, 1, 5, 6, 7] rfl)
  exact lp1 4294967296 (0) ((-1)) ((-1)) _ _ _ (z_m0u _) (by rw [z_l0]; omega) (by rw [z_lm1]; omega) (by rw [z_lm1]; omega) ⟨0, by decide, by omega, zi_B_0, Or.inl ⟨by decide, by decide⟩⟩ hW hS (lv_sub hl [0, 1, 2, 3, 4, 5] rfl)
set_option maxHeartbeats 8000000 in
set_option maxRecDepth 100000 in
theorem sx_X12_inForce_x (l : Launch) (G : z_G) (ad : Nat → Nat) (I : z_I) (J : z_J) (hmb : z_imb I) (a1 : Int32) (a2 : Int32) : z_M l yX12_inForce wsX12_inForce { frames := 1, cells := 0, slots := 0, locals := 12 } [.ref (ad 0), .int a1, .int a2] G (shM, ad, I, J, PM ad) (fun r u1 => u1 = (shM, ad, I, J, PM ad) ∧ (zi_B (zi_km I) (zi_kt I) a1.toInt a2.toInt (I 0 13).toNatClampNeg r.toInt ∧ (-1 ≤ r.toInt ∧ r.toInt ≤ 11))) 0 0 := by
  intro sz
  refine z_headQ (cc := cX12_inForce) (maxL := 5) (ret := (some .int)) (by decide) rfl (Nat.le_of_ble_eq_true rfl) ?_
  intro p e s m below meth c0 ls hIn hK hsz hW hl
  obtain ⟨hx, hb, hr, hml, hown, hts, hlocks, hname⟩ := hIn
  subst hsz
  have hown : s.vm.findClass RX12 = some m.cls := hown
  have hA : ∀ q : Nat, s.heap.size ≤ q → z_A (shM, ad, I, J, PM ad) s.heap.size q := fun q h => Or.inr h
  generalize hAe : z_A (shM, ad, I, J, PM ad) s.heap.size = A at *
  have hS : va_S A s.heap s.heap [] := va_S.rf
  have hl : lv_has ls 5 [(0, .ref (ad 0)), (1, .int a1), (2, .int a2)] := hl
  refine lv_iconst (v := (-1)) hx hb dX12_inForce_0 (by decide) ?_
  refine lv_istore_n (lv' := [(3, .int (-1)), (0, .ref (ad 0)), (1, .int a1), (2, .int a2)]) hx hb dX12_inForce_1 rfl hl (by decide) rfl (fun ls hl => ?_)
  refine lv_iconst (v := 0) hx hb dX12_inForce_2 (by decide) ?_
  refine lv_istore (lv' := [(4, .int 0), (3, .int (-1)), (0, .ref (ad 0)), (1, .int a1), (2, .int a2)]) hx hb dX12_inForce_3 hl (by decide) rfl (fun ls hl => ?_)
  have lp1 : ∀ (f : Nat) (y2 : Int32) (y3 : Int32) (H : Heap) (locs : List Loc) (ls : Array Slot), (2147483647 < y2.toInt + (f : Int)) → (0 ≤ y2.toInt) → ((-1) ≤ y3.toInt) → (y3.toInt ≤ 11) → (∃ i : Nat, (i : Int) = y2.toInt ∧ (i : Int) ≤ (I 0 13).toInt ∧ zi_B (zi_km I) (zi_kt I) a1.toInt a2.toInt i y3.toInt ∧ y3.toInt < (i : Int)) → z_W G A (shM, ad, I, J, PM ad) H → va_S A s.heap H locs → lv_has ls 5 [(4, .int y2), (3, .int y3), (0, .ref (ad 0)), (1, .int a1), (2, .int a2)] → W p l e (headSpec wsX12_inForce { frames := 1, cells := 0, slots := 0, locals := 12 }).room s m ([.ref (ad 0), .int a1, .int a2] : List Value).toArray below meth c0 H locs 0 0 (MQ below (va_Qi (fun (r : Int32) (u1 : z_U) => u1 = (shM, ad, I, J, PM ad) ∧ (zi_B (zi_km I) (zi_kt I) a1.toInt a2.toInt (I 0 13).toNatClampNeg r.toInt ∧ (-1 ≤ r.toInt ∧ r.toInt ≤ 11))) (z_B G A) A) ([.ref (ad 0), .int a1, .int a2] : List Value).toArray s 0 0 A) (F0 m 5 ls []) := by
    intro f
    induction f with
    | zero => intro y2 y3 H locs ls lp1m lp1l4 lp1l3 lp1u3 lp1B hW hS hl; exact absurd lp1m (by have := Int32.toInt_lt y2; have := Int32.le_toInt y2; omega)
    | succ f lp1ih =>
      intro y2 y3 H locs ls lp1m lp1l4 lp1l3 lp1u3 lp1B hW hS hl
      refine lv_iload hx hb dX12_inForce_5 (lv_at hl 0 rfl) ?_
      refine lv_aload_n hx hb dX12_inForce_7 rfl (lv_at hl 2 rfl) ?_
      have r4 : 0 ≤ (I 0 13).toInt ∧ (I 0 13).toInt ≤ 12 := hmb.1
      refine z_get (T := TX12) (N := 96) (ci := 12) (i := 0) (v := .int (I 0 13)) hx hb hts zj_X12_inForce_X12 hown hK hW rfl rfl 13 (by decide) (hts (.fieldLink RX12 408 "PetrolBoardModel" "texts" "I") (me_s (me_l (List.mem_of_getElem? (i := 0) rfl)))) (fun _ h => h) rfl dX12_inForce_8 ?_
      refine lv_icmp_ge (tgt := 65) hx hb dX12_inForce_11 (by decide) (fun c5 => ?_) (fun c5 => ?_)
      · have g6 := z_f_ge rfl rfl c5
        have b7 := Int32.toInt_lt y2
        refine lv_iload_n hx hb dX12_inForce_65 rfl (lv_at hl 1 rfl) ?_
        exact z_iret hx hb hr hK hS (Nat.le_of_ble_eq_true rfl) (Nat.le_of_ble_eq_true rfl) hlocks dX12_inForce_66 (shM, ad, I, J, PM ad) hW ⟨rfl, (by obtain ⟨i9, hi9, hn9, hB9, hl9⟩ := lp1B; have e9 : i9 = (I 0 13).toNatClampNeg := (by have := z_clt (x := I 0 13) rfl (by omega); omega); rw [← e9]; exact ⟨hB9, by omega⟩)⟩
      · have g8 := z_f_nge rfl rfl c5
        have b9 := Int32.toInt_lt y2
        refine lv_aload_n hx hb dX12_inForce_14 rfl (lv_at hl 2 rfl) ?_
        refine z_get (T := TX12) (N := 96) (ci := 12) (i := 0) (v := .ref (ad 14)) hx hb hts zj_X12_inForce_X12 hown hK hW rfl rfl 19 (by decide) (hts (.fieldLink RX12 49 "PetrolBoardModel" "textTold" "[I") (me_s (me_l (List.mem_of_getElem? (i := 1) rfl)))) (fun _ h => h) rfl dX12_inForce_15 ?_
        refine lv_iload hx hb dX12_inForce_18 (lv_at hl 0 rfl) ?_
        refine z_iald (i := 14) hx hb hK hW rfl (z_ix rfl (by omega) (by omega)) dX12_inForce_20 ?_
        refine lv_topi (fun x10 ex10 => ?_)
        have h11 : zi_kt I y2.toNatClampNeg = x10.toInt := by unfold zi_kt; rw [ex10]
        have h12 := z_clt (x := y2) rfl (by omega)
        refine lv_iload_n hx hb dX12_inForce_21 rfl (lv_at hl 4 rfl) ?_
        refine lv_icmp_gt (tgt := 59) hx hb dX12_inForce_22 (by decide) (fun c13 => ?_) (fun c13 => ?_)
        · have g14 := z_f_gt rfl rfl c13
          have b15 := Int32.toInt_lt x10
          have b16 := Int32.toInt_lt a2
          obtain ⟨x17, ex17⟩ : ∃ y : Int32, y = y2 + 1 := ⟨_, rfl⟩
          have tx17 : x17.toInt = y2.toInt + 1 := z_tadd ex17 rfl z_l1 (by omega) (by omega)
          refine lv_iinc (v := x17) (lv' := [(4, .int x17), (3, .int y3), (0, .ref (ad 0)), (1, .int a1), (2, .int a2)]) hx hb dX12_inForce_59 hl (k := 0) rfl (by rw [ex17]; rfl) (by decide) rfl (fun ls hl => ?_)
          refine lv_goto (tgt := 5) hx hb dX12_inForce_62 (by decide) ?_
          exact lp1ih x17 y3 _ _ _ (by omega) (by omega) (by omega) (by omega) (by obtain ⟨i9, hi9, hn9, hB9, hl9⟩ := lp1B; have e9 : i9 = y2.toNatClampNeg := (by have := z_clt (x := y2) rfl (by omega); omega); subst e9; first | exact ⟨_, by have := z_clt (x := y2) rfl (by omega); omega, by have := z_clt (x := y2) rfl (by omega); omega, zi_B_no hB9 (by omega), by have := z_clt (x := y2) rfl (by omega); omega⟩ | exact ⟨_, by have := z_clt (x := y2) rfl (by omega); omega, by have := z_clt (x := y2) rfl (by omega); omega, zi_B_lo (q := y3.toNatClampNeg) hB9 (by have := z_clt (x := y3) rfl (by omega); omega) (by omega), by have := z_clt (x := y2) rfl (by omega); omega⟩) hW hS (lv_sub hl [0, 1, 2, 3, 4] rfl)
        · have g18 := z_f_ngt rfl rfl c13
          have b19 := Int32.toInt_lt x10
          have b20 := Int32.toInt_lt a2
          refine lv_aload_n hx hb dX12_inForce_25 rfl (lv_at hl 2 rfl) ?_
          refine z_get (T := TX12) (N := 96) (ci := 12) (i := 0) (v := .ref (ad 13)) hx hb hts zj_X12_inForce_X12 hown hK hW rfl rfl 18 (by decide) (hts (.fieldLink RX12 46 "PetrolBoardModel" "textMonth" "[I") (me_s (me_l (List.mem_of_getElem? (i := 2) rfl)))) (fun _ h => h) rfl dX12_inForce_26 ?_
          refine lv_iload hx hb dX12_inForce_29 (lv_at hl 0 rfl) ?_
          refine z_iald (i := 13) hx hb hK hW rfl (z_ix rfl (by omega) (by omega)) dX12_inForce_31 ?_
          refine lv_topi (fun x21 ex21 => ?_)
          have h22 : zi_km I y2.toNatClampNeg = x21.toInt := by unfold zi_km; rw [ex21]
          have h23 := z_clt (x := y2) rfl (by omega)
          refine lv_iload_n hx hb dX12_inForce_32 rfl (lv_at hl 3 rfl) ?_
          refine lv_icmp_gt (tgt := 59) hx hb dX12_inForce_33 (by decide) (fun c24 => ?_) (fun c24 => ?_)
          · have g25 := z_f_gt rfl rfl c24
            have b26 := Int32.toInt_lt x21
            have b27 := Int32.toInt_lt a1
            obtain ⟨x28, ex28⟩ : ∃ y : Int32, y = y2 + 1 := ⟨_, rfl⟩
            have tx28 : x28.toInt = y2.toInt + 1 := z_tadd ex28 rfl z_l1 (by omega) (by omega)
            refine lv_iinc (v := x28) (lv' := [(4, .int x28), (3, .int y3), (0, .ref (ad 0)), (1, .int a1), (2, .int a2)]) hx hb dX12_inForce_59 hl (k := 0) rfl (by rw [ex28]; rfl) (by decide) rfl (fun ls hl => ?_)
            refine lv_goto (tgt := 5) hx hb dX12_inForce_62 (by decide) ?_
            exact lp1ih x28 y3 _ _ _ (by omega) (by omega) (by omega) (by omega) (by obtain ⟨i9, hi9, hn9, hB9, hl9⟩ := lp1B; have e9 : i9 = y2.toNatClampNeg := (by have := z_clt (x := y2) rfl (by omega); omega); subst e9; first | exact ⟨_, by have := z_clt (x := y2) rfl (by omega); omega, by have := z_clt (x := y2) rfl (by omega); omega, zi_B_no hB9 (by omega), by have := z_clt (x := y2) rfl (by omega); omega⟩ | exact ⟨_, by have := z_clt (x := y2) rfl (by omega); omega, by have := z_clt (x := y2) rfl (by omega); omega, zi_B_lo (q := y3.toNatClampNeg) hB9 (by have := z_clt (x := y3) rfl (by omega); omega) (by omega), by have := z_clt (x := y2) rfl (by omega); omega⟩) hW hS (lv_sub hl [0, 1, 2, 3, 4] rfl)
          · have g29 := z_f_ngt rfl rfl c24
            have b30 := Int32.toInt_lt x21
            have b31 := Int32.toInt_lt a1
            refine lv_iload_n hx hb dX12_inForce_36 rfl (lv_at hl 1 rfl) ?_
            refine lv_if_lt (tgt := 56) hx hb dX12_inForce_37 (by decide) (fun c32 => ?_) (fun c32 => ?_)
            · have g33 := z_f_lt rfl z_l0 c32
              refine lv_iload hx hb dX12_inForce_56 (lv_at hl 0 rfl) ?_
              refine lv_istore_n (lv' := [(3, .int y2), (4, .int y2), (0, .ref (ad 0)), (1, .int a1), (2, .int a2)]) hx hb dX12_inForce_58 rfl hl (by decide) rfl (fun ls hl => ?_)
              obtain ⟨x34, ex34⟩ : ∃ y : Int32, y = y2 + 1 := ⟨_, rfl⟩
              have tx34 : x34.toInt = y2.toInt + 1 := z_tadd ex34 rfl z_l1 (by omega) (by omega)
              refine lv_iinc (v := x34) (lv' := [(4, .int x34), (3, .int y2), (0, .ref (ad 0)), (1, .int a1), (2, .int a2)]) hx hb dX12_inForce_59 hl (k := 1) rfl (by rw [ex34]; rfl) (by decide) rfl (fun ls hl => ?_)
              refine lv_goto (tgt := 5) hx hb dX12_inForce_62 (by decide) ?_
              exact lp1ih x34 y2 _ _ _ (by omega) (by omega) (by omega) (by omega) (by obtain ⟨i9, hi9, hn9, hB9, hl9⟩ := lp1B; have e9 : i9 = y2.toNatClampNeg := (by have := z_clt (x := y2) rfl (by omega); omega); subst e9; exact ⟨_, by have := z_clt (x := y2) rfl (by omega); omega, by have := z_clt (x := y2) rfl (by omega); omega, zi_B_up hB9 (by omega) (by omega) (by first | exact Or.inl (by omega) | exact Or.inr ⟨y3.toNatClampNeg, by have := z_clt (x := y3) rfl (by omega); omega, by omega⟩) (by have := z_clt (x := y2) rfl (by omega); omega), by have := z_clt (x := y2) rfl (by omega); omega⟩) hW hS (lv_sub hl [0, 1, 2, 3, 4] rfl)
            · have g35 := z_f_nlt rfl z_l0 c32
              refine lv_aload_n hx hb dX12_inForce_40 rfl (lv_at hl 2 rfl) ?_
              refine z_get (T := TX12) (N := 96) (ci := 12) (i := 0) (v := .ref (ad 13)) hx hb hts zj_X12_inForce_X12 hown hK hW rfl rfl 18 (by decide) (hts (.fieldLink RX12 46 "PetrolBoardModel" "textMonth" "[I") (me_s (me_l (List.mem_of_getElem? (i := 2) rfl)))) (fun _ h => h) rfl dX12_inForce_41 ?_
              refine lv_iload hx hb dX12_inForce_44 (lv_at hl 0 rfl) ?_
              refine z_iald (i := 13) hx hb hK hW rfl (z_ix rfl (by omega) (by omega)) dX12_inForce_46 ?_
              refine z_topi (v := x21) ex21.symm ?_
              refine lv_aload_n hx hb dX12_inForce_47 rfl (lv_at hl 2 rfl) ?_
              refine z_get (T := TX12) (N := 96) (ci := 12) (i := 0) (v := .ref (ad 13)) hx hb hts zj_X12_inForce_X12 hown hK hW rfl rfl 18 (by decide) (hts (.fieldLink RX12 46 "PetrolBoardModel" "textMonth" "[I") (me_s (me_l (List.mem_of_getElem? (i := 2) rfl)))) (fun _ h => h) rfl dX12_inForce_48 ?_
              refine lv_iload_n hx hb dX12_inForce_51 rfl (lv_at hl 1 rfl) ?_
              refine z_iald (i := 13) hx hb hK hW rfl (z_ix rfl (by omega) (by omega)) dX12_inForce_52 ?_
              refine lv_topi (fun x36 ex36 => ?_)
              have h37 : zi_km I y3.toNatClampNeg = x36.toInt := by unfold zi_km; rw [ex36]
              have h38 := z_clt (x := y3) rfl (by omega)
              refine lv_icmp_lt (tgt := 59) hx hb dX12_inForce_53 (by decide) (fun c39 => ?_) (fun c39 => ?_)
              · have g40 := z_f_lt rfl rfl c39
                have b41 := Int32.toInt_lt x36
                obtain ⟨x42, ex42⟩ : ∃ y : Int32, y = y2 + 1 := ⟨_, rfl⟩
                have tx42 : x42.toInt = y2.toInt + 1 := z_tadd ex42 rfl z_l1 (by omega) (by omega)
                refine lv_iinc (v := x42) (lv' := [(4, .int x42), (3, .int y3), (0, .ref (ad 0)), (1, .int a1), (2, .int a2)]) hx hb dX12_inForce_59 hl (k := 0) rfl (by rw [ex42]; rfl) (by decide) rfl (fun ls hl => ?_)
                refine lv_goto (tgt := 5) hx hb dX12_inForce_62 (by decide) ?_
                exact lp1ih x42 y3 _ _ _ (by omega) (by omega) (by omega) (by omega) (by obtain ⟨i9, hi9, hn9, hB9, hl9⟩ := lp1B; have e9 : i9 = y2.toNatClampNeg := (by have := z_clt (x := y2) rfl (by omega); omega); subst e9; first | exact ⟨_, by have := z_clt (x := y2) rfl (by omega); omega, by have := z_clt (x := y2) rfl (by omega); omega, zi_B_no hB9 (by omega), by have := z_clt (x := y2) rfl (by omega); omega⟩ | exact ⟨_, by have := z_clt (x := y2) rfl (by omega); omega, by have := z_clt (x := y2) rfl (by omega); omega, zi_B_lo (q := y3.toNatClampNeg) hB9 (by have := z_clt (x := y3) rfl (by omega); omega) (by omega), by have := z_clt (x := y2) rfl (by omega); omega⟩) hW hS (lv_sub hl [0, 1, 2, 3, 4] rfl)
              · have g43 := z_f_nlt rfl rfl c39
                have b44 := Int32.toInt_lt x36
                refine lv_iload hx hb dX12_inForce_56 (lv_at hl 0 rfl) ?_
                refine lv_istore_n (lv' := [(3, .int y2), (4, .int y2), (0, .ref (ad 0)), (1, .int a1), (2, .int a2)]) hx hb dX12_inForce_58 rfl hl (by decide) rfl (fun ls hl => ?_)
                obtain ⟨x45, ex45⟩ : ∃ y : Int32, y = y2 + 1 := ⟨_, rfl⟩
                have tx45 : x45.toInt = y2.toInt + 1 := z_tadd ex45 rfl z_l1 (by omega) (by omega)
                refine lv_iinc (v := x45) (lv' := [(4, .int x45), (3, .int y2), (0, .ref (ad 0)), (1, .int a1), (2, .int a2)]) hx hb dX12_inForce_59 hl (k := 1) rfl (by rw [ex45]; rfl) (by decide) rfl (fun ls hl => ?_)
                refine lv_goto (tgt := 5) hx hb dX12_inForce_62 (by decide) ?_
                exact lp1ih x45 y2 _ _ _ (by omega) (by omega) (by omega) (by omega) (by obtain ⟨i9, hi9, hn9, hB9, hl9⟩ := lp1B; have e9 : i9 = y2.toNatClampNeg := (by have := z_clt (x := y2) rfl (by omega); omega); subst e9; exact ⟨_, by have := z_clt (x := y2) rfl (by omega); omega, by have := z_clt (x := y2) rfl (by omega); omega, zi_B_up hB9 (by omega) (by omega) (by first | exact Or.inl (by omega) | exact Or.inr ⟨y3.toNatClampNeg, by have := z_clt (x := y3) rfl (by omega); omega, by omega⟩) (by have := z_clt (x := y2) rfl (by omega); omega), by have := z_clt (x := y2) rfl (by omega); omega⟩) hW hS (lv_sub hl [0, 1, 2, 3, 4] rfl)
  exact lp1 4294967296 (0) ((-1)) _ _ _ (z_m0u _) (by rw [z_l0]; omega) (by rw [z_lm1]; omega) (by rw [z_lm1]; omega) ⟨0, by decide, by have q9 := hmb.1.1; omega, zi_B_0, by decide⟩ hW hS (lv_sub hl [0, 1, 2, 3, 4] rfl)
