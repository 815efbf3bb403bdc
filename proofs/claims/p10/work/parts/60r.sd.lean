

set_option maxHeartbeats 8000000 in
set_option maxRecDepth 100000 in
theorem sx_X9_numberOf_x (l : Launch) (G : z_G) (ad : Nat → Nat) (c : z_C) (I : z_I) (tf te tn : Nat) (a1 : Int32) (a2 : Int32) (hf : a1.toInt = (tf : Int)) (he : a2.toInt = (te : Int)) (hfn : tf < tn) (hfe : tf < te) (hen : te ≤ tn) (hn5 : tn ≤ 500) : z_M l yX9_numberOf wsX9_numberOf { frames := 2, cells := 0, slots := 0, locals := 40 } [.ref (ad 12), .int a1, .int a2] G (shC c, ad, I, JX, PC c ad) (fun r u1 => u1 = (shC c, ad, I, JX, PC c ad) ∧ (zx_V I tn tf te r.toInt)) 0 0 := by
  intro sz
  refine z_headQ (cc := cX9_numberOf) (maxL := 5) (ret := (some .int)) (by decide) rfl (Nat.le_of_ble_eq_true rfl) ?_
  intro p e s m below meth c0 ls hIn hK hsz hW hl
  obtain ⟨hx, hb, hr, hml, hown, hts, hlocks, hname⟩ := hIn
  subst hsz
  have hown : s.vm.findClass RX9 = some m.cls := hown
  have hA : ∀ q : Nat, s.heap.size ≤ q → z_A (shC c, ad, I, JX, PC c ad) s.heap.size q := fun q h => Or.inr h
  generalize hAe : z_A (shC c, ad, I, JX, PC c ad) s.heap.size = A at *
  have hS : va_S A s.heap s.heap [] := va_S.rf
  have hl : lv_has ls 5 [(0, .ref (ad 12)), (1, .int a1), (2, .int a2)] := hl
  refine lv_iconst (v := 0) hx hb dX9_numberOf_0 (by decide) ?_
  refine lv_istore_n (lv' := [(3, .int 0), (0, .ref (ad 12)), (1, .int a1), (2, .int a2)]) hx hb dX9_numberOf_1 rfl hl (by decide) rfl (fun ls hl => ?_)
  refine lv_iload_n hx hb dX9_numberOf_2 rfl (lv_at hl 2 rfl) ?_
  refine lv_iconst (v := 0) hx hb dX9_numberOf_3 (by decide) ?_
  refine va_mmax (x := a1) (y := 0) hx hb (hml.trans hl.1.symm) hown (hts (.methodLink RX9 128 Lib.Math.max.name) (me_s (me_l (List.mem_of_getElem? (i := 0) rfl)))) (hts (.static Lib.Math.max.name) (me_s (me_l (List.mem_of_getElem? (i := 1) rfl)))) (hts (.initialized "java/lang/Math") (me_s (me_l (List.mem_of_getElem? (i := 2) rfl)))) (hts (.code Lib.Math.max.name Lib.Math.max.code 2 (some .int)) (me_s (me_l (List.mem_of_getElem? (i := 3) rfl)))) (Nat.le_of_ble_eq_true rfl) (Nat.le_of_ble_eq_true rfl) (Nat.le_of_ble_eq_true rfl) (Nat.le_of_ble_eq_true rfl) dX9_numberOf_4 ?_
  refine lv_topi (fun x1 ex1 => ?_)
  have tx1 := z_tmmax ex1 rfl z_l0
  refine lv_istore (lv' := [(4, .int x1), (3, .int 0), (0, .ref (ad 12)), (1, .int a1), (2, .int a2)]) hx hb dX9_numberOf_7 hl (by decide) rfl (fun ls hl => ?_)
  have lp2 : ∀ (f : Nat) (y3 : Int32) (y4 : Int32) (H : Heap) (locs : List Loc) (ls : Array Slot), (2147483647 < y3.toInt + (f : Int)) → (0 ≤ y3.toInt) → (y3.toInt ≤ 500) → (x1.toInt ≤ y3.toInt) → (zx_N I tn tf y3.toInt y4.toInt) → (y3.toInt ≤ (te : Int)) → z_W G A (shC c, ad, I, JX, PC c ad) H → va_S A s.heap H locs → lv_has ls 5 [(4, .int y3), (3, .int y4), (0, .ref (ad 12)), (1, .int a1), (2, .int a2)] → W p l e (headSpec wsX9_numberOf { frames := 2, cells := 0, slots := 0, locals := 40 }).room s m ([.ref (ad 12), .int a1, .int a2] : List Value).toArray below meth c0 H locs 0 0 (MQ below (va_Qi (fun (r : Int32) (u1 : z_U) => u1 = (shC c, ad, I, JX, PC c ad) ∧ (zx_V I tn tf te r.toInt)) (z_B G A) A) ([.ref (ad 12), .int a1, .int a2] : List Value).toArray s 0 0 A) (F0 m 9 ls []) := by
    intro f
    induction f with
    | zero => intro y3 y4 H locs ls lp2m lp2l4 lp2u4 lp2z lp2NN lp2NE hW hS hl; exact absurd lp2m (by have := Int32.toInt_lt y3; have := Int32.le_toInt y3; omega)
    | succ f lp2ih =>
      intro y3 y4 H locs ls lp2m lp2l4 lp2u4 lp2z lp2NN lp2NE hW hS hl
      refine lv_iload hx hb dX9_numberOf_9 (lv_at hl 0 rfl) ?_
      have hb5 := zx_N_b lp2NN
      refine lv_iload_n hx hb dX9_numberOf_11 rfl (lv_at hl 4 rfl) ?_
      refine lv_icmp_ge (tgt := 73) hx hb dX9_numberOf_12 (by decide) (fun c6 => ?_) (fun c6 => ?_)
      · have g7 := z_f_ge rfl rfl c6
        refine lv_iload_n hx hb dX9_numberOf_73 rfl (lv_at hl 1 rfl) ?_
        exact z_iret hx hb hr hK hS (Nat.le_of_ble_eq_true rfl) (Nat.le_of_ble_eq_true rfl) hlocks dX9_numberOf_74 (shC c, ad, I, JX, PC c ad) hW ⟨rfl, (zx_N_e lp2NN (by omega) (by omega))⟩
      · have g8 := z_f_nge rfl rfl c6
        refine lv_iload hx hb dX9_numberOf_15 (lv_at hl 0 rfl) ?_
        refine lv_aload_n hx hb dX9_numberOf_17 rfl (lv_at hl 2 rfl) ?_
        refine z_get (T := TX9) (N := 14) (ci := 9) (i := 12) (v := .ref (ad 13)) hx hb hts zj_X9_numberOf_X9 hown hK hW rfl rfl 0 (by decide) (hts (.fieldLink RX9 9 "PetrolBoard$Reader" "text" "[I") (me_s (me_l (List.mem_of_getElem? (i := 4) rfl)))) (fun _ h => h) rfl dX9_numberOf_18 ?_
        refine z_alen (i := 13) (v := 500) hx hb hK hW rfl (by simp [z_tys]) (by rfl) dX9_numberOf_21 ?_
        refine lv_icmp_ge (tgt := 73) hx hb dX9_numberOf_22 (by decide) (fun c9 => (by have g := z_f_ge rfl z_l500 c9; omega)) (fun c9 => ?_)
        have g10 := z_f_nge rfl z_l500 c9
        refine lv_iload hx hb dX9_numberOf_25 (lv_at hl 0 rfl) ?_
        refine lv_iload_n hx hb dX9_numberOf_27 rfl (lv_at hl 3 rfl) ?_
        refine lv_bipush (v := 6) hx hb dX9_numberOf_28 (by decide) ?_
        refine lv_iadd hx hb dX9_numberOf_30 ?_
        refine lv_topi (fun x11 ex11 => ?_)
        have tx11 : x11.toInt = a1.toInt + 6 := z_tadd ex11 rfl z_l6 (by omega) (by omega)
        refine lv_icmp_ge (tgt := 73) hx hb dX9_numberOf_31 (by decide) (fun c12 => ?_) (fun c12 => ?_)
        · have g13 := z_f_ge rfl rfl c12
          refine lv_iload_n hx hb dX9_numberOf_73 rfl (lv_at hl 1 rfl) ?_
          exact z_iret hx hb hr hK hS (Nat.le_of_ble_eq_true rfl) (Nat.le_of_ble_eq_true rfl) hlocks dX9_numberOf_74 (shC c, ad, I, JX, PC c ad) hW ⟨rfl, (zx_N_e lp2NN (by omega) (by omega))⟩
        · have g14 := z_f_nge rfl rfl c12
          refine lv_aload_n hx hb dX9_numberOf_34 rfl (lv_at hl 2 rfl) ?_
          refine z_get (T := TX9) (N := 14) (ci := 9) (i := 12) (v := .ref (ad 13)) hx hb hts zj_X9_numberOf_X9 hown hK hW rfl rfl 0 (by decide) (hts (.fieldLink RX9 9 "PetrolBoard$Reader" "text" "[I") (me_s (me_l (List.mem_of_getElem? (i := 4) rfl)))) (fun _ h => h) rfl dX9_numberOf_35 ?_
          refine lv_iload hx hb dX9_numberOf_38 (lv_at hl 0 rfl) ?_
          refine z_iald (i := 13) hx hb hK hW rfl (z_ix rfl (by omega) (by omega)) dX9_numberOf_40 ?_
          refine lv_topi (fun x15 ex15 => ?_)
          have hxx15 : x15.toInt = zx_h I tn y3.toNatClampNeg := zx_ld ex15 (by omega) (by omega)
          have hkx15 : (y3.toNatClampNeg : Int) = y3.toInt := z_clt rfl (by omega)
          refine z_ci hW hS hA (va_runS (As := [.int x15]) (rest := []) ⟨hx, hb, hml, hown, hts⟩ (sx_X9_isDigit_x l G ad c I  x15 _) (va_cwS 1 hts gX9_numberOf_X9_isDigit rfl rfl rfl (by decide +kernel) ⟨Nat.le_of_ble_eq_true rfl, Nat.le_of_ble_eq_true rfl⟩) (z_preS hK hW) rfl rfl hl.1 rfl (lv_room (Nat.le_of_ble_eq_true rfl)) dX9_numberOf_41 ⟨Nat.le_of_ble_eq_true rfl, Nat.le_of_ble_eq_true rfl⟩) (fun r u1 H locs hp hW hS => ?_)
          obtain ⟨e9, hp⟩ := hp
          rw [e9] at hW
          rcases hp with ⟨rfl, h16⟩ | ⟨rfl, h16⟩
          · have h17 := h16
            unfold zp_dg at h17
            refine lv_if_eq (tgt := 65) hx hb dX9_numberOf_44 (by decide) (fun c18 => absurd c18 (by decide)) (fun c18 => ?_)
            refine lv_iload_n hx hb dX9_numberOf_47 rfl (lv_at hl 1 rfl) ?_
            refine lv_bipush (v := 10) hx hb dX9_numberOf_48 (by decide) ?_
            refine lv_imul hx hb dX9_numberOf_50 ?_
            refine lv_topi (fun x19 ex19 => ?_)
            have tx19 : x19.toInt = y4.toInt * 10 := z_tmul ex19 rfl z_l10 (by omega) (by omega)
            refine lv_aload_n hx hb dX9_numberOf_51 rfl (lv_at hl 2 rfl) ?_
            refine z_get (T := TX9) (N := 14) (ci := 9) (i := 12) (v := .ref (ad 13)) hx hb hts zj_X9_numberOf_X9 hown hK hW rfl rfl 0 (by decide) (hts (.fieldLink RX9 9 "PetrolBoard$Reader" "text" "[I") (me_s (me_l (List.mem_of_getElem? (i := 4) rfl)))) (fun _ h => h) rfl dX9_numberOf_52 ?_
            refine lv_iload hx hb dX9_numberOf_55 (lv_at hl 0 rfl) ?_
            refine z_iald (i := 13) hx hb hK hW rfl (z_ix rfl (by omega) (by omega)) dX9_numberOf_57 ?_
            refine z_topi (v := x15) ex15.symm ?_
            refine lv_iadd hx hb dX9_numberOf_58 ?_
            refine lv_topi (fun x20 ex20 => ?_)
            have tx20 : x20.toInt = x19.toInt + x15.toInt := z_tadd ex20 rfl rfl (by omega) (by omega)
            refine lv_bipush (v := 48) hx hb dX9_numberOf_59 (by decide) ?_
            refine lv_isub hx hb dX9_numberOf_61 ?_
            refine lv_topi (fun x21 ex21 => ?_)
            have tx21 : x21.toInt = x20.toInt - 48 := z_tsub ex21 rfl z_l48 (by omega) (by omega)
            refine lv_goto (tgt := 66) hx hb dX9_numberOf_62 (by decide) ?_
            refine lv_istore_n (lv' := [(3, .int x21), (4, .int y3), (0, .ref (ad 12)), (1, .int a1), (2, .int a2)]) hx hb dX9_numberOf_66 rfl hl (by decide) rfl (fun ls hl => ?_)
            obtain ⟨x22, ex22⟩ : ∃ y : Int32, y = y3 + 1 := ⟨_, rfl⟩
            have tx22 : x22.toInt = y3.toInt + 1 := z_tadd ex22 rfl z_l1 (by omega) (by omega)
            refine lv_iinc (v := x22) (lv' := [(4, .int x22), (3, .int x21), (0, .ref (ad 12)), (1, .int a1), (2, .int a2)]) hx hb dX9_numberOf_67 hl (k := 1) rfl (by rw [ex22]; rfl) (by decide) rfl (fun ls hl => ?_)
            refine lv_goto (tgt := 9) hx hb dX9_numberOf_70 (by decide) ?_
            exact lp2ih x22 x21 _ _ _ (by omega) (by omega) (by omega) (by omega) (zx_N_d lp2NN (by omega) hkx15 hxx15 h16 (by omega) (by have q9 : x15.toInt = x15.toInt := (hxx15).trans hxx15.symm; omega)) (by omega) hW hS (lv_sub hl [0, 1, 2, 3, 4] rfl)
          · have h23 := h16
            refine lv_if_eq (tgt := 65) hx hb dX9_numberOf_44 (by decide) (fun c24 => ?_) (fun c24 => absurd (by decide) c24)
            refine lv_iconst (v := 0) hx hb dX9_numberOf_65 (by decide) ?_
            refine lv_istore_n (lv' := [(3, .int 0), (4, .int y3), (0, .ref (ad 12)), (1, .int a1), (2, .int a2)]) hx hb dX9_numberOf_66 rfl hl (by decide) rfl (fun ls hl => ?_)
            obtain ⟨x25, ex25⟩ : ∃ y : Int32, y = y3 + 1 := ⟨_, rfl⟩
            have tx25 : x25.toInt = y3.toInt + 1 := z_tadd ex25 rfl z_l1 (by omega) (by omega)
            refine lv_iinc (v := x25) (lv' := [(4, .int x25), (3, .int 0), (0, .ref (ad 12)), (1, .int a1), (2, .int a2)]) hx hb dX9_numberOf_67 hl (k := 1) rfl (by rw [ex25]; rfl) (by decide) rfl (fun ls hl => ?_)
            refine lv_goto (tgt := 9) hx hb dX9_numberOf_70 (by decide) ?_
            exact lp2ih x25 (0) _ _ _ (by omega) (by omega) (by omega) (by omega) (zx_N_n lp2NN (by omega) hkx15 hxx15 (by have q9 := h16; unfold zp_dg at q9; omega) (by omega) (by decide)) (by omega) hW hS (lv_sub hl [0, 1, 2, 3, 4] rfl)
  exact lp2 4294967296 x1 (0) _ _ _ (z_m0u _) (by omega) (by omega) (by omega) (zx_N_0 (by omega) (by decide)) (by omega) hW hS (lv_sub hl [0, 1, 2, 3, 4] rfl)
set_option maxHeartbeats 8000000 in
set_option maxRecDepth 100000 in
theorem sx_X9_wordText_x (l : Launch) (G : z_G) (adK adV : Nat → Nat) (ad : Nat → Nat) (c : z_C) (I : z_I) (a1 : Int32) (q1 : 300 ≤ a1.toInt ∧ a1.toInt ≤ 320) : z_MqN (z_Ck adK adV) l yX9_wordText wsX9_wordText { frames := 1, cells := 0, slots := 0, locals := 12 } [.int a1] G (shC c, ad, I, JX, PC c ad) (fun r u1 => u1 = (shC c, ad, I, JX, PC c ad) ∧ (∃ i, i < 21 ∧ r = some (adK i) ∧ (i : Int) = a1.toInt - 300)) 0 0 := by
  intro sz
  refine z_headN (cc := cX9_wordText) (maxL := 1) (ret := (some (.object "java/lang/String"))) (by decide) rfl (Nat.le_of_ble_eq_true rfl) ?_
  intro p e s m below meth c0 ls hIn hK hsz hW hl hKn
  obtain ⟨hx, hb, hr, hml, hown, hts, hlocks, hname⟩ := hIn
  subst hsz
  have hown : s.vm.findClass RX9 = some m.cls := hown
  have hA : ∀ q : Nat, s.heap.size ≤ q → z_A (shC c, ad, I, JX, PC c ad) s.heap.size q := fun q h => Or.inr h
  generalize hAe : z_A (shC c, ad, I, JX, PC c ad) s.heap.size = A at *
  have hS : va_S A s.heap s.heap [] := va_S.rf
  have hl : lv_has ls 1 [(0, .int a1)] := hl
  refine lv_iload_n hx hb dX9_wordText_0 rfl (lv_at hl 0 rfl) ?_
  by_cases q1 : a1 = 300
  · refine lv_tableIn (tgt := 96) hx hb dX9_wordText_1 (by rw [q1]; decide) (by rw [q1]; decide) (by rw [q1]; rfl) (by decide) ?_
    refine va_ldcS hx hb hown (hKn.2.1 0 (by decide)) dX9_wordText_96 ?_
    exact z_qretO hx hb hr hK hS (Nat.le_of_ble_eq_true rfl) (Nat.le_of_ble_eq_true rfl) hlocks dX9_wordText_98 (shC c, ad, I, JX, PC c ad) hW ⟨rfl, ⟨0, by decide, rfl, (by have q9 := congrArg Int32.toInt ‹a1 = 300›; have := z_l300; omega)⟩⟩
  by_cases q2 : a1 = 301
  · refine lv_tableIn (tgt := 99) hx hb dX9_wordText_1 (by rw [q2]; decide) (by rw [q2]; decide) (by rw [q2]; rfl) (by decide) ?_
    refine va_ldcS hx hb hown (hKn.2.1 1 (by decide)) dX9_wordText_99 ?_
    exact z_qretO hx hb hr hK hS (Nat.le_of_ble_eq_true rfl) (Nat.le_of_ble_eq_true rfl) hlocks dX9_wordText_101 (shC c, ad, I, JX, PC c ad) hW ⟨rfl, ⟨1, by decide, rfl, (by have q9 := congrArg Int32.toInt ‹a1 = 301›; have := z_l301; omega)⟩⟩
  by_cases q3 : a1 = 302
  · refine lv_tableIn (tgt := 102) hx hb dX9_wordText_1 (by rw [q3]; decide) (by rw [q3]; decide) (by rw [q3]; rfl) (by decide) ?_
    refine va_ldcS hx hb hown (hKn.2.1 2 (by decide)) dX9_wordText_102 ?_
    exact z_qretO hx hb hr hK hS (Nat.le_of_ble_eq_true rfl) (Nat.le_of_ble_eq_true rfl) hlocks dX9_wordText_104 (shC c, ad, I, JX, PC c ad) hW ⟨rfl, ⟨2, by decide, rfl, (by have q9 := congrArg Int32.toInt ‹a1 = 302›; have := z_l302; omega)⟩⟩
  by_cases q4 : a1 = 303
  · refine lv_tableIn (tgt := 105) hx hb dX9_wordText_1 (by rw [q4]; decide) (by rw [q4]; decide) (by rw [q4]; rfl) (by decide) ?_
    refine va_ldcS hx hb hown (hKn.2.1 3 (by decide)) dX9_wordText_105 ?_
    exact z_qretO hx hb hr hK hS (Nat.le_of_ble_eq_true rfl) (Nat.le_of_ble_eq_true rfl) hlocks dX9_wordText_107 (shC c, ad, I, JX, PC c ad) hW ⟨rfl, ⟨3, by decide, rfl, (by have q9 := congrArg Int32.toInt ‹a1 = 303›; have := z_l303; omega)⟩⟩
  by_cases q5 : a1 = 304
  · refine lv_tableIn (tgt := 108) hx hb dX9_wordText_1 (by rw [q5]; decide) (by rw [q5]; decide) (by rw [q5]; rfl) (by decide) ?_
    refine va_ldcS hx hb hown (hKn.2.1 4 (by decide)) dX9_wordText_108 ?_
    exact z_qretO hx hb hr hK hS (Nat.le_of_ble_eq_true rfl) (Nat.le_of_ble_eq_true rfl) hlocks dX9_wordText_110 (shC c, ad, I, JX, PC c ad) hW ⟨rfl, ⟨4, by decide, rfl, (by have q9 := congrArg Int32.toInt ‹a1 = 304›; have := z_l304; omega)⟩⟩
  by_cases q6 : a1 = 305
  · refine lv_tableIn (tgt := 111) hx hb dX9_wordText_1 (by rw [q6]; decide) (by rw [q6]; decide) (by rw [q6]; rfl) (by decide) ?_
    refine va_ldcS hx hb hown (hKn.2.1 5 (by decide)) dX9_wordText_111 ?_
    exact z_qretO hx hb hr hK hS (Nat.le_of_ble_eq_true rfl) (Nat.le_of_ble_eq_true rfl) hlocks dX9_wordText_113 (shC c, ad, I, JX, PC c ad) hW ⟨rfl, ⟨5, by decide, rfl, (by have q9 := congrArg Int32.toInt ‹a1 = 305›; have := z_l305; omega)⟩⟩
  by_cases q7 : a1 = 306
  · refine lv_tableIn (tgt := 114) hx hb dX9_wordText_1 (by rw [q7]; decide) (by rw [q7]; decide) (by rw [q7]; rfl) (by decide) ?_
    refine va_ldcS hx hb hown (hKn.2.1 6 (by decide)) dX9_wordText_114 ?_
    exact z_qretO hx hb hr hK hS (Nat.le_of_ble_eq_true rfl) (Nat.le_of_ble_eq_true rfl) hlocks dX9_wordText_116 (shC c, ad, I, JX, PC c ad) hW ⟨rfl, ⟨6, by decide, rfl, (by have q9 := congrArg Int32.toInt ‹a1 = 306›; have := z_l306; omega)⟩⟩
  by_cases q8 : a1 = 307
  · refine lv_tableIn (tgt := 117) hx hb dX9_wordText_1 (by rw [q8]; decide) (by rw [q8]; decide) (by rw [q8]; rfl) (by decide) ?_
    refine va_ldcS hx hb hown (hKn.2.1 7 (by decide)) dX9_wordText_117 ?_
    exact z_qretO hx hb hr hK hS (Nat.le_of_ble_eq_true rfl) (Nat.le_of_ble_eq_true rfl) hlocks dX9_wordText_119 (shC c, ad, I, JX, PC c ad) hW ⟨rfl, ⟨7, by decide, rfl, (by have q9 := congrArg Int32.toInt ‹a1 = 307›; have := z_l307; omega)⟩⟩
  by_cases q9 : a1 = 308
  · refine lv_tableIn (tgt := 120) hx hb dX9_wordText_1 (by rw [q9]; decide) (by rw [q9]; decide) (by rw [q9]; rfl) (by decide) ?_
    refine va_ldcS hx hb hown (hKn.2.1 8 (by decide)) dX9_wordText_120 ?_
    exact z_qretO hx hb hr hK hS (Nat.le_of_ble_eq_true rfl) (Nat.le_of_ble_eq_true rfl) hlocks dX9_wordText_122 (shC c, ad, I, JX, PC c ad) hW ⟨rfl, ⟨8, by decide, rfl, (by have q9 := congrArg Int32.toInt ‹a1 = 308›; have := z_l308; omega)⟩⟩
  by_cases q10 : a1 = 309
  · refine lv_tableIn (tgt := 123) hx hb dX9_wordText_1 (by rw [q10]; decide) (by rw [q10]; decide) (by rw [q10]; rfl) (by decide) ?_
    refine va_ldcS hx hb hown (hKn.2.1 9 (by decide)) dX9_wordText_123 ?_
    exact z_qretO hx hb hr hK hS (Nat.le_of_ble_eq_true rfl) (Nat.le_of_ble_eq_true rfl) hlocks dX9_wordText_125 (shC c, ad, I, JX, PC c ad) hW ⟨rfl, ⟨9, by decide, rfl, (by have q9 := congrArg Int32.toInt ‹a1 = 309›; have := z_l309; omega)⟩⟩
  by_cases q11 : a1 = 310
  · refine lv_tableIn (tgt := 126) hx hb dX9_wordText_1 (by rw [q11]; decide) (by rw [q11]; decide) (by rw [q11]; rfl) (by decide) ?_
    refine va_ldcS hx hb hown (hKn.2.1 10 (by decide)) dX9_wordText_126 ?_
    exact z_qretO hx hb hr hK hS (Nat.le_of_ble_eq_true rfl) (Nat.le_of_ble_eq_true rfl) hlocks dX9_wordText_128 (shC c, ad, I, JX, PC c ad) hW ⟨rfl, ⟨10, by decide, rfl, (by have q9 := congrArg Int32.toInt ‹a1 = 310›; have := z_l310; omega)⟩⟩
  by_cases q12 : a1 = 311
  · refine lv_tableIn (tgt := 129) hx hb dX9_wordText_1 (by rw [q12]; decide) (by rw [q12]; decide) (by rw [q12]; rfl) (by decide) ?_
    refine va_ldcS hx hb hown (hKn.2.1 11 (by decide)) dX9_wordText_129 ?_
    exact z_qretO hx hb hr hK hS (Nat.le_of_ble_eq_true rfl) (Nat.le_of_ble_eq_true rfl) hlocks dX9_wordText_131 (shC c, ad, I, JX, PC c ad) hW ⟨rfl, ⟨11, by decide, rfl, (by have q9 := congrArg Int32.toInt ‹a1 = 311›; have := z_l311; omega)⟩⟩
  by_cases q13 : a1 = 312
  · refine lv_tableIn (tgt := 132) hx hb dX9_wordText_1 (by rw [q13]; decide) (by rw [q13]; decide) (by rw [q13]; rfl) (by decide) ?_
    refine va_ldcS hx hb hown (hKn.2.1 12 (by decide)) dX9_wordText_132 ?_
    exact z_qretO hx hb hr hK hS (Nat.le_of_ble_eq_true rfl) (Nat.le_of_ble_eq_true rfl) hlocks dX9_wordText_134 (shC c, ad, I, JX, PC c ad) hW ⟨rfl, ⟨12, by decide, rfl, (by have q9 := congrArg Int32.toInt ‹a1 = 312›; have := z_l312; omega)⟩⟩
  by_cases q14 : a1 = 313
  · refine lv_tableIn (tgt := 135) hx hb dX9_wordText_1 (by rw [q14]; decide) (by rw [q14]; decide) (by rw [q14]; rfl) (by decide) ?_
    refine va_ldcS hx hb hown (hKn.2.1 13 (by decide)) dX9_wordText_135 ?_
    exact z_qretO hx hb hr hK hS (Nat.le_of_ble_eq_true rfl) (Nat.le_of_ble_eq_true rfl) hlocks dX9_wordText_137 (shC c, ad, I, JX, PC c ad) hW ⟨rfl, ⟨13, by decide, rfl, (by have q9 := congrArg Int32.toInt ‹a1 = 313›; have := z_l313; omega)⟩⟩
  by_cases q15 : a1 = 314
  · refine lv_tableIn (tgt := 138) hx hb dX9_wordText_1 (by rw [q15]; decide) (by rw [q15]; decide) (by rw [q15]; rfl) (by decide) ?_
    refine va_ldcS hx hb hown (hKn.2.1 14 (by decide)) dX9_wordText_138 ?_
    exact z_qretO hx hb hr hK hS (Nat.le_of_ble_eq_true rfl) (Nat.le_of_ble_eq_true rfl) hlocks dX9_wordText_140 (shC c, ad, I, JX, PC c ad) hW ⟨rfl, ⟨14, by decide, rfl, (by have q9 := congrArg Int32.toInt ‹a1 = 314›; have := z_l314; omega)⟩⟩
  by_cases q16 : a1 = 315
  · refine lv_tableIn (tgt := 141) hx hb dX9_wordText_1 (by rw [q16]; decide) (by rw [q16]; decide) (by rw [q16]; rfl) (by decide) ?_
    refine va_ldcS hx hb hown (hKn.2.1 15 (by decide)) dX9_wordText_141 ?_
    exact z_qretO hx hb hr hK hS (Nat.le_of_ble_eq_true rfl) (Nat.le_of_ble_eq_true rfl) hlocks dX9_wordText_143 (shC c, ad, I, JX, PC c ad) hW ⟨rfl, ⟨15, by decide, rfl, (by have q9 := congrArg Int32.toInt ‹a1 = 315›; have := z_l315; omega)⟩⟩
  by_cases q17 : a1 = 316
  · refine lv_tableIn (tgt := 144) hx hb dX9_wordText_1 (by rw [q17]; decide) (by rw [q17]; decide) (by rw [q17]; rfl) (by decide) ?_
    refine va_ldcS hx hb hown (hKn.2.1 16 (by decide)) dX9_wordText_144 ?_
    exact z_qretO hx hb hr hK hS (Nat.le_of_ble_eq_true rfl) (Nat.le_of_ble_eq_true rfl) hlocks dX9_wordText_146 (shC c, ad, I, JX, PC c ad) hW ⟨rfl, ⟨16, by decide, rfl, (by have q9 := congrArg Int32.toInt ‹a1 = 316›; have := z_l316; omega)⟩⟩
  by_cases q18 : a1 = 317
  · refine lv_tableIn (tgt := 147) hx hb dX9_wordText_1 (by rw [q18]; decide) (by rw [q18]; decide) (by rw [q18]; rfl) (by decide) ?_
    refine va_ldcS hx hb hown (hKn.2.1 17 (by decide)) dX9_wordText_147 ?_
    exact z_qretO hx hb hr hK hS (Nat.le_of_ble_eq_true rfl) (Nat.le_of_ble_eq_true rfl) hlocks dX9_wordText_149 (shC c, ad, I, JX, PC c ad) hW ⟨rfl, ⟨17, by decide, rfl, (by have q9 := congrArg Int32.toInt ‹a1 = 317›; have := z_l317; omega)⟩⟩
  by_cases q19 : a1 = 318
  · refine lv_tableIn (tgt := 150) hx hb dX9_wordText_1 (by rw [q19]; decide) (by rw [q19]; decide) (by rw [q19]; rfl) (by decide) ?_
    refine va_ldcS hx hb hown (hKn.2.1 18 (by decide)) dX9_wordText_150 ?_
    exact z_qretO hx hb hr hK hS (Nat.le_of_ble_eq_true rfl) (Nat.le_of_ble_eq_true rfl) hlocks dX9_wordText_152 (shC c, ad, I, JX, PC c ad) hW ⟨rfl, ⟨18, by decide, rfl, (by have q9 := congrArg Int32.toInt ‹a1 = 318›; have := z_l318; omega)⟩⟩
  by_cases q20 : a1 = 319
  · refine lv_tableIn (tgt := 153) hx hb dX9_wordText_1 (by rw [q20]; decide) (by rw [q20]; decide) (by rw [q20]; rfl) (by decide) ?_
    refine va_ldcS hx hb hown (hKn.2.1 19 (by decide)) dX9_wordText_153 ?_
    exact z_qretO hx hb hr hK hS (Nat.le_of_ble_eq_true rfl) (Nat.le_of_ble_eq_true rfl) hlocks dX9_wordText_155 (shC c, ad, I, JX, PC c ad) hW ⟨rfl, ⟨19, by decide, rfl, (by have q9 := congrArg Int32.toInt ‹a1 = 319›; have := z_l319; omega)⟩⟩
  have q1 := z_f_ne rfl z_l300 q1
  have q2 := z_f_ne rfl z_l301 q2
  have q3 := z_f_ne rfl z_l302 q3
  have q4 := z_f_ne rfl z_l303 q4
  have q5 := z_f_ne rfl z_l304 q5
  have q6 := z_f_ne rfl z_l305 q6
  have q7 := z_f_ne rfl z_l306 q7
  have q8 := z_f_ne rfl z_l307 q8
  have q9 := z_f_ne rfl z_l308 q9
  have q10 := z_f_ne rfl z_l309 q10
  have q11 := z_f_ne rfl z_l310 q11
  have q12 := z_f_ne rfl z_l311 q12
  have q13 := z_f_ne rfl z_l312 q13
  have q14 := z_f_ne rfl z_l313 q14
  have q15 := z_f_ne rfl z_l314 q15
  have q16 := z_f_ne rfl z_l315 q16
  have q17 := z_f_ne rfl z_l316 q17
  have q18 := z_f_ne rfl z_l317 q18
  have q19 := z_f_ne rfl z_l318 q19
  have q20 := z_f_ne rfl z_l319 q20
  refine lv_tableOut (tgt := 156) hx hb dX9_wordText_1 (by omega) (by decide) ?_
  refine va_ldcS hx hb hown (hKn.2.1 20 (by decide)) dX9_wordText_156 ?_
  exact z_qretO hx hb hr hK hS (Nat.le_of_ble_eq_true rfl) (Nat.le_of_ble_eq_true rfl) hlocks dX9_wordText_158 (shC c, ad, I, JX, PC c ad) hW ⟨rfl, ⟨20, by decide, rfl, (by omega)⟩⟩
set_option maxHeartbeats 8000000 in
set_option maxRecDepth 100000 in
theorem sx_X9_isWord_x (l : Launch) (G : z_G) (adK adV : Nat → Nat) (ad : Nat → Nat) (c : z_C) (I : z_I) (i : Nat) (tf te tn : Nat) (a2 : Int32) (a3 : Int32) (hi : i < 21) (hf : a2.toInt = (tf : Int)) (he : a3.toInt = (te : Int)) (hfn : tf < tn) (hfe : tf < te) (hen : te ≤ tn) (hn5 : tn ≤ 500) : z_MN (z_Ck adK adV) l yX9_isWord wsX9_isWord { frames := 5, cells := 0, slots := 0, locals := 97 } [.ref (ad 12), .ref (adK i), .int a2, .int a3] G (shC c, ad, I, JX, PC c ad) (fun r u1 => u1 = (shC c, ad, I, JX, PC c ad) ∧ ((r = 1 ∧ zp_mw (zx_h I tn) tf te (zp_W.getD i [])) ∨ (r = 0 ∧ ¬ zp_mw (zx_h I tn) tf te (zp_W.getD i [])))) 0 0 := by
  intro sz
  refine z_headN (cc := cX9_isWord) (maxL := 5) (ret := (some .boolean)) (by decide) rfl (Nat.le_of_ble_eq_true rfl) ?_
  intro p e s m below meth c0 ls hIn hK hsz hW hl hKn
  obtain ⟨hx, hb, hr, hml, hown, hts, hlocks, hname⟩ := hIn
  subst hsz
  have hown : s.vm.findClass RX9 = some m.cls := hown
  have hA : ∀ q : Nat, s.heap.size ≤ q → z_A (shC c, ad, I, JX, PC c ad) s.heap.size q := fun q h => Or.inr h
  generalize hAe : z_A (shC c, ad, I, JX, PC c ad) s.heap.size = A at *
  have hS : va_S A s.heap s.heap [] := va_S.rf
  have hl : lv_has ls 5 [(0, .ref (ad 12)), (1, .ref (adK i)), (2, .int a2), (3, .int a3)] := hl
  have hl6 := z_lenB hi
  refine lv_iload_n hx hb dX9_isWord_0 rfl (lv_at hl 2 rfl) ?_
  refine lv_if_lt (tgt := 23) hx hb dX9_isWord_1 (by decide) (fun c1 => (by have g := z_f_lt rfl z_l0 c1; omega)) (fun c1 => ?_)
  have g2 := z_f_nlt rfl z_l0 c1
  refine lv_iload_n hx hb dX9_isWord_4 rfl (lv_at hl 3 rfl) ?_
  refine lv_aload_n hx hb dX9_isWord_5 rfl (lv_at hl 0 rfl) ?_
  refine z_get (T := TX9) (N := 14) (ci := 9) (i := 12) (v := .ref (ad 13)) hx hb hts zj_X9_isWord_X9 hown hK hW rfl rfl 0 (by decide) (hts (.fieldLink RX9 9 "PetrolBoard$Reader" "text" "[I") (me_s (me_l (me_l (List.mem_of_getElem? (i := 0) rfl))))) (fun _ h => h) rfl dX9_isWord_6 ?_
  refine z_alen (i := 13) (v := 500) hx hb hK hW rfl (by simp [z_tys]) (by rfl) dX9_isWord_9 ?_
  refine lv_icmp_gt (tgt := 23) hx hb dX9_isWord_10 (by decide) (fun c3 => (by have g := z_f_gt rfl z_l500 c3; omega)) (fun c3 => ?_)
  have g4 := z_f_ngt rfl z_l500 c3
  refine lv_aload_n hx hb dX9_isWord_13 rfl (lv_at hl 1 rfl) ?_
  refine z_ci hW hS hA (va_runV (As := []) (rest := []) ⟨hx, hb, hml, hown, hts⟩ (sx_J0_length_8abf5 l G adK adV ad I (shC c, ad, I, JX, PC c ad) i  hi  _) (cwV 0 hts gX9_isWord_J0_length_8abf5 rfl rfl rfl (by decide +kernel) ⟨Nat.le_of_ble_eq_true rfl, Nat.le_of_ble_eq_true rfl⟩) (z_preKN (z_Ck.nice adK adV) hK hW hS hA hKn (vk_recv hKn.1 hi hS)) rfl rfl hl.1 rfl (lv_room (Nat.le_of_ble_eq_true rfl)) dX9_isWord_14 ⟨Nat.le_of_ble_eq_true rfl, Nat.le_of_ble_eq_true rfl⟩) (fun r u1 H locs hp hW hS => ?_)
  obtain ⟨e9, hp⟩ := hp
  rw [e9] at hW
  rw [hp]
  have h5 := z_lenB hi
  refine lv_iload_n hx hb dX9_isWord_17 rfl (lv_at hl 3 rfl) ?_
  refine lv_iload_n hx hb dX9_isWord_18 rfl (lv_at hl 2 rfl) ?_
  refine lv_isub hx hb dX9_isWord_19 ?_
  refine lv_topi (fun x6 ex6 => ?_)
  have tx6 : x6.toInt = a3.toInt - a2.toInt := z_tsub ex6 rfl rfl (by omega) (by omega)
  refine lv_icmp_eq (tgt := 25) hx hb dX9_isWord_20 (by decide) (fun c7 => ?_) (fun c7 => ?_)
  · have g8 := z_f_eq (z_lenT hi) rfl c7
    refine lv_iconst (v := 0) hx hb dX9_isWord_25 (by decide) ?_
    refine lv_istore (lv' := [(4, .int 0), (0, .ref (ad 12)), (1, .ref (adK i)), (2, .int a2), (3, .int a3)]) hx hb dX9_isWord_26 hl (by decide) rfl (fun ls hl => ?_)
    have lp9 : ∀ (f : Nat) (y10 : Int32) (H : Heap) (locs : List Loc) (ls : Array Slot), (2147483647 < y10.toInt + (f : Int)) → (0 ≤ y10.toInt) → (y10.toInt ≤ 6) → (zx_pm I tn tf i y10.toInt) → (y10.toInt ≤ ((z_lenS.getD i 0 : Nat) : Int)) → z_W G A (shC c, ad, I, JX, PC c ad) H → va_S A s.heap H locs → lv_has ls 5 [(4, .int y10), (0, .ref (ad 12)), (1, .ref (adK i)), (2, .int a2), (3, .int a3)] → W p l e (headSpec wsX9_isWord { frames := 5, cells := 0, slots := 0, locals := 97 }).room s m ([.ref (ad 12), .ref (adK i), .int a2, .int a3] : List Value).toArray below meth c0 H locs 0 0 (MQ below (va_Qi (fun (r : Int32) (u1 : z_U) => u1 = (shC c, ad, I, JX, PC c ad) ∧ ((r = 1 ∧ zp_mw (zx_h I tn) tf te (zp_W.getD i [])) ∨ (r = 0 ∧ ¬ zp_mw (zx_h I tn) tf te (zp_W.getD i [])))) (z_B G A) A) ([.ref (ad 12), .ref (adK i), .int a2, .int a3] : List Value).toArray s 0 0 A) (F0 m 28 ls []) := by
      intro f
      induction f with
      | zero => intro y10 H locs ls lp9m lp9l4 lp9u4 lp9PM lp9PL hW hS hl; exact absurd lp9m (by have := Int32.toInt_lt y10; have := Int32.le_toInt y10; omega)
      | succ f lp9ih =>
        intro y10 H locs ls lp9m lp9l4 lp9u4 lp9PM lp9PL hW hS hl
        refine lv_iload hx hb dX9_isWord_28 (lv_at hl 0 rfl) ?_
        refine lv_aload_n hx hb dX9_isWord_30 rfl (lv_at hl 2 rfl) ?_
        refine z_ci hW hS hA (va_runV (As := []) (rest := [.int y10]) ⟨hx, hb, hml, hown, hts⟩ (sx_J0_length_8abf5 l G adK adV ad I (shC c, ad, I, JX, PC c ad) i  hi  _) (cwV 0 hts gX9_isWord_J0_length_8abf5 rfl rfl rfl (by decide +kernel) ⟨Nat.le_of_ble_eq_true rfl, Nat.le_of_ble_eq_true rfl⟩) (z_preKN (z_Ck.nice adK adV) hK hW hS hA hKn (vk_recv hKn.1 hi hS)) rfl rfl hl.1 rfl (lv_room (Nat.le_of_ble_eq_true rfl)) dX9_isWord_31 ⟨Nat.le_of_ble_eq_true rfl, Nat.le_of_ble_eq_true rfl⟩) (fun r u1 H locs hp hW hS => ?_)
        obtain ⟨e9, hp⟩ := hp
        rw [e9] at hW
        rw [hp]
        have h11 := z_lenB hi
        refine lv_icmp_ge (tgt := 75) hx hb dX9_isWord_34 (by decide) (fun c12 => ?_) (fun c12 => ?_)
        · have g13 := z_f_ge rfl (z_lenT hi) c12
          refine lv_iconst (v := 1) hx hb dX9_isWord_75 (by decide) ?_
          exact z_zret hx hb hr (by decide) hK hS (Nat.le_of_ble_eq_true rfl) (Nat.le_of_ble_eq_true rfl) hlocks dX9_isWord_76 (shC c, ad, I, JX, PC c ad) hW ⟨rfl, (Or.inl ⟨rfl, zx_mw hi lp9PM (by omega) (by omega)⟩)⟩
        · have g14 := z_f_nge rfl (z_lenT hi) c12
          refine lv_iload_n hx hb dX9_isWord_37 rfl (lv_at hl 3 rfl) ?_
          refine lv_iload hx hb dX9_isWord_38 (lv_at hl 0 rfl) ?_
          refine lv_iadd hx hb dX9_isWord_40 ?_
          refine lv_topi (fun x15 ex15 => ?_)
          have tx15 : x15.toInt = a2.toInt + y10.toInt := z_tadd ex15 rfl rfl (by omega) (by omega)
          refine lv_aload_n hx hb dX9_isWord_41 rfl (lv_at hl 1 rfl) ?_
          refine z_get (T := TX9) (N := 14) (ci := 9) (i := 12) (v := .ref (ad 13)) hx hb hts zj_X9_isWord_X9 hown hK hW rfl rfl 0 (by decide) (hts (.fieldLink RX9 9 "PetrolBoard$Reader" "text" "[I") (me_s (me_l (me_l (List.mem_of_getElem? (i := 0) rfl))))) (fun _ h => h) rfl dX9_isWord_42 ?_
          refine z_alen (i := 13) (v := 500) hx hb hK hW rfl (by simp [z_tys]) (by rfl) dX9_isWord_45 ?_
          refine lv_icmp_ge (tgt := 75) hx hb dX9_isWord_46 (by decide) (fun c16 => ?_) (fun c16 => ?_)
          · have g17 := z_f_ge rfl z_l500 c16
            refine lv_iconst (v := 1) hx hb dX9_isWord_75 (by decide) ?_
            exact z_zret hx hb hr (by decide) hK hS (Nat.le_of_ble_eq_true rfl) (Nat.le_of_ble_eq_true rfl) hlocks dX9_isWord_76 (shC c, ad, I, JX, PC c ad) hW ⟨rfl, (Or.inl ⟨rfl, zx_mw hi lp9PM (by omega) (by omega)⟩)⟩
          · have g18 := z_f_nge rfl z_l500 c16
            refine lv_aload_n hx hb dX9_isWord_49 rfl (lv_at hl 2 rfl) ?_
            refine lv_iload hx hb dX9_isWord_50 (lv_at hl 0 rfl) ?_
            refine z_ci hW hS hA (va_runV (As := [.int y10]) (rest := []) ⟨hx, hb, hml, hown, hts⟩ (sx_J0_charAt_5068e_x l G adK adV ad I (shC c, ad, I, JX, PC c ad) i y10 hi (by have := z_lenT hi; omega) (by have := z_lenT hi; omega) _) (cwV 1 hts gX9_isWord_J0_charAt_5068e rfl rfl rfl (by decide +kernel) ⟨Nat.le_of_ble_eq_true rfl, Nat.le_of_ble_eq_true rfl⟩) (z_preKN (z_Ck.nice adK adV) hK hW hS hA hKn (vk_recv hKn.1 hi hS)) rfl rfl hl.1 rfl (lv_room (Nat.le_of_ble_eq_true rfl)) dX9_isWord_52 ⟨Nat.le_of_ble_eq_true rfl, Nat.le_of_ble_eq_true rfl⟩) (fun r u1 H locs hp hW hS => ?_)
            obtain ⟨e9, hp⟩ := hp
            rw [e9] at hW
            refine lv_topi (fun x19 ex19 => ?_)
            have hvx19 := ex19.trans hp
            refine lv_aload_n hx hb dX9_isWord_55 rfl (lv_at hl 1 rfl) ?_
            refine z_get (T := TX9) (N := 14) (ci := 9) (i := 12) (v := .ref (ad 13)) hx hb hts zj_X9_isWord_X9 hown hK hW rfl rfl 0 (by decide) (hts (.fieldLink RX9 9 "PetrolBoard$Reader" "text" "[I") (me_s (me_l (me_l (List.mem_of_getElem? (i := 0) rfl))))) (fun _ h => h) rfl dX9_isWord_56 ?_
            refine lv_iload_n hx hb dX9_isWord_59 rfl (lv_at hl 3 rfl) ?_
            refine lv_iload hx hb dX9_isWord_60 (lv_at hl 0 rfl) ?_
            refine lv_iadd hx hb dX9_isWord_62 ?_
            refine lv_topi (fun x20 ex20 => ?_)
            have tx20 : x20.toInt = a2.toInt + y10.toInt := z_tadd ex20 rfl rfl (by omega) (by omega)
            refine z_iald (i := 13) hx hb hK hW rfl (z_ix rfl (by omega) (by omega)) dX9_isWord_63 ?_
            refine lv_topi (fun x21 ex21 => ?_)
            have hxx21 : x21.toInt = zx_h I tn x20.toNatClampNeg := zx_ld ex21 (by omega) (by omega)
            have hkx21 : (x20.toNatClampNeg : Int) = x20.toInt := z_clt rfl (by omega)
            refine lv_icmp_eq (tgt := 69) hx hb dX9_isWord_64 (by decide) (fun c22 => ?_) (fun c22 => ?_)
            · have g23 := z_f_eq rfl rfl c22
              have b24 := Int32.toInt_lt x19
              have b25 := Int32.toInt_lt x21
              obtain ⟨x26, ex26⟩ : ∃ y : Int32, y = y10 + 1 := ⟨_, rfl⟩
              have tx26 : x26.toInt = y10.toInt + 1 := z_tadd ex26 rfl z_l1 (by omega) (by omega)
              refine lv_iinc (v := x26) (lv' := [(4, .int x26), (0, .ref (ad 12)), (1, .ref (adK i)), (2, .int a2), (3, .int a3)]) hx hb dX9_isWord_69 hl (k := 0) rfl (by rw [ex26]; rfl) (by decide) rfl (fun ls hl => ?_)
              refine lv_goto (tgt := 28) hx hb dX9_isWord_72 (by decide) ?_
              exact lp9ih x26 _ _ _ (by omega) (by omega) (by omega) (zx_pm_s lp9PM (m := y10.toNatClampNeg) (z_clt rfl (by omega)) (by rw [show tf + y10.toNatClampNeg = x20.toNatClampNeg by have := z_clt (x := y10) rfl (by omega); omega, ← hxx21, ← hvx19]; omega) (by omega)) (by have := z_l0; omega) hW hS (lv_sub hl [0, 1, 2, 3, 4] rfl)
            · have g27 := z_f_ne rfl rfl c22
              have b28 := Int32.toInt_lt x19
              have b29 := Int32.toInt_lt x21
              refine lv_iconst (v := 0) hx hb dX9_isWord_67 (by decide) ?_
              exact z_zret hx hb hr (by decide) hK hS (Nat.le_of_ble_eq_true rfl) (Nat.le_of_ble_eq_true rfl) hlocks dX9_isWord_68 (shC c, ad, I, JX, PC c ad) hW ⟨rfl, (Or.inr ⟨rfl, zx_mwN hi (m := y10.toNatClampNeg) (by have := z_clt (x := y10) rfl (by omega); omega) (by rw [show tf + y10.toNatClampNeg = x20.toNatClampNeg by have := z_clt (x := y10) rfl (by omega); omega, ← hxx21, ← hvx19]; omega)⟩)⟩
    exact lp9 4294967296 (0) _ _ _ (z_m0u _) (by rw [z_l0]; omega) (by rw [z_l0]; omega) (zx_pm_0 (by decide)) (by have := z_l0; omega) hW hS (lv_sub hl [0, 1, 2, 3, 4] rfl)
  · have g30 := z_f_ne (z_lenT hi) rfl c7
    refine lv_iconst (v := 0) hx hb dX9_isWord_23 (by decide) ?_
    exact z_zret hx hb hr (by decide) hK hS (Nat.le_of_ble_eq_true rfl) (Nat.le_of_ble_eq_true rfl) hlocks dX9_isWord_24 (shC c, ad, I, JX, PC c ad) hW ⟨rfl, (Or.inr ⟨rfl, zx_mwL hi (by omega)⟩)⟩
set_option maxHeartbeats 8000000 in
set_option maxRecDepth 100000 in
theorem sx_X9_wordOf_x (l : Launch) (G : z_G) (adK adV : Nat → Nat) (ad : Nat → Nat) (c : z_C) (I : z_I) (tf te tn : Nat) (a1 : Int32) (a2 : Int32) (hf : a1.toInt = (tf : Int)) (he : a2.toInt = (te : Int)) (hfn : tf < tn) (hfe : tf < te) (hen : te ≤ tn) (hn5 : tn ≤ 500) : z_MN (z_Ck adK adV) l yX9_wordOf wsX9_wordOf { frames := 6, cells := 0, slots := 0, locals := 121 } [.ref (ad 12), .int a1, .int a2] G (shC c, ad, I, JX, PC c ad) (fun r u1 => u1 = (shC c, ad, I, JX, PC c ad) ∧ (zp_wo (zx_h I tn) tf te r.toInt)) 0 0 := by
  intro sz
  refine z_headN (cc := cX9_wordOf) (maxL := 4) (ret := (some .int)) (by decide) rfl (Nat.le_of_ble_eq_true rfl) ?_
  intro p e s m below meth c0 ls hIn hK hsz hW hl hKn
  obtain ⟨hx, hb, hr, hml, hown, hts, hlocks, hname⟩ := hIn
  subst hsz
  have hown : s.vm.findClass RX9 = some m.cls := hown
  have hA : ∀ q : Nat, s.heap.size ≤ q → z_A (shC c, ad, I, JX, PC c ad) s.heap.size q := fun q h => Or.inr h
  generalize hAe : z_A (shC c, ad, I, JX, PC c ad) s.heap.size = A at *
  have hS : va_S A s.heap s.heap [] := va_S.rf
  have hl : lv_has ls 4 [(0, .ref (ad 12)), (1, .int a1), (2, .int a2)] := hl
  refine lv_sipush (v := 300) hx hb dX9_wordOf_0 (by decide) ?_
  refine lv_istore_n (lv' := [(3, .int 300), (0, .ref (ad 12)), (1, .int a1), (2, .int a2)]) hx hb dX9_wordOf_3 rfl hl (by decide) rfl (fun ls hl => ?_)
  have lp1 : ∀ (f : Nat) (y2 : Int32) (H : Heap) (locs : List Loc) (ls : Array Slot), (2147483647 < y2.toInt + (f : Int)) → (300 ≤ y2.toInt) → (y2.toInt ≤ 321) → (∀ j : Nat, j < 21 → (j : Int) < y2.toInt - 300 → ¬ zp_mw (zx_h I tn) tf te (zp_W.getD j [])) → z_W G A (shC c, ad, I, JX, PC c ad) H → va_S A s.heap H locs → lv_has ls 4 [(3, .int y2), (0, .ref (ad 12)), (1, .int a1), (2, .int a2)] → W p l e (headSpec wsX9_wordOf { frames := 6, cells := 0, slots := 0, locals := 121 }).room s m ([.ref (ad 12), .int a1, .int a2] : List Value).toArray below meth c0 H locs 0 0 (MQ below (va_Qi (fun (r : Int32) (u1 : z_U) => u1 = (shC c, ad, I, JX, PC c ad) ∧ (zp_wo (zx_h I tn) tf te r.toInt)) (z_B G A) A) ([.ref (ad 12), .int a1, .int a2] : List Value).toArray s 0 0 A) (F0 m 4 ls []) := by
    intro f
    induction f with
    | zero => intro y2 H locs ls lp1m lp1l3 lp1u3 lp1NW hW hS hl; exact absurd lp1m (by have := Int32.toInt_lt y2; have := Int32.le_toInt y2; omega)
    | succ f lp1ih =>
      intro y2 H locs ls lp1m lp1l3 lp1u3 lp1NW hW hS hl
      refine lv_iload_n hx hb dX9_wordOf_4 rfl (lv_at hl 0 rfl) ?_
      refine lv_sipush (v := 320) hx hb dX9_wordOf_5 (by decide) ?_
      refine lv_icmp_gt (tgt := 32) hx hb dX9_wordOf_8 (by decide) (fun c3 => ?_) (fun c3 => ?_)
      · have g4 := z_f_gt rfl z_l320 c3
        refine lv_sipush (v := 402) hx hb dX9_wordOf_32 (by decide) ?_
        exact z_iret hx hb hr hK hS (Nat.le_of_ble_eq_true rfl) (Nat.le_of_ble_eq_true rfl) hlocks dX9_wordOf_35 (shC c, ad, I, JX, PC c ad) hW ⟨rfl, (Or.inr ⟨by decide, fun j hj => lp1NW j hj (by omega)⟩)⟩
      · have g5 := z_f_ngt rfl z_l320 c3
        refine lv_aload_n hx hb dX9_wordOf_11 rfl (lv_at hl 1 rfl) ?_
        refine lv_iload_n hx hb dX9_wordOf_12 rfl (lv_at hl 0 rfl) ?_
        refine z_cq hW hS hA (va_runS (As := [.int y2]) (rest := [.ref (ad 12)]) ⟨hx, hb, hml, hown, hts⟩ (sx_X9_wordText_x l G adK adV ad c I y2 (by omega) _) (va_cwS 1 hts gX9_wordOf_X9_wordText rfl rfl rfl (by decide +kernel) ⟨Nat.le_of_ble_eq_true rfl, Nat.le_of_ble_eq_true rfl⟩) (z_preSN (z_Ck.nice adK adV) hK hW hS hA hKn) rfl rfl hl.1 rfl (lv_room (Nat.le_of_ble_eq_true rfl)) dX9_wordOf_13 ⟨Nat.le_of_ble_eq_true rfl, Nat.le_of_ble_eq_true rfl⟩) (fun r u1 H locs hp hW hS => ?_)
        obtain ⟨e9, hp⟩ := hp
        rw [e9] at hW
        obtain ⟨i, hi, rfl, hiw⟩ := hp
        refine W.eq (g2 := F0 m 16 ls (.ref (adK i) :: [.ref (ad 12)])) rfl ?_
        refine lv_iload_n hx hb dX9_wordOf_16 rfl (lv_at hl 2 rfl) ?_
        refine lv_iload_n hx hb dX9_wordOf_17 rfl (lv_at hl 3 rfl) ?_
        refine z_ci hW hS hA (va_runV (As := [.ref (adK i), .int a1, .int a2]) (rest := []) ⟨hx, hb, hml, hown, hts⟩ (sx_X9_isWord_x l G adK adV ad c I i tf te tn a1 a2 hi hf he hfn hfe hen hn5 _) (cwV 3 hts gX9_wordOf_X9_isWord rfl rfl rfl (by decide +kernel) ⟨Nat.le_of_ble_eq_true rfl, Nat.le_of_ble_eq_true rfl⟩) (z_preVN (z_Ck.nice adK adV) (i := 12) hK hW hS hA hKn rfl rfl) rfl rfl hl.1 rfl (lv_room (Nat.le_of_ble_eq_true rfl)) dX9_wordOf_18 ⟨Nat.le_of_ble_eq_true rfl, Nat.le_of_ble_eq_true rfl⟩) (fun r u1 H locs hp hW hS => ?_)
        obtain ⟨e9, hp⟩ := hp
        rw [e9] at hW
        rcases hp with ⟨rfl, h6⟩ | ⟨rfl, h6⟩
        · refine lv_if_eq (tgt := 26) hx hb dX9_wordOf_21 (by decide) (fun c7 => absurd c7 (by decide)) (fun c7 => ?_)
          refine lv_iload_n hx hb dX9_wordOf_24 rfl (lv_at hl 0 rfl) ?_
          exact z_iret hx hb hr hK hS (Nat.le_of_ble_eq_true rfl) (Nat.le_of_ble_eq_true rfl) hlocks dX9_wordOf_25 (shC c, ad, I, JX, PC c ad) hW ⟨rfl, (Or.inl ⟨i, hi, by omega, h6⟩)⟩
        · refine lv_if_eq (tgt := 26) hx hb dX9_wordOf_21 (by decide) (fun c8 => ?_) (fun c8 => absurd (by decide) c8)
          obtain ⟨x9, ex9⟩ : ∃ y : Int32, y = y2 + 1 := ⟨_, rfl⟩
          have tx9 : x9.toInt = y2.toInt + 1 := z_tadd ex9 rfl z_l1 (by omega) (by omega)
          refine lv_iinc (v := x9) (lv' := [(3, .int x9), (0, .ref (ad 12)), (1, .int a1), (2, .int a2)]) hx hb dX9_wordOf_26 hl (k := 0) rfl (by rw [ex9]; rfl) (by decide) rfl (fun ls hl => ?_)
          refine lv_goto (tgt := 4) hx hb dX9_wordOf_29 (by decide) ?_
          exact lp1ih x9 _ _ _ (by omega) (by omega) (by omega) (fun j hj hk => by by_cases q : j = i; (· (rw [q]; exact h6)); (· exact lp1NW j hj (by omega))) hW hS (lv_sub hl [0, 1, 2, 3] rfl)
  exact lp1 4294967296 (300) _ _ _ (z_m0u _) (by rw [z_l300]; omega) (by rw [z_l300]; omega) (fun j hj hk => by have := z_l300; omega) hW hS (lv_sub hl [0, 1, 2, 3] rfl)
set_option maxHeartbeats 8000000 in
set_option maxRecDepth 100000 in
theorem sx_X9_tokenOf_x (l : Launch) (G : z_G) (adK adV : Nat → Nat) (ad : Nat → Nat) (c : z_C) (I : z_I) (tf te tn : Nat) (a1 : Int32) (a2 : Int32) (hf : a1.toInt = (tf : Int)) (he : a2.toInt = (te : Int)) (hfn : tf < tn) (hfe : tf < te) (hen : te ≤ tn) (hn5 : tn ≤ 500) : z_MN (z_Ck adK adV) l yX9_tokenOf wsX9_tokenOf { frames := 7, cells := 0, slots := 0, locals := 144 } [.ref (ad 12), .int a1, .int a2] G (shC c, ad, I, JX, PC c ad) (fun r u1 => u1 = (shC c, ad, I, JX, PC c ad) ∧ (zx_T I tn tf te r.toInt)) 0 0 := by
  intro sz
  refine z_headN (cc := cX9_tokenOf) (maxL := 4) (ret := (some .int)) (by decide) rfl (Nat.le_of_ble_eq_true rfl) ?_
  intro p e s m below meth c0 ls hIn hK hsz hW hl hKn
  obtain ⟨hx, hb, hr, hml, hown, hts, hlocks, hname⟩ := hIn
  subst hsz
  have hown : s.vm.findClass RX9 = some m.cls := hown
  have hA : ∀ q : Nat, s.heap.size ≤ q → z_A (shC c, ad, I, JX, PC c ad) s.heap.size q := fun q h => Or.inr h
  generalize hAe : z_A (shC c, ad, I, JX, PC c ad) s.heap.size = A at *
  have hS : va_S A s.heap s.heap [] := va_S.rf
  have hl : lv_has ls 4 [(0, .ref (ad 12)), (1, .int a1), (2, .int a2)] := hl
  refine lv_iload_n hx hb dX9_tokenOf_0 rfl (lv_at hl 1 rfl) ?_
  refine lv_if_lt (tgt := 13) hx hb dX9_tokenOf_1 (by decide) (fun c1 => (by have g := z_f_lt rfl z_l0 c1; omega)) (fun c1 => ?_)
  have g2 := z_f_nlt rfl z_l0 c1
  refine lv_iload_n hx hb dX9_tokenOf_4 rfl (lv_at hl 1 rfl) ?_
  refine lv_aload_n hx hb dX9_tokenOf_5 rfl (lv_at hl 0 rfl) ?_
  refine z_get (T := TX9) (N := 14) (ci := 9) (i := 12) (v := .ref (ad 13)) hx hb hts zj_X9_tokenOf_X9 hown hK hW rfl rfl 0 (by decide) (hts (.fieldLink RX9 9 "PetrolBoard$Reader" "text" "[I") (me_s (me_l (me_l (List.mem_of_getElem? (i := 0) rfl))))) (fun _ h => h) rfl dX9_tokenOf_6 ?_
  refine z_alen (i := 13) (v := 500) hx hb hK hW rfl (by simp [z_tys]) (by rfl) dX9_tokenOf_9 ?_
  refine lv_icmp_lt (tgt := 17) hx hb dX9_tokenOf_10 (by decide) (fun c3 => ?_) (fun c3 => (by have g := z_f_nlt rfl z_l500 c3; omega))
  have g4 := z_f_lt rfl z_l500 c3
  refine lv_aload_n hx hb dX9_tokenOf_17 rfl (lv_at hl 0 rfl) ?_
  refine z_get (T := TX9) (N := 14) (ci := 9) (i := 12) (v := .ref (ad 13)) hx hb hts zj_X9_tokenOf_X9 hown hK hW rfl rfl 0 (by decide) (hts (.fieldLink RX9 9 "PetrolBoard$Reader" "text" "[I") (me_s (me_l (me_l (List.mem_of_getElem? (i := 0) rfl))))) (fun _ h => h) rfl dX9_tokenOf_18 ?_
  refine lv_iload_n hx hb dX9_tokenOf_21 rfl (lv_at hl 1 rfl) ?_
  refine z_iald (i := 13) hx hb hK hW rfl (z_ix rfl (by omega) (by omega)) dX9_tokenOf_22 ?_
  refine lv_topi (fun x5 ex5 => ?_)
  have hxx5 : x5.toInt = zx_h I tn a1.toNatClampNeg := zx_ld ex5 (by omega) (by omega)
  have hkx5 : (a1.toNatClampNeg : Int) = a1.toInt := z_clt rfl (by omega)
  have hfk : a1.toNatClampNeg = tf := (by have := z_clt hf (by omega); omega)
  have hxf : x5.toInt = zx_h I tn tf := by rw [hxx5, hfk]
  refine lv_istore_n (lv' := [(3, .int x5), (0, .ref (ad 12)), (1, .int a1), (2, .int a2)]) hx hb dX9_tokenOf_23 rfl hl (by decide) rfl (fun ls hl => ?_)
  refine lv_iload_n hx hb dX9_tokenOf_24 rfl (lv_at hl 0 rfl) ?_
  refine z_ci hW hS hA (va_runS (As := [.int x5]) (rest := []) ⟨hx, hb, hml, hown, hts⟩ (sx_X9_isLetter_x l G ad c I  x5 _) (va_cwS 1 hts gX9_tokenOf_X9_isLetter rfl rfl rfl (by decide +kernel) ⟨Nat.le_of_ble_eq_true rfl, Nat.le_of_ble_eq_true rfl⟩) (z_preS hK hW) rfl rfl hl.1 rfl (lv_room (Nat.le_of_ble_eq_true rfl)) dX9_tokenOf_25 ⟨Nat.le_of_ble_eq_true rfl, Nat.le_of_ble_eq_true rfl⟩) (fun r u1 H locs hp hW hS => ?_)
  obtain ⟨e9, hp⟩ := hp
  rw [e9] at hW
  rcases hp with ⟨rfl, h6⟩ | ⟨rfl, h6⟩
  · have h7 := h6
    refine lv_if_eq (tgt := 38) hx hb dX9_tokenOf_28 (by decide) (fun c8 => absurd c8 (by decide)) (fun c8 => ?_)
    refine lv_aload_n hx hb dX9_tokenOf_31 rfl (lv_at hl 1 rfl) ?_
    refine lv_iload_n hx hb dX9_tokenOf_32 rfl (lv_at hl 2 rfl) ?_
    refine lv_iload_n hx hb dX9_tokenOf_33 rfl (lv_at hl 3 rfl) ?_
    refine z_ci hW hS hA (va_runV (As := [.int a1, .int a2]) (rest := []) ⟨hx, hb, hml, hown, hts⟩ (sx_X9_wordOf_x l G adK adV ad c I tf te tn a1 a2 (by omega) (by omega) (by omega) (by omega) (by omega) (by omega) _) (cwV 2 hts gX9_tokenOf_X9_wordOf rfl rfl rfl (by decide +kernel) ⟨Nat.le_of_ble_eq_true rfl, Nat.le_of_ble_eq_true rfl⟩) (z_preVN (z_Ck.nice adK adV) (i := 12) hK hW hS hA hKn rfl rfl) rfl rfl hl.1 rfl (lv_room (Nat.le_of_ble_eq_true rfl)) dX9_tokenOf_34 ⟨Nat.le_of_ble_eq_true rfl, Nat.le_of_ble_eq_true rfl⟩) (fun r u1 H locs hp hW hS => ?_)
    obtain ⟨e9, hp⟩ := hp
    rw [e9] at hW
    refine lv_topi (fun x9 ex9 => ?_)
    have h11 := hp
    rw [← ex9] at h11
    exact z_iret hx hb hr hK hS (Nat.le_of_ble_eq_true rfl) (Nat.le_of_ble_eq_true rfl) hlocks dX9_tokenOf_37 (shC c, ad, I, JX, PC c ad) hW ⟨rfl, ⟨fun _ => h11, fun z => absurd z (by have q9 := h6; rw [hxf] at q9; unfold zp_al at q9; unfold zp_dg; omega), fun z => absurd (by rw [← hxf]; exact h6) z⟩⟩
  · have h12 := h6
    refine lv_if_eq (tgt := 38) hx hb dX9_tokenOf_28 (by decide) (fun c13 => ?_) (fun c13 => absurd (by decide) c13)
    refine lv_iload_n hx hb dX9_tokenOf_38 rfl (lv_at hl 0 rfl) ?_
    refine z_ci hW hS hA (va_runS (As := [.int x5]) (rest := []) ⟨hx, hb, hml, hown, hts⟩ (sx_X9_isDigit_x l G ad c I  x5 _) (va_cwS 1 hts gX9_tokenOf_X9_isDigit rfl rfl rfl (by decide +kernel) ⟨Nat.le_of_ble_eq_true rfl, Nat.le_of_ble_eq_true rfl⟩) (z_preS hK hW) rfl rfl hl.1 rfl (lv_room (Nat.le_of_ble_eq_true rfl)) dX9_tokenOf_39 ⟨Nat.le_of_ble_eq_true rfl, Nat.le_of_ble_eq_true rfl⟩) (fun r u1 H locs hp hW hS => ?_)
    obtain ⟨e9, hp⟩ := hp
    rw [e9] at hW
    rcases hp with ⟨rfl, h14⟩ | ⟨rfl, h14⟩
    · have h15 := h14
      refine lv_if_eq (tgt := 63) hx hb dX9_tokenOf_42 (by decide) (fun c16 => absurd c16 (by decide)) (fun c16 => ?_)
      refine lv_iload_n hx hb dX9_tokenOf_45 rfl (lv_at hl 3 rfl) ?_
      refine lv_iload_n hx hb dX9_tokenOf_46 rfl (lv_at hl 2 rfl) ?_
      refine lv_isub hx hb dX9_tokenOf_47 ?_
      refine lv_topi (fun x17 ex17 => ?_)
      have tx17 : x17.toInt = a2.toInt - a1.toInt := z_tsub ex17 rfl rfl (by omega) (by omega)
      refine lv_bipush (v := 6) hx hb dX9_tokenOf_48 (by decide) ?_
      refine lv_icmp_gt (tgt := 59) hx hb dX9_tokenOf_50 (by decide) (fun c18 => ?_) (fun c18 => ?_)
      · have g19 := z_f_gt rfl z_l6 c18
        refine lv_sipush (v := 402) hx hb dX9_tokenOf_59 (by decide) ?_
        exact z_iret hx hb hr hK hS (Nat.le_of_ble_eq_true rfl) (Nat.le_of_ble_eq_true rfl) hlocks dX9_tokenOf_62 (shC c, ad, I, JX, PC c ad) hW ⟨rfl, ⟨fun z => absurd z (by rw [← hxf]; exact h6), fun _ => Or.inr ⟨by omega, by decide⟩, fun _ z => absurd (by rw [← hxf]; exact h14) z⟩⟩
      · have g20 := z_f_ngt rfl z_l6 c18
        refine lv_sipush (v := 400) hx hb dX9_tokenOf_53 (by decide) ?_
        refine lv_goto (tgt := 62) hx hb dX9_tokenOf_56 (by decide) ?_
        exact z_iret hx hb hr hK hS (Nat.le_of_ble_eq_true rfl) (Nat.le_of_ble_eq_true rfl) hlocks dX9_tokenOf_62 (shC c, ad, I, JX, PC c ad) hW ⟨rfl, ⟨fun z => absurd z (by rw [← hxf]; exact h6), fun _ => Or.inl ⟨by omega, by decide⟩, fun _ z => absurd (by rw [← hxf]; exact h14) z⟩⟩
    · have h21 := h14
      refine lv_if_eq (tgt := 63) hx hb dX9_tokenOf_42 (by decide) (fun c22 => ?_) (fun c22 => absurd (by decide) c22)
      refine lv_iload_n hx hb dX9_tokenOf_63 rfl (lv_at hl 0 rfl) ?_
      refine z_ci hW hS hA (va_runS (As := [.int x5]) (rest := []) ⟨hx, hb, hml, hown, hts⟩ (sx_X9_isSign_x l G ad c I  x5 _) (va_cwS 1 hts gX9_tokenOf_X9_isSign rfl rfl rfl (by decide +kernel) ⟨Nat.le_of_ble_eq_true rfl, Nat.le_of_ble_eq_true rfl⟩) (z_preS hK hW) rfl rfl hl.1 rfl (lv_room (Nat.le_of_ble_eq_true rfl)) dX9_tokenOf_64 ⟨Nat.le_of_ble_eq_true rfl, Nat.le_of_ble_eq_true rfl⟩) (fun r u1 H locs hp hW hS => ?_)
      obtain ⟨e9, hp⟩ := hp
      rw [e9] at hW
      rcases hp with ⟨rfl, h23⟩ | ⟨rfl, h23⟩
      · have h24 := h23
        refine lv_if_eq (tgt := 74) hx hb dX9_tokenOf_67 (by decide) (fun c25 => absurd c25 (by decide)) (fun c25 => ?_)
        refine lv_iload_n hx hb dX9_tokenOf_70 rfl (lv_at hl 0 rfl) ?_
        refine lv_goto (tgt := 77) hx hb dX9_tokenOf_71 (by decide) ?_
        exact z_iret hx hb hr hK hS (Nat.le_of_ble_eq_true rfl) (Nat.le_of_ble_eq_true rfl) hlocks dX9_tokenOf_77 (shC c, ad, I, JX, PC c ad) hW ⟨rfl, ⟨fun z => absurd z (by rw [← hxf]; exact h6), fun z => absurd z (by rw [← hxf]; exact h14), fun _ _ => Or.inl ⟨(by rw [← hxf]; exact h23), hxf⟩⟩⟩
      · have h26 := h23
        refine lv_if_eq (tgt := 74) hx hb dX9_tokenOf_67 (by decide) (fun c27 => ?_) (fun c27 => absurd (by decide) c27)
        refine lv_sipush (v := 402) hx hb dX9_tokenOf_74 (by decide) ?_
        exact z_iret hx hb hr hK hS (Nat.le_of_ble_eq_true rfl) (Nat.le_of_ble_eq_true rfl) hlocks dX9_tokenOf_77 (shC c, ad, I, JX, PC c ad) hW ⟨rfl, ⟨fun z => absurd z (by rw [← hxf]; exact h6), fun z => absurd z (by rw [← hxf]; exact h14), fun _ _ => Or.inr ⟨(by rw [← hxf]; exact h23), by decide⟩⟩⟩
noncomputable def L_X9_scan_x : z_L := [(14, 999), (16, 999), (15, 999), (12, 5)]
set_option maxHeartbeats 8000000 in
set_option maxRecDepth 100000 in
theorem sx_X9_scan_x (l : Launch) (G : z_G) (adK adV : Nat → Nat) (ad : Nat → Nat) (c : z_C) (I : z_I) (hR : z_iR I) (tn : Nat) (a1 : Int32) (hn : a1.toInt = (tn : Int)) (hn5 : tn ≤ 500) (h0 : ∀ p, p < tn → 0 ≤ zx_h I tn p) : z_MvN (z_Ck adK adV) l yX9_scan wsX9_scan { frames := 8, cells := 0, slots := 0, locals := 167 } [.ref (ad 12), .int a1] G (shC c, ad, I, JX, PC c ad) (fun u1 => ∃ I1 : z_I, u1 = (shC c, ad, I1, JX, PC c ad) ∧ z_iR I1 ∧ z_fr L_X9_scan_x I1 I ∧ zs_F I tn I1) 0 0 := by
  intro sz
  refine z_headN (cc := cX9_scan) (maxL := 5) (ret := none) (by decide) rfl (Nat.le_of_ble_eq_true rfl) ?_
  intro p e s m below meth c0 ls hIn hK hsz hW hl hKn
  obtain ⟨hx, hb, hr, hml, hown, hts, hlocks, hname⟩ := hIn
  subst hsz
  have hown : s.vm.findClass RX9 = some m.cls := hown
  have hA : ∀ q : Nat, s.heap.size ≤ q → z_A (shC c, ad, I, JX, PC c ad) s.heap.size q := fun q h => Or.inr h
  generalize hAe : z_A (shC c, ad, I, JX, PC c ad) s.heap.size = A at *
  have hS : va_S A s.heap s.heap [] := va_S.rf
  have hl : lv_has ls 5 [(0, .ref (ad 12)), (1, .int a1)] := hl
  refine lv_iload_n hx hb dX9_scan_0 rfl (lv_at hl 1 rfl) ?_
  refine lv_aload_n hx hb dX9_scan_1 rfl (lv_at hl 0 rfl) ?_
  refine z_get (T := TX9) (N := 14) (ci := 9) (i := 12) (v := .ref (ad 13)) hx hb hts zj_X9_scan_X9 hown hK hW rfl rfl 0 (by decide) (hts (.fieldLink RX9 9 "PetrolBoard$Reader" "text" "[I") (me_s (me_l (me_l (List.mem_of_getElem? (i := 0) rfl))))) (fun _ h => h) rfl dX9_scan_2 ?_
  refine z_alen (i := 13) (v := 500) hx hb hK hW rfl (by simp [z_tys]) (by rfl) dX9_scan_5 ?_
  refine va_mmin (x := a1) (y := 500) hx hb (hml.trans hl.1.symm) hown (hts (.methodLink RX9 40 Lib.Math.min.name) (me_s (me_l (me_l (List.mem_of_getElem? (i := 1) rfl))))) (hts (.static Lib.Math.min.name) (me_s (me_l (me_l (List.mem_of_getElem? (i := 2) rfl))))) (hts (.initialized "java/lang/Math") (me_s (me_l (me_l (List.mem_of_getElem? (i := 3) rfl))))) (hts (.code Lib.Math.min.name Lib.Math.min.code 2 (some .int)) (me_s (me_l (me_l (List.mem_of_getElem? (i := 4) rfl))))) (Nat.le_of_ble_eq_true rfl) (Nat.le_of_ble_eq_true rfl) (Nat.le_of_ble_eq_true rfl) (Nat.le_of_ble_eq_true rfl) dX9_scan_6 ?_
  refine lv_topi (fun x1 ex1 => ?_)
  have tx1 := z_tmmin ex1 rfl z_l500
  refine lv_istore_n (lv' := [(2, .int x1), (0, .ref (ad 12)), (1, .int a1)]) hx hb dX9_scan_9 rfl hl (by decide) rfl (fun ls hl => ?_)
  refine lv_aload_n hx hb dX9_scan_10 rfl (lv_at hl 1 rfl) ?_
  refine lv_iconst (v := 0) hx hb dX9_scan_11 (by decide) ?_
  refine z_put (T := TX9) (N := 14) (ci := 9) (i := 12) (v := .int 0) (I1 := z_up I 12 5 0) (J1 := JX) (P1 := PC c ad) hx hb hts zj_X9_scan_X9 tyX9 tyX9_ok nmX9 hown hK hW hS rfl rfl 5 (by decide) (hts (.fieldLink RX9 76 "PetrolBoard$Reader" "scanned" "I") (me_s (me_l (me_l (List.mem_of_getElem? (i := 5) rfl))))) (fun _ h => h) rfl rfl rfl (by first | rfl | exact congrArg _ z_up_s) (fun a b h ty => z_vI h ty) dX9_scan_12 (fun H locs hz1 hW hS => ?_)
  obtain ⟨I2, eI2⟩ : ∃ K : z_I, K = z_up I 12 5 0 := ⟨_, rfl⟩
  rw [← eI2] at hW
  have f3 := z_fr_k z_fr_0 (show z_wr L_X9_scan_x 12 5 = true by decide) eI2
  refine lv_iconst (v := 0) hx hb dX9_scan_15 (by decide) ?_
  refine lv_istore (lv' := [(4, .int 0), (2, .int x1), (0, .ref (ad 12)), (1, .int a1)]) hx hb dX9_scan_16 hl (by decide) rfl (fun ls hl => ?_)
  have lp4 : ∀ (f : Nat) (y5 : Int32) (I6 : z_I) (H : Heap) (locs : List Loc) (ls : Array Slot), (2147483647 < y5.toInt + (f : Int)) → (0 ≤ y5.toInt) → (y5.toInt ≤ 500) → (z_iR I6) → (∃ p : Nat, y5.toInt = (p : Int) ∧ p ≤ tn ∧ zs_I (zx_h I tn) I6 p) → (z_fr L_X9_scan_x I6 I) → z_W G A (shC c, ad, I6, JX, PC c ad) H → va_S A s.heap H locs → lv_has ls 5 [(4, .int y5), (2, .int x1), (0, .ref (ad 12)), (1, .int a1)] → W p l e (headSpec wsX9_scan { frames := 8, cells := 0, slots := 0, locals := 167 }).room s m ([.ref (ad 12), .int a1] : List Value).toArray below meth c0 H locs 0 0 (MQ below (va_Qv (fun (u1 : z_U) => ∃ I1 : z_I, u1 = (shC c, ad, I1, JX, PC c ad) ∧ z_iR I1 ∧ z_fr L_X9_scan_x I1 I ∧ zs_F I tn I1) (z_B G A) A) ([.ref (ad 12), .int a1] : List Value).toArray s 0 0 A) (F0 m 18 ls []) := by
    intro f
    induction f with
    | zero => intro y5 I6  H locs ls lp4m lp4l4 lp4u4 lp4R lp4SI lp4fr hW hS hl; exact absurd lp4m (by have := Int32.toInt_lt y5; have := Int32.le_toInt y5; omega)
    | succ f lp4ih =>
      intro y5 I6  H locs ls lp4m lp4l4 lp4u4 lp4R lp4SI lp4fr hW hS hl
      refine lv_iload hx hb dX9_scan_18 (lv_at hl 0 rfl) ?_
      obtain ⟨ps, hps, hpn, hsI⟩ := lp4SI
      have hTX : ∀ j, I6 13 j = I 13 j := fun j => lp4fr 13 j (z_wr_c (by decide))
      refine lv_iload_n hx hb dX9_scan_20 rfl (lv_at hl 1 rfl) ?_
      refine lv_icmp_ge (tgt := 78) hx hb dX9_scan_21 (by decide) (fun c7 => ?_) (fun c7 => ?_)
      · have g8 := z_f_ge rfl rfl c7
        refine lv_aload_n hx hb dX9_scan_78 rfl (lv_at hl 2 rfl) ?_
        refine lv_sipush (v := 401) hx hb dX9_scan_79 (by decide) ?_
        refine lv_iload_n hx hb dX9_scan_82 rfl (lv_at hl 1 rfl) ?_
        refine lv_iconst (v := 0) hx hb dX9_scan_83 (by decide) ?_
        refine z_cv hW hS hA (va_runV (As := [.int 401, .int x1, .int 0]) (rest := []) ⟨hx, hb, hml, hown, hts⟩ (sx_X9_addToken_x l G ad c I6 ⟨(by show 0 ≤ (I6 12 1).toInt ∧ (I6 12 1).toInt ≤ 500; exact lp4R.1), (by show 0 ≤ (I6 12 5).toInt ∧ (I6 12 5).toInt ≤ 501; exact lp4R.2.1), (by show (-1) ≤ (I6 12 6).toInt ∧ (I6 12 6).toInt ≤ 1000000; exact lp4R.2.2.1), (by show 0 ≤ (I6 12 9).toInt ∧ (I6 12 9).toInt ≤ 500; exact lp4R.2.2.2.1), (by show 0 ≤ (I6 12 13).toInt ∧ (I6 12 13).toInt ≤ 24; exact lp4R.2.2.2.2)⟩ 401 x1 0 (by obtain ⟨s9, pe9, q1, q2, q3⟩ := hsI; omega) _) (cwV 3 hts gX9_scan_X9_addToken rfl rfl rfl (by decide +kernel) ⟨Nat.le_of_ble_eq_true rfl, Nat.le_of_ble_eq_true rfl⟩) (z_preV (i := 12) hK hW rfl rfl) rfl rfl hl.1 rfl (lv_room (Nat.le_of_ble_eq_true rfl)) dX9_scan_84 ⟨Nat.le_of_ble_eq_true rfl, Nat.le_of_ble_eq_true rfl⟩) (fun u1 H locs hp hW hS => ?_)
        obtain ⟨I9, e9, hI9R, fI9, hp⟩ := hp
        rw [e9] at hW
        have f10 := z_fr_sub (L := L_X9_scan_x) lp4fr fI9 (by decide)
        have ha11 := hp
        exact z_vret hx hb hr hK hS (Nat.le_of_ble_eq_true rfl) (Nat.le_of_ble_eq_true rfl) hlocks dX9_scan_87 (shC c, ad, I9, JX, PC c ad) hW ⟨I9, rfl, ⟨(by show 0 ≤ (I9 12 1).toInt ∧ (I9 12 1).toInt ≤ 500; exact hI9R.1), (by show 0 ≤ (I9 12 5).toInt ∧ (I9 12 5).toInt ≤ 501; exact hI9R.2.1), (by show (-1) ≤ (I9 12 6).toInt ∧ (I9 12 6).toInt ≤ 1000000; exact hI9R.2.2.1), (by show 0 ≤ (I9 12 9).toInt ∧ (I9 12 9).toInt ≤ 500; exact hI9R.2.2.2.1), (by show 0 ≤ (I9 12 13).toInt ∧ (I9 12 13).toInt ≤ 24; exact hI9R.2.2.2.2)⟩, f10, (zs_I_e (by have q9 : ps = tn := (by omega); rw [q9] at hsI; exact hsI) ha11 (by omega) (by decide))⟩
      · have g12 := z_f_nge rfl rfl c7
        refine lv_aload_n hx hb dX9_scan_24 rfl (lv_at hl 2 rfl) ?_
        refine lv_iload hx hb dX9_scan_25 (lv_at hl 0 rfl) ?_
        refine lv_iload_n hx hb dX9_scan_27 rfl (lv_at hl 1 rfl) ?_
        refine z_ci hW hS hA (va_runV (As := [.int y5, .int x1]) (rest := []) ⟨hx, hb, hml, hown, hts⟩ (sx_X9_endOf_x l G ad c I6 ps tn y5 x1 (by omega) (by omega) (by omega) (by omega) _) (cwV 2 hts gX9_scan_X9_endOf rfl rfl rfl (by decide +kernel) ⟨Nat.le_of_ble_eq_true rfl, Nat.le_of_ble_eq_true rfl⟩) (z_preV (i := 12) hK hW rfl rfl) rfl rfl hl.1 rfl (lv_room (Nat.le_of_ble_eq_true rfl)) dX9_scan_28 ⟨Nat.le_of_ble_eq_true rfl, Nat.le_of_ble_eq_true rfl⟩) (fun r u1 H locs hp hW hS => ?_)
        obtain ⟨e9, hp⟩ := hp
        rw [e9] at hW
        refine lv_topi (fun x13 ex13 => ?_)
        rw [← ex13] at hp
        have hE14 := zx_E_c hTX hp
        obtain ⟨e15, hee15, hle15, hue15, -⟩ := id hE14
        refine lv_istore_n (lv' := [(3, .int x13), (4, .int y5), (2, .int x1), (0, .ref (ad 12)), (1, .int a1)]) hx hb dX9_scan_31 rfl hl (by decide) rfl (fun ls hl => ?_)
        refine lv_aload_n hx hb dX9_scan_32 rfl (lv_at hl 3 rfl) ?_
        refine z_get (T := TX9) (N := 14) (ci := 9) (i := 12) (v := .ref (ad 13)) hx hb hts zj_X9_scan_X9 hown hK hW rfl rfl 0 (by decide) (hts (.fieldLink RX9 9 "PetrolBoard$Reader" "text" "[I") (me_s (me_l (me_l (List.mem_of_getElem? (i := 0) rfl))))) (fun _ h => h) rfl dX9_scan_33 ?_
        refine lv_iload hx hb dX9_scan_36 (lv_at hl 1 rfl) ?_
        refine z_iald (i := 13) hx hb hK hW rfl (z_ix rfl (by omega) (by omega)) dX9_scan_38 ?_
        refine lv_topi (fun x16 ex16 => ?_)
        have q17 : x16 = I 13 y5.toNatClampNeg := by rw [ex16, lp4fr 13 _ (z_wr_c (by decide))]
        have hxx16 : x16.toInt = zx_h I tn y5.toNatClampNeg := zx_ld q17 (by omega) (by omega)
        have hkx16 : (y5.toNatClampNeg : Int) = y5.toInt := z_clt rfl (by omega)
        have hpk : y5.toNatClampNeg = ps := (by have := hkx16; omega)
        have hxs : x16.toInt = zx_h I tn ps := by rw [hxx16, hpk]
        have hx0 : 0 ≤ zx_h I tn ps := h0 ps (by omega)
        refine z_ci hW hS hA (va_runS (As := [.int x16]) (rest := []) ⟨hx, hb, hml, hown, hts⟩ (sx_X9_isBlank_x l G ad c I6  x16 _) (va_cwS 1 hts gX9_scan_X9_isBlank rfl rfl rfl (by decide +kernel) ⟨Nat.le_of_ble_eq_true rfl, Nat.le_of_ble_eq_true rfl⟩) (z_preS hK hW) rfl rfl hl.1 rfl (lv_room (Nat.le_of_ble_eq_true rfl)) dX9_scan_39 ⟨Nat.le_of_ble_eq_true rfl, Nat.le_of_ble_eq_true rfl⟩) (fun r u1 H locs hp hW hS => ?_)
        obtain ⟨e9, hp⟩ := hp
        rw [e9] at hW
        rcases hp with ⟨rfl, h18⟩ | ⟨rfl, h18⟩
        · have h19 := h18
          refine lv_if_ne (tgt := 65) hx hb dX9_scan_42 (by decide) (fun c20 => ?_) (fun c20 => absurd c20 (by decide))
          refine lv_iload_n hx hb dX9_scan_65 rfl (lv_at hl 0 rfl) ?_
          refine lv_iload hx hb dX9_scan_66 (lv_at hl 1 rfl) ?_
          refine lv_iconst (v := 1) hx hb dX9_scan_68 (by decide) ?_
          refine lv_iadd hx hb dX9_scan_69 ?_
          refine lv_topi (fun x21 ex21 => ?_)
          have tx21 : x21.toInt = y5.toInt + 1 := z_tadd ex21 rfl z_l1 (by omega) (by omega)
          refine va_mmax (x := x13) (y := x21) hx hb (hml.trans hl.1.symm) hown (hts (.methodLink RX9 128 Lib.Math.max.name) (me_s (me_l (me_l (List.mem_of_getElem? (i := 6) rfl))))) (hts (.static Lib.Math.max.name) (me_s (me_l (me_l (List.mem_of_getElem? (i := 7) rfl))))) (hts (.initialized "java/lang/Math") (me_s (me_l (me_l (List.mem_of_getElem? (i := 3) rfl))))) (hts (.code Lib.Math.max.name Lib.Math.max.code 2 (some .int)) (me_s (me_l (me_l (List.mem_of_getElem? (i := 8) rfl))))) (Nat.le_of_ble_eq_true rfl) (Nat.le_of_ble_eq_true rfl) (Nat.le_of_ble_eq_true rfl) (Nat.le_of_ble_eq_true rfl) dX9_scan_70 ?_
          refine lv_topi (fun x22 ex22 => ?_)
          have tx22 := z_tmmax ex22 rfl rfl
          refine lv_istore (lv' := [(4, .int x22), (3, .int x13), (2, .int x1), (0, .ref (ad 12)), (1, .int a1)]) hx hb dX9_scan_73 hl (by decide) rfl (fun ls hl => ?_)
          refine lv_goto (tgt := 18) hx hb dX9_scan_75 (by decide) ?_
          exact lp4ih x22 I6  _ _ _ (by omega) (by omega) (by omega) ⟨(by show 0 ≤ (I6 12 1).toInt ∧ (I6 12 1).toInt ≤ 500; exact lp4R.1), (by show 0 ≤ (I6 12 5).toInt ∧ (I6 12 5).toInt ≤ 501; exact lp4R.2.1), (by show (-1) ≤ (I6 12 6).toInt ∧ (I6 12 6).toInt ≤ 1000000; exact lp4R.2.2.1), (by show 0 ≤ (I6 12 9).toInt ∧ (I6 12 9).toInt ≤ 500; exact lp4R.2.2.2.1), (by show 0 ≤ (I6 12 13).toInt ∧ (I6 12 13).toInt ≤ 24; exact lp4R.2.2.2.2)⟩ ⟨ps + 1, (by have q9 := zx_E_b hE14 (by rw [← hxs]; exact h18); omega), by omega, zs_I_b hsI (by rw [← hxs]; exact h18) rfl⟩ lp4fr hW hS (lv_sub hl [0, 2, 3, 4] rfl)
        · have h23 := h18
          refine lv_if_ne (tgt := 65) hx hb dX9_scan_42 (by decide) (fun c24 => absurd (by decide) c24) (fun c24 => ?_)
          refine lv_aload_n hx hb dX9_scan_45 rfl (lv_at hl 3 rfl) ?_
          refine lv_aload_n hx hb dX9_scan_46 rfl (lv_at hl 3 rfl) ?_
          refine lv_iload hx hb dX9_scan_47 (lv_at hl 1 rfl) ?_
          refine lv_iload_n hx hb dX9_scan_49 rfl (lv_at hl 0 rfl) ?_
          refine z_ci hW hS hA (va_runV (As := [.int y5, .int x13]) (rest := [.ref (ad 12)]) ⟨hx, hb, hml, hown, hts⟩ (sx_X9_tokenOf_x l G adK adV ad c I6 ps e15 tn y5 x13 (by omega) (by omega) (by omega) (by omega) (by omega) (by omega) _) (cwV 2 hts gX9_scan_X9_tokenOf rfl rfl rfl (by decide +kernel) ⟨Nat.le_of_ble_eq_true rfl, Nat.le_of_ble_eq_true rfl⟩) (z_preVN (z_Ck.nice adK adV) (i := 12) hK hW hS hA hKn rfl rfl) rfl rfl hl.1 rfl (lv_room (Nat.le_of_ble_eq_true rfl)) dX9_scan_50 ⟨Nat.le_of_ble_eq_true rfl, Nat.le_of_ble_eq_true rfl⟩) (fun r u1 H locs hp hW hS => ?_)
          obtain ⟨e9, hp⟩ := hp
          rw [e9] at hW
          refine lv_topi (fun x25 ex25 => ?_)
          rw [← ex25] at hp
          have hT26 := zx_T_c hTX hp
          refine lv_iload hx hb dX9_scan_53 (lv_at hl 1 rfl) ?_
          refine lv_aload_n hx hb dX9_scan_55 rfl (lv_at hl 3 rfl) ?_
          refine lv_iload hx hb dX9_scan_56 (lv_at hl 1 rfl) ?_
          refine lv_iload_n hx hb dX9_scan_58 rfl (lv_at hl 0 rfl) ?_
          refine z_ci hW hS hA (va_runV (As := [.int y5, .int x13]) (rest := [.int y5, .int x25, .ref (ad 12)]) ⟨hx, hb, hml, hown, hts⟩ (sx_X9_numberOf_x l G ad c I6 ps e15 tn y5 x13 (by omega) (by omega) (by omega) (by omega) (by omega) (by omega) _) (cwV 2 hts gX9_scan_X9_numberOf rfl rfl rfl (by decide +kernel) ⟨Nat.le_of_ble_eq_true rfl, Nat.le_of_ble_eq_true rfl⟩) (z_preV (i := 12) hK hW rfl rfl) rfl rfl hl.1 rfl (lv_room (Nat.le_of_ble_eq_true rfl)) dX9_scan_59 ⟨Nat.le_of_ble_eq_true rfl, Nat.le_of_ble_eq_true rfl⟩) (fun r u1 H locs hp hW hS => ?_)
          obtain ⟨e9, hp⟩ := hp
          rw [e9] at hW
          refine lv_topi (fun x27 ex27 => ?_)
          rw [← ex27] at hp
          have hV28 := zx_V_c hTX hp
          refine z_cv hW hS hA (va_runV (As := [.int x25, .int y5, .int x27]) (rest := []) ⟨hx, hb, hml, hown, hts⟩ (sx_X9_addToken_x l G ad c I6 ⟨(by show 0 ≤ (I6 12 1).toInt ∧ (I6 12 1).toInt ≤ 500; exact lp4R.1), (by show 0 ≤ (I6 12 5).toInt ∧ (I6 12 5).toInt ≤ 501; exact lp4R.2.1), (by show (-1) ≤ (I6 12 6).toInt ∧ (I6 12 6).toInt ≤ 1000000; exact lp4R.2.2.1), (by show 0 ≤ (I6 12 9).toInt ∧ (I6 12 9).toInt ≤ 500; exact lp4R.2.2.2.1), (by show 0 ≤ (I6 12 13).toInt ∧ (I6 12 13).toInt ≤ 24; exact lp4R.2.2.2.2)⟩ x25 y5 x27 (by obtain ⟨s9, pe9, q1, q2, q3⟩ := hsI; omega) _) (cwV 3 hts gX9_scan_X9_addToken rfl rfl rfl (by decide +kernel) ⟨Nat.le_of_ble_eq_true rfl, Nat.le_of_ble_eq_true rfl⟩) (z_preV (i := 12) hK hW rfl rfl) rfl rfl hl.1 rfl (lv_room (Nat.le_of_ble_eq_true rfl)) dX9_scan_62 ⟨Nat.le_of_ble_eq_true rfl, Nat.le_of_ble_eq_true rfl⟩) (fun u1 H locs hp hW hS => ?_)
          obtain ⟨I29, e9, hI29R, fI29, hp⟩ := hp
          rw [e9] at hW
          have f30 := z_fr_sub (L := L_X9_scan_x) lp4fr fI29 (by decide)
          have ha31 := hp
          refine lv_iload_n hx hb dX9_scan_65 rfl (lv_at hl 0 rfl) ?_
          refine lv_iload hx hb dX9_scan_66 (lv_at hl 1 rfl) ?_
          refine lv_iconst (v := 1) hx hb dX9_scan_68 (by decide) ?_
          refine lv_iadd hx hb dX9_scan_69 ?_
          refine lv_topi (fun x32 ex32 => ?_)
          have tx32 : x32.toInt = y5.toInt + 1 := z_tadd ex32 rfl z_l1 (by omega) (by omega)
          refine va_mmax (x := x13) (y := x32) hx hb (hml.trans hl.1.symm) hown (hts (.methodLink RX9 128 Lib.Math.max.name) (me_s (me_l (me_l (List.mem_of_getElem? (i := 6) rfl))))) (hts (.static Lib.Math.max.name) (me_s (me_l (me_l (List.mem_of_getElem? (i := 7) rfl))))) (hts (.initialized "java/lang/Math") (me_s (me_l (me_l (List.mem_of_getElem? (i := 3) rfl))))) (hts (.code Lib.Math.max.name Lib.Math.max.code 2 (some .int)) (me_s (me_l (me_l (List.mem_of_getElem? (i := 8) rfl))))) (Nat.le_of_ble_eq_true rfl) (Nat.le_of_ble_eq_true rfl) (Nat.le_of_ble_eq_true rfl) (Nat.le_of_ble_eq_true rfl) dX9_scan_70 ?_
          refine lv_topi (fun x33 ex33 => ?_)
          have tx33 := z_tmmax ex33 rfl rfl
          refine lv_istore (lv' := [(4, .int x33), (3, .int x13), (2, .int x1), (0, .ref (ad 12)), (1, .int a1)]) hx hb dX9_scan_73 hl (by decide) rfl (fun ls hl => ?_)
          refine lv_goto (tgt := 18) hx hb dX9_scan_75 (by decide) ?_
          exact lp4ih x33 I29  _ _ _ (by omega) (by omega) (by omega) ⟨(by show 0 ≤ (I29 12 1).toInt ∧ (I29 12 1).toInt ≤ 500; exact hI29R.1), (by show 0 ≤ (I29 12 5).toInt ∧ (I29 12 5).toInt ≤ 501; exact hI29R.2.1), (by show (-1) ≤ (I29 12 6).toInt ∧ (I29 12 6).toInt ≤ 1000000; exact hI29R.2.2.1), (by show 0 ≤ (I29 12 9).toInt ∧ (I29 12 9).toInt ≤ 500; exact hI29R.2.2.2.1), (by show 0 ≤ (I29 12 13).toInt ∧ (I29 12 13).toInt ≤ 24; exact hI29R.2.2.2.2)⟩ ⟨e15, by omega, by omega, zs_I_t hsI (by rw [← hxs]; exact h18) ha31 (by omega) (zx_tk hx0 hE14 hee15 hT26 hV28).1 (zx_tk hx0 hE14 hee15 hT26 hV28).2 (by omega)⟩ f30 hW hS (lv_sub hl [0, 2, 3, 4] rfl)
  exact lp4 4294967296 (0) I2  _ _ _ (z_m0u _) (by rw [z_l0]; omega) (by rw [z_l0]; omega) ⟨(by show 0 ≤ (I2 12 1).toInt ∧ (I2 12 1).toInt ≤ 500; rw [eI2, z_up_k (by decide)]; exact hR.1), (by show 0 ≤ (I2 12 5).toInt ∧ (I2 12 5).toInt ≤ 501; rw [eI2, z_up_s]; decide), (by show (-1) ≤ (I2 12 6).toInt ∧ (I2 12 6).toInt ≤ 1000000; rw [eI2, z_up_k (by decide)]; exact hR.2.2.1), (by show 0 ≤ (I2 12 9).toInt ∧ (I2 12 9).toInt ≤ 500; rw [eI2, z_up_k (by decide)]; exact hR.2.2.2.1), (by show 0 ≤ (I2 12 13).toInt ∧ (I2 12 13).toInt ≤ 24; rw [eI2, z_up_k (by decide)]; exact hR.2.2.2.2)⟩ ⟨0, by decide, by omega, zs_I_0 (by show (I2 12 5).toInt = 0; have q9 : (I2 12 5) = 0 := (by rw [eI2, z_up_s]); rw [q9]; first | omega | decide) rfl⟩ f3 hW hS (lv_sub hl [0, 1, 2, 3] rfl)
