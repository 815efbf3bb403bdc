theorem zd_U_e_q {c : z_C} {I : z_I} {SS : Nat → List zp_T} {m r : Int} {x : Int32} (h0 : 0 ≤ x.toInt) (h : zv_UX c I SS x m (I 0 0).toInt r) : r = zd_U c I SS m x.toNatClampNeg := by
  have e := Classical.epsilon_spec (p := fun r => zv_UX c I SS (Int32.ofNat x.toNatClampNeg) m (I 0 0).toInt r) ⟨r, by rw [zd_on h0]; exact h⟩
  have e2 : zv_UX c I SS x m (I 0 0).toInt (zd_U c I SS m x.toNatClampNeg) := by
    have e3 : zv_UX c I SS (Int32.ofNat x.toNatClampNeg) m (I 0 0).toInt (zd_U c I SS m x.toNatClampNeg) := e
    rw [zd_on h0] at e3
    exact e3
  exact zi_R_u h e2 (fun _ _ => ⟨rfl, rfl⟩) (fun _ _ => rfl)
theorem zd_V_e_q {I : z_I} {RS : Nat → List zm_row} {m r : Int} {x : Int32} (h0 : 0 ≤ x.toInt) (h : zw_UX I RS x m (I 0 0).toInt r) : r = zd_V I RS m x.toNatClampNeg := by
  have e := Classical.epsilon_spec (p := fun r => zw_UX I RS (Int32.ofNat x.toNatClampNeg) m (I 0 0).toInt r) ⟨r, by rw [zd_on h0]; exact h⟩
  have e2 : zw_UX I RS x m (I 0 0).toInt (zd_V I RS m x.toNatClampNeg) := by
    have e3 : zw_UX I RS (Int32.ofNat x.toNatClampNeg) m (I 0 0).toInt (zd_V I RS m x.toNatClampNeg) := e
    rw [zd_on h0] at e3
    exact e3
  exact zi_R_u h e2 (fun _ _ => ⟨rfl, rfl⟩) (fun _ _ => rfl)
theorem zd_f_bn_q {B N B1 N1 D0 : Nat → Int} {n : Nat} {l0 : Int} (h : ∀ j, j < n → B1 j = B j ∧ N1 j = N j) : ∀ k : Nat, zd_f B1 N1 n D0 l0 k = zd_f B N n D0 l0 k
  | 0 => rfl
  | k + 1 => by
    have ih := zd_f_bn_q (l0 := l0) (D0 := D0) h k
    have eb : zd_b B1 (zd_f B1 N1 n D0 l0 k).2.1 n = zd_b B (zd_f B N n D0 l0 k).2.1 n := by
      rw [ih]
      exact zd_b_c n (fun j hj => ⟨(h j hj).1, rfl⟩)
    have hb := zd_b_b (B := B) (sv := (zd_f B N n D0 l0 k).2.1) n
    by_cases q : zd_b B (zd_f B N n D0 l0 k).2.1 n = -1
    · rw [zd_f_n (eb.trans q), zd_f_n q, ih]
    · have e1 := zd_f_y eb q
      have e2 := zd_f_y (B := B) (N := N) (D0 := D0) (n := n) (k := k) (l0 := l0) rfl q
      rw [e1, e2, ih, (h (zd_b B (zd_f B N n D0 l0 k).2.1 n).toNat (by omega)).2]
set_option maxHeartbeats 8000000 in
set_option maxRecDepth 100000 in
theorem sx_X1_together_d_q (l : Launch) (G : z_G) (ad : Nat → Nat) (c : z_C) (I : z_I) (hD : z_iD I) (hU : ∀ j : Nat, (j : Int) < (I 72 2).toInt → 0 ≤ (I 73 j).toInt ∧ (I 73 j).toInt ≤ 99) : z_M l yX1_together wsX1_together { frames := 1, cells := 0, slots := 0, locals := 12 } [.ref (ad 72)] G (shC c, ad, I, JX, PC c ad) (fun r u1 => u1 = (shC c, ad, I, JX, PC c ad) ∧ (r.toInt = zd_S (zd_u I) (I 72 2).toNatClampNeg ∧ 0 ≤ r.toInt ∧ r.toInt ≤ 2970)) 0 0 := by
  intro sz
  refine z_headQ (cc := cX1_together) (maxL := 3) (ret := (some .int)) (by decide) rfl (Nat.le_of_ble_eq_true rfl) ?_
  intro p e s m below meth c0 ls hIn hK hsz hW hl
  obtain ⟨hx, hb, hr, hml, hown, hts, hlocks, hname⟩ := hIn
  subst hsz
  have hown : s.vm.findClass RX1 = some m.cls := hown
  have hA : ∀ q : Nat, s.heap.size ≤ q → z_A (shC c, ad, I, JX, PC c ad) s.heap.size q := fun q h => Or.inr h
  generalize hAe : z_A (shC c, ad, I, JX, PC c ad) s.heap.size = A at *
  have hS : va_S A s.heap s.heap [] := va_S.rf
  have hl : lv_has ls 3 [(0, .ref (ad 72))] := hl
  have nD9 : 0 ≤ (I 72 2).toInt := hD.1
  refine lv_iconst (v := 0) hx hb dX1_together_0 (by decide) ?_
  refine lv_istore_n (lv' := [(1, .int 0), (0, .ref (ad 72))]) hx hb dX1_together_1 rfl hl (by decide) rfl (fun ls hl => ?_)
  refine lv_iconst (v := 0) hx hb dX1_together_2 (by decide) ?_
  refine lv_istore_n (lv' := [(2, .int 0), (1, .int 0), (0, .ref (ad 72))]) hx hb dX1_together_3 rfl hl (by decide) rfl (fun ls hl => ?_)
  have lp1 : ∀ (f : Nat) (y2 : Int32) (y3 : Int32) (H : Heap) (locs : List Loc) (ls : Array Slot), (2147483647 < y2.toInt + (f : Int)) → (0 ≤ y2.toInt) → (0 ≤ y3.toInt) → (y3.toInt ≤ 2970) → (y3.toInt = zd_S (zd_u I) y2.toNatClampNeg ∧ y3.toInt ≤ 99 * y2.toInt ∧ y2.toInt ≤ (I 72 2).toInt) → z_W G A (shC c, ad, I, JX, PC c ad) H → va_S A s.heap H locs → lv_has ls 3 [(2, .int y2), (1, .int y3), (0, .ref (ad 72))] → W p l e (headSpec wsX1_together { frames := 1, cells := 0, slots := 0, locals := 12 }).room s m ([.ref (ad 72)] : List Value).toArray below meth c0 H locs 0 0 (MQ below (va_Qi (fun (r : Int32) (u1 : z_U) => u1 = (shC c, ad, I, JX, PC c ad) ∧ (r.toInt = zd_S (zd_u I) (I 72 2).toNatClampNeg ∧ 0 ≤ r.toInt ∧ r.toInt ≤ 2970)) (z_B G A) A) ([.ref (ad 72)] : List Value).toArray s 0 0 A) (F0 m 4 ls []) := by
    intro f
    induction f with
    | zero => intro y2 y3 H locs ls lp1m lp1l2 lp1l1 lp1u1 lp1B hW hS hl; exact absurd lp1m (by have := Int32.toInt_lt y2; have := Int32.le_toInt y2; omega)
    | succ f lp1ih =>
      intro y2 y3 H locs ls lp1m lp1l2 lp1l1 lp1u1 lp1B hW hS hl
      refine lv_iload_n hx hb dX1_together_4 rfl (lv_at hl 0 rfl) ?_
      refine lv_aload_n hx hb dX1_together_5 rfl (lv_at hl 2 rfl) ?_
      have r4 : 0 ≤ (I 72 2).toInt ∧ (I 72 2).toInt ≤ 30 := hD
      refine z_get (T := TX1) (N := 3) (ci := 1) (i := 72) (v := .int (I 72 2)) hx hb hts zj_X1_together_X1 hown hK hW rfl rfl 2 (by decide) (hts (.fieldLink RX1 18 "PetrolBoard$Deal" "number" "I") (me_s (me_l (List.mem_of_getElem? (i := 0) rfl)))) (fun _ h => h) rfl dX1_together_6 ?_
      refine lv_icmp_ge (tgt := 36) hx hb dX1_together_9 (by decide) (fun c5 => ?_) (fun c5 => ?_)
      · have g6 := z_f_ge rfl rfl c5
        have b7 := Int32.toInt_lt y2
        refine lv_iload_n hx hb dX1_together_36 rfl (lv_at hl 1 rfl) ?_
        exact z_iret hx hb hr hK hS (Nat.le_of_ble_eq_true rfl) (Nat.le_of_ble_eq_true rfl) hlocks dX1_together_37 (shC c, ad, I, JX, PC c ad) hW ⟨rfl, (by have q1 := z_clt (x := y2) rfl (by omega); have q2 := z_clt (x := (I 72 2)) rfl (by omega); rw [show (I 72 2).toNatClampNeg = y2.toNatClampNeg by omega]; exact ⟨lp1B.1, by omega, by omega⟩)⟩
      · have g8 := z_f_nge rfl rfl c5
        have b9 := Int32.toInt_lt y2
        refine lv_iload_n hx hb dX1_together_12 rfl (lv_at hl 0 rfl) ?_
        refine lv_aload_n hx hb dX1_together_13 rfl (lv_at hl 2 rfl) ?_
        refine z_get (T := TX1) (N := 3) (ci := 1) (i := 72) (v := .ref (ad 73)) hx hb hts zj_X1_together_X1 hown hK hW rfl rfl 0 (by decide) (hts (.fieldLink RX1 9 "PetrolBoard$Deal" "units" "[I") (me_s (me_l (List.mem_of_getElem? (i := 1) rfl)))) (fun _ h => h) rfl dX1_together_14 ?_
        refine z_alen (i := 73) (v := 30) hx hb hK hW rfl (by simp [z_tys]) (by rfl) dX1_together_17 ?_
        refine lv_icmp_ge (tgt := 36) hx hb dX1_together_18 (by decide) (fun c10 => (by have g := z_f_ge rfl z_l30 c10; omega)) (fun c10 => ?_)
        have g11 := z_f_nge rfl z_l30 c10
        refine lv_iload_n hx hb dX1_together_21 rfl (lv_at hl 1 rfl) ?_
        refine lv_aload_n hx hb dX1_together_22 rfl (lv_at hl 2 rfl) ?_
        refine z_get (T := TX1) (N := 3) (ci := 1) (i := 72) (v := .ref (ad 73)) hx hb hts zj_X1_together_X1 hown hK hW rfl rfl 0 (by decide) (hts (.fieldLink RX1 9 "PetrolBoard$Deal" "units" "[I") (me_s (me_l (List.mem_of_getElem? (i := 1) rfl)))) (fun _ h => h) rfl dX1_together_23 ?_
        refine lv_iload_n hx hb dX1_together_26 rfl (lv_at hl 0 rfl) ?_
        refine z_iald (i := 73) hx hb hK hW rfl (z_ix rfl (by omega) (by omega)) dX1_together_27 ?_
        refine lv_topi (fun x12 ex12 => ?_)
        have hv13 : (I 73 y2.toNatClampNeg).toInt = x12.toInt := by rw [ex12]
        have hz14 := z_clt (x := y2) rfl (by omega)
        have hu15 := hU y2.toNatClampNeg (by omega)
        refine lv_iadd hx hb dX1_together_28 ?_
        refine lv_topi (fun x16 ex16 => ?_)
        have tx16 : x16.toInt = y3.toInt + x12.toInt := z_tadd ex16 rfl rfl (by omega) (by omega)
        refine lv_istore_n (lv' := [(1, .int x16), (2, .int y2), (0, .ref (ad 72))]) hx hb dX1_together_29 rfl hl (by decide) rfl (fun ls hl => ?_)
        obtain ⟨x17, ex17⟩ : ∃ y : Int32, y = y2 + 1 := ⟨_, rfl⟩
        have tx17 : x17.toInt = y2.toInt + 1 := z_tadd ex17 rfl z_l1 (by omega) (by omega)
        refine lv_iinc (v := x17) (lv' := [(2, .int x17), (1, .int x16), (0, .ref (ad 72))]) hx hb dX1_together_30 hl (k := 1) rfl (by rw [ex17]; rfl) (by decide) rfl (fun ls hl => ?_)
        refine lv_goto (tgt := 4) hx hb dX1_together_33 (by decide) ?_
        exact lp1ih x17 x16 _ _ _ (by omega) (by omega) (by omega) (by omega) ⟨by rw [show x17.toNatClampNeg = y2.toNatClampNeg + 1 from z_cln (by omega) (by omega), zd_S_s, ← lp1B.1]; unfold zd_u; omega, by omega, by omega⟩ hW hS (lv_sub hl [0, 1, 2] rfl)
  exact lp1 4294967296 (0) (0) _ _ _ (z_m0u _) (by rw [z_l0]; omega) (by rw [z_l0]; omega) (by rw [z_l0]; omega) ⟨by rw [show (0 : Int32).toNatClampNeg = 0 by decide]; rfl, by have q0 := z_l0; omega, by have q0 := z_l0; omega⟩ hW hS (lv_sub hl [0, 1, 2] rfl)
set_option maxHeartbeats 8000000 in
set_option maxRecDepth 100000 in
theorem sx_X1_bestBidder_d_q (l : Launch) (G : z_G) (ad : Nat → Nat) (c : z_C) (I : z_I) (hD : z_iD I) (hH : z_iH I) (hn : (I 72 2).toInt ≤ (I 1 5).toInt) : z_M l yX1_bestBidder wsX1_bestBidder { frames := 2, cells := 0, slots := 0, locals := 33 } [.ref (ad 72), .ref (ad 1)] G (shC c, ad, I, JX, PC c ad) (fun r u1 => u1 = (shC c, ad, I, JX, PC c ad) ∧ (r.toInt = zd_b (zd_B I) (zd_v I) (I 72 2).toNatClampNeg)) 0 0 := by
  intro sz
  refine z_headQ (cc := cX1_bestBidder) (maxL := 4) (ret := (some .int)) (by decide) rfl (Nat.le_of_ble_eq_true rfl) ?_
  intro p e s m below meth c0 ls hIn hK hsz hW hl
  obtain ⟨hx, hb, hr, hml, hown, hts, hlocks, hname⟩ := hIn
  subst hsz
  have hown : s.vm.findClass RX1 = some m.cls := hown
  have hA : ∀ q : Nat, s.heap.size ≤ q → z_A (shC c, ad, I, JX, PC c ad) s.heap.size q := fun q h => Or.inr h
  generalize hAe : z_A (shC c, ad, I, JX, PC c ad) s.heap.size = A at *
  have hS : va_S A s.heap s.heap [] := va_S.rf
  have hl : lv_has ls 4 [(0, .ref (ad 72)), (1, .ref (ad 1))] := hl
  have nD9 : 0 ≤ (I 72 2).toInt := hD.1
  refine lv_iconst (v := (-1)) hx hb dX1_bestBidder_0 (by decide) ?_
  refine lv_istore_n (lv' := [(2, .int (-1)), (0, .ref (ad 72)), (1, .ref (ad 1))]) hx hb dX1_bestBidder_1 rfl hl (by decide) rfl (fun ls hl => ?_)
  refine lv_iconst (v := 0) hx hb dX1_bestBidder_2 (by decide) ?_
  refine lv_istore_n (lv' := [(3, .int 0), (2, .int (-1)), (0, .ref (ad 72)), (1, .ref (ad 1))]) hx hb dX1_bestBidder_3 rfl hl (by decide) rfl (fun ls hl => ?_)
  have lp1 : ∀ (f : Nat) (y2 : Int32) (y3 : Int32) (H : Heap) (locs : List Loc) (ls : Array Slot), (2147483647 < y2.toInt + (f : Int)) → (0 ≤ y2.toInt) → ((-1) ≤ y3.toInt) → (y3.toInt ≤ 29) → (y3.toInt = zd_b (zd_B I) (zd_v I) y2.toNatClampNeg ∧ y2.toInt ≤ (I 72 2).toInt) → z_W G A (shC c, ad, I, JX, PC c ad) H → va_S A s.heap H locs → lv_has ls 4 [(3, .int y2), (2, .int y3), (0, .ref (ad 72)), (1, .ref (ad 1))] → W p l e (headSpec wsX1_bestBidder { frames := 2, cells := 0, slots := 0, locals := 33 }).room s m ([.ref (ad 72), .ref (ad 1)] : List Value).toArray below meth c0 H locs 0 0 (MQ below (va_Qi (fun (r : Int32) (u1 : z_U) => u1 = (shC c, ad, I, JX, PC c ad) ∧ (r.toInt = zd_b (zd_B I) (zd_v I) (I 72 2).toNatClampNeg)) (z_B G A) A) ([.ref (ad 72), .ref (ad 1)] : List Value).toArray s 0 0 A) (F0 m 4 ls []) := by
    intro f
    induction f with
    | zero => intro y2 y3 H locs ls lp1m lp1l3 lp1l2 lp1u2 lp1B hW hS hl; exact absurd lp1m (by have := Int32.toInt_lt y2; have := Int32.le_toInt y2; omega)
    | succ f lp1ih =>
      intro y2 y3 H locs ls lp1m lp1l3 lp1l2 lp1u2 lp1B hW hS hl
      refine lv_iload_n hx hb dX1_bestBidder_4 rfl (lv_at hl 0 rfl) ?_
      refine lv_aload_n hx hb dX1_bestBidder_5 rfl (lv_at hl 2 rfl) ?_
      have r4 : 0 ≤ (I 72 2).toInt ∧ (I 72 2).toInt ≤ 30 := hD
      refine z_get (T := TX1) (N := 3) (ci := 1) (i := 72) (v := .int (I 72 2)) hx hb hts zj_X1_bestBidder_X1 hown hK hW rfl rfl 2 (by decide) (hts (.fieldLink RX1 18 "PetrolBoard$Deal" "number" "I") (me_s (me_l (me_l (List.mem_of_getElem? (i := 0) rfl))))) (fun _ h => h) rfl dX1_bestBidder_6 ?_
      refine lv_icmp_ge (tgt := 57) hx hb dX1_bestBidder_9 (by decide) (fun c5 => ?_) (fun c5 => ?_)
      · have g6 := z_f_ge rfl rfl c5
        have b7 := Int32.toInt_lt y2
        refine lv_iload_n hx hb dX1_bestBidder_57 rfl (lv_at hl 1 rfl) ?_
        exact z_iret hx hb hr hK hS (Nat.le_of_ble_eq_true rfl) (Nat.le_of_ble_eq_true rfl) hlocks dX1_bestBidder_58 (shC c, ad, I, JX, PC c ad) hW ⟨rfl, (by have q1 := z_clt (x := y2) rfl (by omega); have q2 := z_clt (x := (I 72 2)) rfl (by omega); rw [show (I 72 2).toNatClampNeg = y2.toNatClampNeg by omega]; exact lp1B.1)⟩
      · have g8 := z_f_nge rfl rfl c5
        have b9 := Int32.toInt_lt y2
        refine lv_aload_n hx hb dX1_bestBidder_12 rfl (lv_at hl 3 rfl) ?_
        refine lv_iload_n hx hb dX1_bestBidder_13 rfl (lv_at hl 0 rfl) ?_
        refine z_ci hW hS hA (va_runV (As := [.int y2]) (rest := []) ⟨hx, hb, hml, hown, hts⟩ (sx_X2_has_e l G ad c I ⟨(by show 0 ≤ (I 1 5).toInt ∧ (I 1 5).toInt ≤ 30; exact hH.1), (by show 0 ≤ (I 1 11).toInt ∧ (I 1 11).toInt ≤ 200; exact hH.2)⟩ y2 _) (cwV 1 hts gX1_bestBidder_X2_has rfl rfl rfl (by decide +kernel) ⟨Nat.le_of_ble_eq_true rfl, Nat.le_of_ble_eq_true rfl⟩) (z_preV (i := 1) hK hW rfl rfl) rfl rfl hl.1 rfl (lv_room (Nat.le_of_ble_eq_true rfl)) dX1_bestBidder_14 ⟨Nat.le_of_ble_eq_true rfl, Nat.le_of_ble_eq_true rfl⟩) (fun r u1 H locs hp hW hS => ?_)
        obtain ⟨e9, hp⟩ := hp
        rw [e9] at hW
        rcases hp with ⟨rfl, h11⟩ | ⟨rfl, h11⟩
        · have h12 := h11
          have r13 : 0 ≤ (I 1 5).toInt ∧ (I 1 5).toInt ≤ 30 := hH.1
          refine lv_if_eq (tgt := 57) hx hb dX1_bestBidder_17 (by decide) (fun c14 => absurd c14 (by decide)) (fun c14 => ?_)
          refine lv_aload_n hx hb dX1_bestBidder_20 rfl (lv_at hl 2 rfl) ?_
          refine z_get (T := TX1) (N := 3) (ci := 1) (i := 72) (v := .ref (ad 74)) hx hb hts zj_X1_bestBidder_X1 hown hK hW rfl rfl 1 (by decide) (hts (.fieldLink RX1 15 "PetrolBoard$Deal" "served" "[I") (me_s (me_l (me_l (List.mem_of_getElem? (i := 1) rfl))))) (fun _ h => h) rfl dX1_bestBidder_21 ?_
          refine lv_iload_n hx hb dX1_bestBidder_24 rfl (lv_at hl 0 rfl) ?_
          refine z_iald (i := 74) hx hb hK hW rfl (z_ix rfl (by omega) (by omega)) dX1_bestBidder_25 ?_
          refine lv_topi (fun x15 ex15 => ?_)
          have hv16 : (I 74 y2.toNatClampNeg).toInt = x15.toInt := by rw [ex15]
          have hz17 := z_clt (x := y2) rfl (by omega)
          refine lv_if_ne (tgt := 51) hx hb dX1_bestBidder_26 (by decide) (fun c18 => ?_) (fun c18 => ?_)
          · have g19 := z_f_ne rfl z_l0 c18
            have b20 := Int32.toInt_lt x15
            obtain ⟨x21, ex21⟩ : ∃ y : Int32, y = y2 + 1 := ⟨_, rfl⟩
            have tx21 : x21.toInt = y2.toInt + 1 := z_tadd ex21 rfl z_l1 (by omega) (by omega)
            refine lv_iinc (v := x21) (lv' := [(3, .int x21), (2, .int y3), (0, .ref (ad 72)), (1, .ref (ad 1))]) hx hb dX1_bestBidder_51 hl (k := 0) rfl (by rw [ex21]; rfl) (by decide) rfl (fun ls hl => ?_)
            refine lv_goto (tgt := 4) hx hb dX1_bestBidder_54 (by decide) ?_
            exact lp1ih x21 y3 _ _ _ (by omega) (by omega) (by omega) (by omega) (by have c9 := z_clt (x := y2) rfl (by omega); have bd := zd_b_b (B := zd_B I) (sv := zd_v I) y2.toNatClampNeg; have s9 : zd_v I y2.toNatClampNeg = decide (¬ x15.toInt = 0) := (by unfold zd_v; rw [hv16]); exact ⟨by rw [(show x21.toNatClampNeg = y2.toNatClampNeg + 1 from z_cln (by omega) (by omega)), zd_b_n (fun q => absurd (q.1.symm.trans s9) (by rw [decide_eq_true (by omega)]; decide))]; exact lp1B.1, by omega⟩) hW hS (lv_sub hl [0, 1, 2, 3] rfl)
          · have g22 := z_f_eq rfl z_l0 c18
            have b23 := Int32.toInt_lt x15
            refine lv_iload_n hx hb dX1_bestBidder_29 rfl (lv_at hl 1 rfl) ?_
            refine lv_iconst (v := (-1)) hx hb dX1_bestBidder_30 (by decide) ?_
            refine lv_icmp_eq (tgt := 49) hx hb dX1_bestBidder_31 (by decide) (fun c24 => ?_) (fun c24 => ?_)
            · have g25 := z_f_eq rfl z_lm1 c24
              refine lv_iload_n hx hb dX1_bestBidder_49 rfl (lv_at hl 0 rfl) ?_
              refine lv_istore_n (lv' := [(2, .int y2), (3, .int y2), (0, .ref (ad 72)), (1, .ref (ad 1))]) hx hb dX1_bestBidder_50 rfl hl (by decide) rfl (fun ls hl => ?_)
              obtain ⟨x26, ex26⟩ : ∃ y : Int32, y = y2 + 1 := ⟨_, rfl⟩
              have tx26 : x26.toInt = y2.toInt + 1 := z_tadd ex26 rfl z_l1 (by omega) (by omega)
              refine lv_iinc (v := x26) (lv' := [(3, .int x26), (2, .int y2), (0, .ref (ad 72)), (1, .ref (ad 1))]) hx hb dX1_bestBidder_51 hl (k := 1) rfl (by rw [ex26]; rfl) (by decide) rfl (fun ls hl => ?_)
              refine lv_goto (tgt := 4) hx hb dX1_bestBidder_54 (by decide) ?_
              exact lp1ih x26 y2 _ _ _ (by omega) (by omega) (by omega) (by omega) (by have c9 := z_clt (x := y2) rfl (by omega); have bd := zd_b_b (B := zd_B I) (sv := zd_v I) y2.toNatClampNeg; have s9 : zd_v I y2.toNatClampNeg = decide (¬ x15.toInt = 0) := (by unfold zd_v; rw [hv16]); exact ⟨by rw [(show x26.toNatClampNeg = y2.toNatClampNeg + 1 from z_cln (by omega) (by omega)), zd_b_y ⟨s9.trans (decide_eq_false (by omega)), Or.inl (by omega)⟩]; omega, by omega⟩) hW hS (lv_sub hl [0, 1, 2, 3] rfl)
            · have g27 := z_f_ne rfl z_lm1 c24
              refine lv_aload_n hx hb dX1_bestBidder_34 rfl (lv_at hl 3 rfl) ?_
              refine z_get (T := TX2) (N := 12) (ci := 2) (i := 1) (v := .ref (ad 5)) hx hb hts zj_X1_bestBidder_X2 hown hK hW rfl rfl 3 (by decide) (hts (.fieldLink RX1 51 "PetrolBoard$Holders" "bid" "[I") (me_s (me_l (me_l (List.mem_of_getElem? (i := 2) rfl))))) (fun _ h => h) rfl dX1_bestBidder_35 ?_
              refine lv_iload_n hx hb dX1_bestBidder_38 rfl (lv_at hl 0 rfl) ?_
              refine z_iald (i := 5) hx hb hK hW rfl (z_ix rfl (by omega) (by omega)) dX1_bestBidder_39 ?_
              refine lv_topi (fun x28 ex28 => ?_)
              have hv29 : (I 5 y2.toNatClampNeg).toInt = x28.toInt := by rw [ex28]
              have hz30 := z_clt (x := y2) rfl (by omega)
              refine lv_aload_n hx hb dX1_bestBidder_40 rfl (lv_at hl 3 rfl) ?_
              refine z_get (T := TX2) (N := 12) (ci := 2) (i := 1) (v := .ref (ad 5)) hx hb hts zj_X1_bestBidder_X2 hown hK hW rfl rfl 3 (by decide) (hts (.fieldLink RX1 51 "PetrolBoard$Holders" "bid" "[I") (me_s (me_l (me_l (List.mem_of_getElem? (i := 2) rfl))))) (fun _ h => h) rfl dX1_bestBidder_41 ?_
              refine lv_iload_n hx hb dX1_bestBidder_44 rfl (lv_at hl 1 rfl) ?_
              refine z_iald (i := 5) hx hb hK hW rfl (z_ix rfl (by omega) (by omega)) dX1_bestBidder_45 ?_
              refine lv_topi (fun x31 ex31 => ?_)
              have hv32 : (I 5 y3.toNatClampNeg).toInt = x31.toInt := by rw [ex31]
              have hz33 := z_clt (x := y3) rfl (by omega)
              refine lv_icmp_le (tgt := 51) hx hb dX1_bestBidder_46 (by decide) (fun c34 => ?_) (fun c34 => ?_)
              · have g35 := z_f_le rfl rfl c34
                have b36 := Int32.toInt_lt x28
                have b37 := Int32.toInt_lt x31
                obtain ⟨x38, ex38⟩ : ∃ y : Int32, y = y2 + 1 := ⟨_, rfl⟩
                have tx38 : x38.toInt = y2.toInt + 1 := z_tadd ex38 rfl z_l1 (by omega) (by omega)
                refine lv_iinc (v := x38) (lv' := [(3, .int x38), (2, .int y3), (0, .ref (ad 72)), (1, .ref (ad 1))]) hx hb dX1_bestBidder_51 hl (k := 0) rfl (by rw [ex38]; rfl) (by decide) rfl (fun ls hl => ?_)
                refine lv_goto (tgt := 4) hx hb dX1_bestBidder_54 (by decide) ?_
                exact lp1ih x38 y3 _ _ _ (by omega) (by omega) (by omega) (by omega) (by have c9 := z_clt (x := y2) rfl (by omega); have bd := zd_b_b (B := zd_B I) (sv := zd_v I) y2.toNatClampNeg; have s9 : zd_v I y2.toNatClampNeg = decide (¬ x15.toInt = 0) := (by unfold zd_v; rw [hv16]); have t9 : (zd_b (zd_B I) (zd_v I) y2.toNatClampNeg).toNat = y3.toNatClampNeg := (by rw [← lp1B.1]; rfl); have v9 : zd_B I y2.toNatClampNeg = x28.toInt := hv29; have w9 : zd_B I y3.toNatClampNeg = x31.toInt := hv32; exact ⟨by rw [(show x38.toNatClampNeg = y2.toNatClampNeg + 1 from z_cln (by omega) (by omega)), zd_b_n (fun q => by have q2 := q.2; rw [t9, v9, w9] at q2; omega)]; exact lp1B.1, by omega⟩) hW hS (lv_sub hl [0, 1, 2, 3] rfl)
              · have g39 := z_f_nle rfl rfl c34
                have b40 := Int32.toInt_lt x28
                have b41 := Int32.toInt_lt x31
                refine lv_iload_n hx hb dX1_bestBidder_49 rfl (lv_at hl 0 rfl) ?_
                refine lv_istore_n (lv' := [(2, .int y2), (3, .int y2), (0, .ref (ad 72)), (1, .ref (ad 1))]) hx hb dX1_bestBidder_50 rfl hl (by decide) rfl (fun ls hl => ?_)
                obtain ⟨x42, ex42⟩ : ∃ y : Int32, y = y2 + 1 := ⟨_, rfl⟩
                have tx42 : x42.toInt = y2.toInt + 1 := z_tadd ex42 rfl z_l1 (by omega) (by omega)
                refine lv_iinc (v := x42) (lv' := [(3, .int x42), (2, .int y2), (0, .ref (ad 72)), (1, .ref (ad 1))]) hx hb dX1_bestBidder_51 hl (k := 1) rfl (by rw [ex42]; rfl) (by decide) rfl (fun ls hl => ?_)
                refine lv_goto (tgt := 4) hx hb dX1_bestBidder_54 (by decide) ?_
                exact lp1ih x42 y2 _ _ _ (by omega) (by omega) (by omega) (by omega) (by have c9 := z_clt (x := y2) rfl (by omega); have bd := zd_b_b (B := zd_B I) (sv := zd_v I) y2.toNatClampNeg; have s9 : zd_v I y2.toNatClampNeg = decide (¬ x15.toInt = 0) := (by unfold zd_v; rw [hv16]); have t9 : (zd_b (zd_B I) (zd_v I) y2.toNatClampNeg).toNat = y3.toNatClampNeg := (by rw [← lp1B.1]; rfl); have v9 : zd_B I y2.toNatClampNeg = x28.toInt := hv29; have w9 : zd_B I y3.toNatClampNeg = x31.toInt := hv32; exact ⟨by rw [(show x42.toNatClampNeg = y2.toNatClampNeg + 1 from z_cln (by omega) (by omega)), zd_b_y ⟨s9.trans (decide_eq_false (by omega)), Or.inr (by rw [t9, v9, w9]; omega)⟩]; omega, by omega⟩) hW hS (lv_sub hl [0, 1, 2, 3] rfl)
        · have h43 := h11
          have r44 : 0 ≤ (I 1 5).toInt ∧ (I 1 5).toInt ≤ 30 := hH.1
          refine lv_if_eq (tgt := 57) hx hb dX1_bestBidder_17 (by decide) (fun c45 => ?_) (fun c45 => absurd (by decide) c45)
          refine lv_iload_n hx hb dX1_bestBidder_57 rfl (lv_at hl 1 rfl) ?_
          exact z_iret hx hb hr hK hS (Nat.le_of_ble_eq_true rfl) (Nat.le_of_ble_eq_true rfl) hlocks dX1_bestBidder_58 (shC c, ad, I, JX, PC c ad) hW ⟨rfl, (by have q1 := z_clt (x := y2) rfl (by omega); have q2 := z_clt (x := (I 72 2)) rfl (by omega); rw [show (I 72 2).toNatClampNeg = y2.toNatClampNeg by omega]; exact lp1B.1)⟩
  exact lp1 4294967296 (0) ((-1)) _ _ _ (z_m0u _) (by rw [z_l0]; omega) (by rw [z_lm1]; omega) (by rw [z_lm1]; omega) ⟨by rw [show (0 : Int32).toNatClampNeg = 0 by decide]; show (-1 : Int32).toInt = (-1 : Int); decide, by have q0 := z_l0; omega⟩ hW hS (lv_sub hl [0, 1, 2, 3] rfl)
set_option maxHeartbeats 8000000 in
set_option maxRecDepth 100000 in
theorem sx_X1_sell_d_q (l : Launch) (G : z_G) (ad : Nat → Nat) (c : z_C) (I : z_I) (hD : z_iD I) (hH : z_iH I) (hU : ∀ j : Nat, (j : Int) < (I 72 2).toInt → 0 ≤ (I 73 j).toInt ∧ (I 73 j).toInt ≤ 99) (hn : (I 72 2).toInt ≤ (I 1 5).toInt) (hN : ∀ j : Nat, (j : Int) < (I 1 5).toInt → 0 ≤ (I 6 j).toInt ∧ (I 6 j).toInt ≤ 99) : z_Mv l yX1_sell wsX1_sell { frames := 3, cells := 0, slots := 0, locals := 56 } [.ref (ad 72), .ref (ad 1)] G (shC c, ad, I, JX, PC c ad) (fun u1 => ∃ I1 : z_I, u1 = (shC c, ad, I1, JX, PC c ad) ∧ z_iD I1 ∧ z_iH I1 ∧ z_fr L_X1_sell_d I1 I ∧ ∀ j, (I1 73 j).toInt = (zd_F I (I 72 2).toNatClampNeg).1 j) 0 0 := by
  intro sz
  refine z_headQ (cc := cX1_sell) (maxL := 5) (ret := none) (by decide) rfl (Nat.le_of_ble_eq_true rfl) ?_
  intro p e s m below meth c0 ls hIn hK hsz hW hl
  obtain ⟨hx, hb, hr, hml, hown, hts, hlocks, hname⟩ := hIn
  subst hsz
  have hown : s.vm.findClass RX1 = some m.cls := hown
  have hA : ∀ q : Nat, s.heap.size ≤ q → z_A (shC c, ad, I, JX, PC c ad) s.heap.size q := fun q h => Or.inr h
  generalize hAe : z_A (shC c, ad, I, JX, PC c ad) s.heap.size = A at *
  have hS : va_S A s.heap s.heap [] := va_S.rf
  have hl : lv_has ls 5 [(0, .ref (ad 72)), (1, .ref (ad 1))] := hl
  have nD9 : 0 ≤ (I 72 2).toInt := hD.1
  refine lv_aload_n hx hb dX1_sell_0 rfl (lv_at hl 0 rfl) ?_
  refine z_ci hW hS hA (va_runV (As := []) (rest := []) ⟨hx, hb, hml, hown, hts⟩ (sx_X1_together_d l G ad c I (by show 0 ≤ (I 72 2).toInt ∧ (I 72 2).toInt ≤ 30; exact hD) hU _) (cwV 0 hts gX1_sell_X1_together rfl rfl rfl (by decide +kernel) ⟨Nat.le_of_ble_eq_true rfl, Nat.le_of_ble_eq_true rfl⟩) (z_preV (i := 72) hK hW rfl rfl) rfl rfl hl.1 rfl (lv_room (Nat.le_of_ble_eq_true rfl)) dX1_sell_1 ⟨Nat.le_of_ble_eq_true rfl, Nat.le_of_ble_eq_true rfl⟩) (fun r u1 H locs hp hW hS => ?_)
  obtain ⟨e9, hp⟩ := hp
  rw [e9] at hW
  refine lv_topi (fun x1 ex1 => ?_)
  rw [← ex1] at hp
  have hP2 := hp
  refine lv_istore_n (lv' := [(2, .int x1), (0, .ref (ad 72)), (1, .ref (ad 1))]) hx hb dX1_sell_4 rfl hl (by decide) rfl (fun ls hl => ?_)
  refine lv_aload_n hx hb dX1_sell_5 rfl (lv_at hl 1 rfl) ?_
  refine z_get (T := TX1) (N := 3) (ci := 1) (i := 72) (v := .ref (ad 74)) hx hb hts zj_X1_sell_X1 hown hK hW rfl rfl 1 (by decide) (hts (.fieldLink RX1 15 "PetrolBoard$Deal" "served" "[I") (me_s (me_l (me_l (me_l (List.mem_of_getElem? (i := 0) rfl)))))) (fun _ h => h) rfl dX1_sell_6 ?_
  refine lv_iconst (v := 0) hx hb dX1_sell_9 (by decide) ?_
  refine z_cc hW hS hA (va_runS (As := [.ref (ad 74), .int 0]) (rest := []) ⟨hx, hb, hml, hown, hts⟩ (ct_fill l G 74 30 0 rfl (by decide) _) (va_cwS 2 hts gX1_sell_J7_fill_53178 rfl rfl rfl (by decide +kernel) ⟨Nat.le_of_ble_eq_true rfl, Nat.le_of_ble_eq_true rfl⟩) (z_preS hK hW) rfl rfl hl.1 rfl (lv_room (Nat.le_of_ble_eq_true rfl)) dX1_sell_10 ⟨Nat.le_of_ble_eq_true rfl, Nat.le_of_ble_eq_true rfl⟩) (fun H locs hz1 hW hS => ?_)
  obtain ⟨I3, eI3⟩ : ∃ K : z_I, K = z_fi I 74 0 := ⟨_, rfl⟩
  rw [← eI3] at hW
  have f4 := z_fr_f z_fr_0 (show z_wa L_X1_sell_d 74 = true by decide) eI3
  refine lv_iconst (v := 0) hx hb dX1_sell_13 (by decide) ?_
  refine lv_istore_n (lv' := [(3, .int 0), (2, .int x1), (0, .ref (ad 72)), (1, .ref (ad 1))]) hx hb dX1_sell_14 rfl hl (by decide) rfl (fun ls hl => ?_)
  have lp5 : ∀ (f : Nat) (y6 : Int32) (y7 : Int32) (I8 : z_I) (H : Heap) (locs : List Loc) (ls : Array Slot), (2147483647 < y6.toInt + (f : Int)) → (0 ≤ y6.toInt) → (0 ≤ y7.toInt) → (y7.toInt ≤ 2970) → (z_iD I8) → (z_iH I8) → ((∀ j, (I8 73 j).toInt = (zd_F I y6.toNatClampNeg).1 j) ∧ (∀ j, zd_v I8 j = (zd_F I y6.toNatClampNeg).2.1 j) ∧ y7.toInt = (zd_F I y6.toNatClampNeg).2.2 ∧ y6.toInt ≤ (I 72 2).toInt) → (z_fr L_X1_sell_d I8 I) → z_W G A (shC c, ad, I8, JX, PC c ad) H → va_S A s.heap H locs → lv_has ls 5 [(3, .int y6), (2, .int y7), (0, .ref (ad 72)), (1, .ref (ad 1))] → W p l e (headSpec wsX1_sell { frames := 3, cells := 0, slots := 0, locals := 56 }).room s m ([.ref (ad 72), .ref (ad 1)] : List Value).toArray below meth c0 H locs 0 0 (MQ below (va_Qv (fun (u1 : z_U) => ∃ I1 : z_I, u1 = (shC c, ad, I1, JX, PC c ad) ∧ z_iD I1 ∧ z_iH I1 ∧ z_fr L_X1_sell_d I1 I ∧ ∀ j, (I1 73 j).toInt = (zd_F I (I 72 2).toNatClampNeg).1 j) (z_B G A) A) ([.ref (ad 72), .ref (ad 1)] : List Value).toArray s 0 0 A) (F0 m 15 ls []) := by
    intro f
    induction f with
    | zero => intro y6 y7 I8  H locs ls lp5m lp5l3 lp5l2 lp5u2 lp5D lp5H lp5S lp5fr hW hS hl; exact absurd lp5m (by have := Int32.toInt_lt y6; have := Int32.le_toInt y6; omega)
    | succ f lp5ih =>
      intro y6 y7 I8  H locs ls lp5m lp5l3 lp5l2 lp5u2 lp5D lp5H lp5S lp5fr hW hS hl
      refine lv_iload_n hx hb dX1_sell_15 rfl (lv_at hl 0 rfl) ?_
      have hn9 : (I8 72 2).toInt = (I 72 2).toInt := by rw [lp5fr 72 2 (by decide)]
      refine lv_aload_n hx hb dX1_sell_16 rfl (lv_at hl 2 rfl) ?_
      have r10 : 0 ≤ (I8 72 2).toInt ∧ (I8 72 2).toInt ≤ 30 := lp5D
      refine z_get (T := TX1) (N := 3) (ci := 1) (i := 72) (v := .int (I8 72 2)) hx hb hts zj_X1_sell_X1 hown hK hW rfl rfl 2 (by decide) (hts (.fieldLink RX1 18 "PetrolBoard$Deal" "number" "I") (me_s (me_l (me_l (me_l (List.mem_of_getElem? (i := 1) rfl)))))) (fun _ h => h) rfl dX1_sell_17 ?_
      refine lv_icmp_ge (tgt := 85) hx hb dX1_sell_20 (by decide) (fun c11 => ?_) (fun c11 => ?_)
      · have g12 := z_f_ge rfl rfl c11
        have b13 := Int32.toInt_lt y6
        exact z_vret hx hb hr hK hS (Nat.le_of_ble_eq_true rfl) (Nat.le_of_ble_eq_true rfl) hlocks dX1_sell_85 (shC c, ad, I8, JX, PC c ad) hW ⟨I8, rfl, (by show 0 ≤ (I8 72 2).toInt ∧ (I8 72 2).toInt ≤ 30; exact lp5D), ⟨(by show 0 ≤ (I8 1 5).toInt ∧ (I8 1 5).toInt ≤ 30; exact lp5H.1), (by show 0 ≤ (I8 1 11).toInt ∧ (I8 1 11).toInt ≤ 200; exact lp5H.2)⟩, lp5fr, (fun j => by have q1 := z_clt (x := y6) rfl (by omega); have q2 := z_clt (x := (I 72 2)) rfl (by omega); rw [show (I 72 2).toNatClampNeg = y6.toNatClampNeg by omega]; exact lp5S.1 j)⟩
      · have g14 := z_f_nge rfl rfl c11
        have b15 := Int32.toInt_lt y6
        refine lv_aload_n hx hb dX1_sell_23 rfl (lv_at hl 2 rfl) ?_
        refine lv_aload_n hx hb dX1_sell_24 rfl (lv_at hl 3 rfl) ?_
        refine z_ci hW hS hA (va_runV (As := [.ref (ad 1)]) (rest := []) ⟨hx, hb, hml, hown, hts⟩ (sx_X1_bestBidder_d l G ad c I8 (by show 0 ≤ (I8 72 2).toInt ∧ (I8 72 2).toInt ≤ 30; exact lp5D) ⟨(by show 0 ≤ (I8 1 5).toInt ∧ (I8 1 5).toInt ≤ 30; exact lp5H.1), (by show 0 ≤ (I8 1 11).toInt ∧ (I8 1 11).toInt ≤ 200; exact lp5H.2)⟩ (by rw [lp5fr 72 2 (by decide), lp5fr 1 5 (by decide)]; exact hn) _) (cwV 1 hts gX1_sell_X1_bestBidder rfl rfl rfl (by decide +kernel) ⟨Nat.le_of_ble_eq_true rfl, Nat.le_of_ble_eq_true rfl⟩) (z_preV (i := 72) hK hW rfl rfl) rfl rfl hl.1 rfl (lv_room (Nat.le_of_ble_eq_true rfl)) dX1_sell_25 ⟨Nat.le_of_ble_eq_true rfl, Nat.le_of_ble_eq_true rfl⟩) (fun r u1 H locs hp hW hS => ?_)
        obtain ⟨e9, hp⟩ := hp
        rw [e9] at hW
        refine lv_topi (fun x16 ex16 => ?_)
        rw [← ex16] at hp
        have hP17 := hp
        refine lv_istore (lv' := [(4, .int x16), (3, .int y6), (2, .int y7), (0, .ref (ad 72)), (1, .ref (ad 1))]) hx hb dX1_sell_28 hl (by decide) rfl (fun ls hl => ?_)
        have hq18 : zd_b (zd_B I) (zd_F I y6.toNatClampNeg).2.1 (I 72 2).toNatClampNeg = x16.toInt := by
          have b1 : zd_B I8 = zd_B I := funext fun j => by unfold zd_B; rw [lp5fr 5 j (z_wr_c (by decide))]
          have b2 : zd_v I8 = (zd_F I y6.toNatClampNeg).2.1 := funext lp5S.2.1
          rw [hP17, b1, b2, lp5fr 72 2 (by decide)]
        have hbb19 := zd_b_b (B := zd_B I) (sv := (zd_F I y6.toNatClampNeg).2.1) (I 72 2).toNatClampNeg
        have hcn20 := z_clt (x := (I 72 2)) rfl (by omega)
        refine lv_iload hx hb dX1_sell_30 (lv_at hl 0 rfl) ?_
        refine lv_if_lt (tgt := 42) hx hb dX1_sell_32 (by decide) (fun c21 => ?_) (fun c21 => ?_)
        · have g22 := z_f_lt rfl z_l0 c21
          have b23 := Int32.toInt_lt x16
          exact z_vret hx hb hr hK hS (Nat.le_of_ble_eq_true rfl) (Nat.le_of_ble_eq_true rfl) hlocks dX1_sell_42 (shC c, ad, I8, JX, PC c ad) hW ⟨I8, rfl, (by show 0 ≤ (I8 72 2).toInt ∧ (I8 72 2).toInt ≤ 30; exact lp5D), ⟨(by show 0 ≤ (I8 1 5).toInt ∧ (I8 1 5).toInt ≤ 30; exact lp5H.1), (by show 0 ≤ (I8 1 11).toInt ∧ (I8 1 11).toInt ≤ 200; exact lp5H.2)⟩, lp5fr, (fun j => by have q1 := z_clt (x := y6) rfl (by omega); have q2 := z_clt (x := (I 72 2)) rfl (by omega); have e9 : (zd_F I (I 72 2).toNatClampNeg) = (zd_F I y6.toNatClampNeg) := (by have e8 := zd_f_st (k := y6.toNatClampNeg) (show zd_b (zd_B I) (zd_F I y6.toNatClampNeg).2.1 (I 72 2).toNatClampNeg = -1 by rw [hq18]; omega) ((I 72 2).toNatClampNeg - y6.toNatClampNeg); rw [show y6.toNatClampNeg + ((I 72 2).toNatClampNeg - y6.toNatClampNeg) = (I 72 2).toNatClampNeg by omega] at e8; exact e8); rw [e9]; exact lp5S.1 j)⟩
        · have g24 := z_f_nlt rfl z_l0 c21
          have b25 := Int32.toInt_lt x16
          refine lv_iload hx hb dX1_sell_35 (lv_at hl 0 rfl) ?_
          refine lv_bipush (v := 30) hx hb dX1_sell_37 (by decide) ?_
          refine lv_icmp_lt (tgt := 43) hx hb dX1_sell_39 (by decide) (fun c26 => ?_) (fun c26 => ?_)
          · have g27 := z_f_lt rfl z_l30 c26
            refine lv_aload_n hx hb dX1_sell_43 rfl (lv_at hl 3 rfl) ?_
            refine z_get (T := TX1) (N := 3) (ci := 1) (i := 72) (v := .ref (ad 74)) hx hb hts zj_X1_sell_X1 hown hK hW rfl rfl 1 (by decide) (hts (.fieldLink RX1 15 "PetrolBoard$Deal" "served" "[I") (me_s (me_l (me_l (me_l (List.mem_of_getElem? (i := 0) rfl)))))) (fun _ h => h) rfl dX1_sell_44 ?_
            refine lv_iload hx hb dX1_sell_47 (lv_at hl 0 rfl) ?_
            refine lv_iconst (v := 1) hx hb dX1_sell_49 (by decide) ?_
            refine z_iast (i := 74) hx hb hK hW hS rfl (z_ix rfl (by omega) (by omega)) dX1_sell_50 (fun H locs hz1 hW hS => ?_)
            obtain ⟨I28, eI28⟩ : ∃ K : z_I, K = z_up I8 74 x16.toNatClampNeg 1 := ⟨_, rfl⟩
            rw [← eI28] at hW
            have f29 := z_fr_a lp5fr (show z_wa L_X1_sell_d 74 = true by decide) eI28
            refine lv_aload_n hx hb dX1_sell_51 rfl (lv_at hl 3 rfl) ?_
            refine z_get (T := TX1) (N := 3) (ci := 1) (i := 72) (v := .ref (ad 73)) hx hb hts zj_X1_sell_X1 hown hK hW rfl rfl 0 (by decide) (hts (.fieldLink RX1 9 "PetrolBoard$Deal" "units" "[I") (me_s (me_l (me_l (me_l (List.mem_of_getElem? (i := 2) rfl)))))) (fun _ h => h) rfl dX1_sell_52 ?_
            refine lv_iload hx hb dX1_sell_55 (lv_at hl 0 rfl) ?_
            refine lv_iload_n hx hb dX1_sell_57 rfl (lv_at hl 2 rfl) ?_
            refine lv_aload_n hx hb dX1_sell_58 rfl (lv_at hl 4 rfl) ?_
            refine z_get (T := TX2) (N := 12) (ci := 2) (i := 1) (v := .ref (ad 6)) hx hb hts zj_X1_sell_X2 hown hK hW rfl rfl 4 (by decide) (hts (.fieldLink RX1 36 "PetrolBoard$Holders" "need" "[I") (me_s (me_l (me_l (me_l (List.mem_of_getElem? (i := 3) rfl)))))) (fun _ h => h) rfl dX1_sell_59 ?_
            refine lv_iload hx hb dX1_sell_62 (lv_at hl 0 rfl) ?_
            refine z_iald (i := 6) hx hb hK hW rfl (z_ix rfl (by omega) (by omega)) dX1_sell_64 ?_
            refine lv_topi (fun x30 ex30 => ?_)
            have hv31 : (I28 6 x16.toNatClampNeg).toInt = x30.toInt := by rw [ex30]
            have hz32 := z_clt (x := x16) rfl (by omega)
            have hne33 : (I 6 x16.toNatClampNeg).toInt = x30.toInt := by rw [← f29 6 x16.toNatClampNeg (z_wr_c (by decide))]; exact hv31
            have hnb34 := hN x16.toNatClampNeg (by omega)
            refine va_mmin (x := y7) (y := x30) hx hb (hml.trans hl.1.symm) hown (hts (.methodLink RX1 41 Lib.Math.min.name) (me_s (me_l (me_l (me_l (List.mem_of_getElem? (i := 4) rfl)))))) (hts (.static Lib.Math.min.name) (me_s (me_l (me_l (me_l (List.mem_of_getElem? (i := 5) rfl)))))) (hts (.initialized "java/lang/Math") (me_s (me_l (me_l (me_l (List.mem_of_getElem? (i := 6) rfl)))))) (hts (.code Lib.Math.min.name Lib.Math.min.code 2 (some .int)) (me_s (me_l (me_l (me_l (List.mem_of_getElem? (i := 7) rfl)))))) (Nat.le_of_ble_eq_true rfl) (Nat.le_of_ble_eq_true rfl) (Nat.le_of_ble_eq_true rfl) (Nat.le_of_ble_eq_true rfl) dX1_sell_65 ?_
            refine lv_topi (fun x35 ex35 => ?_)
            have tx35 := z_tmmin ex35 rfl rfl
            refine z_iast (i := 73) hx hb hK hW hS rfl (z_ix rfl (by omega) (by omega)) dX1_sell_68 (fun H locs hz1 hW hS => ?_)
            obtain ⟨I36, eI36⟩ : ∃ K : z_I, K = z_up I28 73 x16.toNatClampNeg x35 := ⟨_, rfl⟩
            rw [← eI36] at hW
            have f37 := z_fr_a f29 (show z_wa L_X1_sell_d 73 = true by decide) eI36
            refine lv_iload_n hx hb dX1_sell_69 rfl (lv_at hl 2 rfl) ?_
            refine lv_aload_n hx hb dX1_sell_70 rfl (lv_at hl 3 rfl) ?_
            refine z_get (T := TX1) (N := 3) (ci := 1) (i := 72) (v := .ref (ad 73)) hx hb hts zj_X1_sell_X1 hown hK hW rfl rfl 0 (by decide) (hts (.fieldLink RX1 9 "PetrolBoard$Deal" "units" "[I") (me_s (me_l (me_l (me_l (List.mem_of_getElem? (i := 2) rfl)))))) (fun _ h => h) rfl dX1_sell_71 ?_
            refine lv_iload hx hb dX1_sell_74 (lv_at hl 0 rfl) ?_
            refine z_iald (i := 73) hx hb hK hW rfl (z_ix rfl (by omega) (by omega)) dX1_sell_76 ?_
            refine lv_topi (fun x38 ex38 => ?_)
            have hv39 : (I36 73 x16.toNatClampNeg).toInt = x38.toInt := by rw [ex38]
            have hz40 := z_clt (x := x16) rfl (by omega)
            have hw41 : x38 = x35 := by rw [ex38, eI36, z_up_s]
            have hw42 : x38.toInt = x35.toInt := by rw [ex38, eI36, z_up_s]
            refine lv_isub hx hb dX1_sell_77 ?_
            refine lv_topi (fun x43 ex43 => ?_)
            have tx43 : x43.toInt = y7.toInt - x38.toInt := z_tsub ex43 rfl rfl (by omega) (by omega)
            refine lv_istore_n (lv' := [(2, .int x43), (4, .int x16), (3, .int y6), (0, .ref (ad 72)), (1, .ref (ad 1))]) hx hb dX1_sell_78 rfl hl (by decide) rfl (fun ls hl => ?_)
            obtain ⟨x44, ex44⟩ : ∃ y : Int32, y = y6 + 1 := ⟨_, rfl⟩
            have tx44 : x44.toInt = y6.toInt + 1 := z_tadd ex44 rfl z_l1 (by omega) (by omega)
            refine lv_iinc (v := x44) (lv' := [(3, .int x44), (2, .int x43), (4, .int x16), (0, .ref (ad 72)), (1, .ref (ad 1))]) hx hb dX1_sell_79 hl (k := 2) rfl (by rw [ex44]; rfl) (by decide) rfl (fun ls hl => ?_)
            refine lv_goto (tgt := 15) hx hb dX1_sell_82 (by decide) ?_
            exact lp5ih x44 x43 I36  _ _ _ (by omega) (by omega) (by omega) (by omega) (by show 0 ≤ (I36 72 2).toInt ∧ (I36 72 2).toInt ≤ 30; rw [eI36, z_up_n (by decide), eI28, z_up_n (by decide)]; exact lp5D) ⟨(by show 0 ≤ (I36 1 5).toInt ∧ (I36 1 5).toInt ≤ 30; rw [eI36, z_up_n (by decide), eI28, z_up_n (by decide)]; exact lp5H.1), (by show 0 ≤ (I36 1 11).toInt ∧ (I36 1 11).toInt ≤ 200; rw [eI36, z_up_n (by decide), eI28, z_up_n (by decide)]; exact lp5H.2)⟩ (by have s9 := zd_step (k := y6.toNatClampNeg) lp5S.1 lp5S.2.1 lp5S.2.2.1 hq18 (by omega) eI28 (by decide) eI36 (show x35.toInt = min y7.toInt (I 6 x16.toNatClampNeg).toInt by rw [Int.min_def]; split <;> omega) (le1 := x43) (by omega); exact ⟨fun j => by rw [(show x44.toNatClampNeg = y6.toNatClampNeg + 1 from z_cln (by omega) (by omega))]; exact s9.1 j, fun j => by rw [(show x44.toNatClampNeg = y6.toNatClampNeg + 1 from z_cln (by omega) (by omega))]; exact s9.2.1 j, by rw [(show x44.toNatClampNeg = y6.toNatClampNeg + 1 from z_cln (by omega) (by omega))]; exact s9.2.2, by omega⟩) f37 hW hS (lv_sub hl [0, 1, 3, 4] rfl)
          · have g45 := z_f_nlt rfl z_l30 c26
            exact z_vret hx hb hr hK hS (Nat.le_of_ble_eq_true rfl) (Nat.le_of_ble_eq_true rfl) hlocks dX1_sell_42 (shC c, ad, I8, JX, PC c ad) hW ⟨I8, rfl, (by show 0 ≤ (I8 72 2).toInt ∧ (I8 72 2).toInt ≤ 30; exact lp5D), ⟨(by show 0 ≤ (I8 1 5).toInt ∧ (I8 1 5).toInt ≤ 30; exact lp5H.1), (by show 0 ≤ (I8 1 11).toInt ∧ (I8 1 11).toInt ≤ 200; exact lp5H.2)⟩, lp5fr, (fun j => by have q1 := z_clt (x := y6) rfl (by omega); have q2 := z_clt (x := (I 72 2)) rfl (by omega); have e9 : (zd_F I (I 72 2).toNatClampNeg) = (zd_F I y6.toNatClampNeg) := (by have e8 := zd_f_st (k := y6.toNatClampNeg) (show zd_b (zd_B I) (zd_F I y6.toNatClampNeg).2.1 (I 72 2).toNatClampNeg = -1 by rw [hq18]; omega) ((I 72 2).toNatClampNeg - y6.toNatClampNeg); rw [show y6.toNatClampNeg + ((I 72 2).toNatClampNeg - y6.toNatClampNeg) = (I 72 2).toNatClampNeg by omega] at e8; exact e8); rw [e9]; exact lp5S.1 j)⟩
  exact lp5 4294967296 (0) x1 I3  _ _ _ (z_m0u _) (by rw [z_l0]; omega) (by omega) (by omega) (by show 0 ≤ (I3 72 2).toInt ∧ (I3 72 2).toInt ≤ 30; rw [eI3, z_fi_n (by decide)]; exact hD) ⟨(by show 0 ≤ (I3 1 5).toInt ∧ (I3 1 5).toInt ≤ 30; rw [eI3, z_fi_n (by decide)]; exact hH.1), (by show 0 ≤ (I3 1 11).toInt ∧ (I3 1 11).toInt ≤ 200; rw [eI3, z_fi_n (by decide)]; exact hH.2)⟩ ⟨fun j => by rw [show (0 : Int32).toNatClampNeg = 0 by decide, eI3, z_fi_n (by decide)]; rfl, fun j => by rw [show (0 : Int32).toNatClampNeg = 0 by decide]; unfold zd_v; rw [eI3, zd_fi_s]; rfl, by rw [show (0 : Int32).toNatClampNeg = 0 by decide]; exact hP2.1, by have q0 := z_l0; omega⟩ f4 hW hS (lv_sub hl [0, 1, 2, 3] rfl)
set_option maxHeartbeats 8000000 in
set_option maxRecDepth 100000 in
theorem sx_X12_deals_d_q (l : Launch) (G : z_G) (ad : Nat → Nat) (I : z_I) (J : z_J) (hma : z_ima I) (hmb : z_imb I) (hAtf : z_rg 11 0 288 I) (hAtm : z_rg 12 0 24 I) (hNd : z_Nd I) (hAsf : z_rg 19 0 6200 I) (hAst : z_rg 20 0 6200 I) (hAsc : z_rg 18 (-1) 6199 I) (hEx : z_Ex I) (FF : Nat → Nat) (RS : Nat → List zm_row) (a1 : Int32) (a2 : Int32) (q1 : 0 ≤ a1.toInt ∧ a1.toInt ≤ 2) (q2 : 0 ≤ a2.toInt ∧ a2.toInt ≤ 23) (hWm : zw_W I FF RS) (hN : ∀ j : Nat, (j : Int) < (I 0 1).toInt → 0 ≤ (I 5 j).toInt ∧ (I 5 j).toInt ≤ 99) : z_Mv l yX12_deals wsX12_deals { frames := 6, cells := 0, slots := 0, locals := 133 } [.ref (ad 0), .int a1, .int a2] G (shM, ad, I, J, PM ad) (fun u1 => ∃ (I1 : z_I) (J1 : z_J), u1 = (shM, ad, I1, J1, PM ad) ∧ z_ima I1 ∧ z_imb I1 ∧ z_rg 11 0 288 I1 ∧ z_rg 12 0 24 I1 ∧ z_Nd I1 ∧ z_rg 19 0 6200 I1 ∧ z_rg 20 0 6200 I1 ∧ z_rg 18 (-1) 6199 I1 ∧ z_Ex I1 ∧ z_fr L_X12_deals_d I1 I ∧ (∀ j : Nat, (j : Int) < (I 0 1).toInt → (I1 69 j).toInt = zd_D (zd_V I RS a2.toInt) (zd_BM I) (zd_NM I) (I 0 1).toNatClampNeg a1.toInt j)) 0 0 := by
  intro sz
  refine z_headQ (cc := cX12_deals) (maxL := 7) (ret := none) (by decide) rfl (Nat.le_of_ble_eq_true rfl) ?_
  intro p e s m below meth c0 ls hIn hK hsz hW hl
  obtain ⟨hx, hb, hr, hml, hown, hts, hlocks, hname⟩ := hIn
  subst hsz
  have hown : s.vm.findClass RX12 = some m.cls := hown
  have hA : ∀ q : Nat, s.heap.size ≤ q → z_A (shM, ad, I, J, PM ad) s.heap.size q := fun q h => Or.inr h
  generalize hAe : z_A (shM, ad, I, J, PM ad) s.heap.size = A at *
  have hS : va_S A s.heap s.heap [] := va_S.rf
  have hl : lv_has ls 7 [(0, .ref (ad 0)), (1, .int a1), (2, .int a2)] := hl
  refine lv_iconst (v := 0) hx hb dX12_deals_0 (by decide) ?_
  refine lv_istore_n (lv' := [(3, .int 0), (0, .ref (ad 0)), (1, .int a1), (2, .int a2)]) hx hb dX12_deals_1 rfl hl (by decide) rfl (fun ls hl => ?_)
  refine lv_iconst (v := 0) hx hb dX12_deals_2 (by decide) ?_
  refine lv_istore (lv' := [(4, .int 0), (3, .int 0), (0, .ref (ad 0)), (1, .int a1), (2, .int a2)]) hx hb dX12_deals_3 hl (by decide) rfl (fun ls hl => ?_)
  have lp1 : ∀ (f : Nat) (y2 : Int32) (y3 : Int32) (I4 : z_I) (J5 : z_J) (H : Heap) (locs : List Loc) (ls : Array Slot), (2147483647 < y2.toInt + (f : Int)) → (0 ≤ y2.toInt) → (0 ≤ y3.toInt) → (y3.toInt ≤ 2970) → (z_ima I4) → (z_imb I4) → (z_rg 11 0 288 I4) → (z_rg 12 0 24 I4) → (z_Nd I4) → (z_rg 19 0 6200 I4) → (z_rg 20 0 6200 I4) → (z_rg 18 (-1) 6199 I4) → (z_Ex I4) → ((I4 0 1).toInt = (I 0 1).toInt) → (∀ j : Nat, (j : Int) < y2.toInt → I4 70 j = 0) → ((∀ j : Nat, (j : Int) < y2.toInt → (I4 69 j).toInt = (zd_V I RS a2.toInt) j ∧ 0 ≤ (I4 69 j).toInt ∧ (I4 69 j).toInt ≤ 99) ∧ y3.toInt = zd_S (zd_V I RS a2.toInt) y2.toNatClampNeg ∧ y3.toInt ≤ 99 * y2.toInt ∧ y2.toInt ≤ (I 0 1).toInt) → (z_fr L_X12_deals_d I4 I) → z_W G A (shM, ad, I4, J5, PM ad) H → va_S A s.heap H locs → lv_has ls 7 [(4, .int y2), (3, .int y3), (0, .ref (ad 0)), (1, .int a1), (2, .int a2)] → W p l e (headSpec wsX12_deals { frames := 6, cells := 0, slots := 0, locals := 133 }).room s m ([.ref (ad 0), .int a1, .int a2] : List Value).toArray below meth c0 H locs 0 0 (MQ below (va_Qv (fun (u1 : z_U) => ∃ (I1 : z_I) (J1 : z_J), u1 = (shM, ad, I1, J1, PM ad) ∧ z_ima I1 ∧ z_imb I1 ∧ z_rg 11 0 288 I1 ∧ z_rg 12 0 24 I1 ∧ z_Nd I1 ∧ z_rg 19 0 6200 I1 ∧ z_rg 20 0 6200 I1 ∧ z_rg 18 (-1) 6199 I1 ∧ z_Ex I1 ∧ z_fr L_X12_deals_d I1 I ∧ (∀ j : Nat, (j : Int) < (I 0 1).toInt → (I1 69 j).toInt = zd_D (zd_V I RS a2.toInt) (zd_BM I) (zd_NM I) (I 0 1).toNatClampNeg a1.toInt j)) (z_B G A) A) ([.ref (ad 0), .int a1, .int a2] : List Value).toArray s 0 0 A) (F0 m 5 ls []) := by
    intro f
    induction f with
    | zero => intro y2 y3 I4 J5 H locs ls lp1m lp1l4 lp1l3 lp1u3 lp1ma lp1mb lp1Atf lp1Atm lp1Nd lp1Asf lp1Ast lp1Asc lp1Ex lp1H lp1Z lp1U lp1fr hW hS hl; exact absurd lp1m (by have := Int32.toInt_lt y2; have := Int32.le_toInt y2; omega)
    | succ f lp1ih =>
      intro y2 y3 I4 J5 H locs ls lp1m lp1l4 lp1l3 lp1u3 lp1ma lp1mb lp1Atf lp1Atm lp1Nd lp1Asf lp1Ast lp1Asc lp1Ex lp1H lp1Z lp1U lp1fr hW hS hl
      refine lv_iload hx hb dX12_deals_5 (lv_at hl 0 rfl) ?_
      refine lv_aload_n hx hb dX12_deals_7 rfl (lv_at hl 2 rfl) ?_
      have r6 : 0 ≤ (I4 0 1).toInt ∧ (I4 0 1).toInt ≤ 30 := lp1ma.2.1
      refine z_get (T := TX12) (N := 96) (ci := 12) (i := 0) (v := .int (I4 0 1)) hx hb hts zj_X12_deals_X12 hown hK hW rfl rfl 1 (by decide) (hts (.fieldLink RX12 229 "PetrolBoardModel" "holders" "I") (me_s (me_l (me_l (List.mem_of_getElem? (i := 0) rfl))))) (fun _ h => h) rfl dX12_deals_8 ?_
      refine lv_icmp_ge (tgt := 56) hx hb dX12_deals_11 (by decide) (fun c7 => ?_) (fun c7 => ?_)
      · have g8 := z_f_ge rfl rfl c7
        have b9 := Int32.toInt_lt y2
        have c810 := z_clt (x := I 0 1) rfl (by have q9 := hma.2.1; omega)
        have c911 := z_clt (x := y2) rfl (by omega)
        have he12 : y2.toNatClampNeg = (I 0 1).toNatClampNeg := by have q9 := lp1U.2.2.2; have q8 := lp1H; omega
        refine lv_iload_n hx hb dX12_deals_56 rfl (lv_at hl 3 rfl) ?_
        refine lv_if_ne (tgt := 61) hx hb dX12_deals_57 (by decide) (fun c13 => ?_) (fun c13 => ?_)
        · have g14 := z_f_ne rfl z_l0 c13
          refine lv_iconst (v := 0) hx hb dX12_deals_61 (by decide) ?_
          refine lv_istore (lv' := [(4, .int 0), (3, .int y3), (0, .ref (ad 0)), (1, .int a1), (2, .int a2)]) hx hb dX12_deals_62 hl (by decide) rfl (fun ls hl => ?_)
          have lp15 : ∀ (f : Nat) (y16 : Int32) (y17 : Int32) (I18 : z_I) (J19 : z_J) (H : Heap) (locs : List Loc) (ls : Array Slot), (2147483647 < y16.toInt + (f : Int)) → (0 ≤ y16.toInt) → (0 ≤ y17.toInt) → (y17.toInt ≤ 2970) → (z_ima I18) → (z_imb I18) → (z_rg 11 0 288 I18) → (z_rg 12 0 24 I18) → (z_Nd I18) → (z_rg 19 0 6200 I18) → (z_rg 20 0 6200 I18) → (z_rg 18 (-1) 6199 I18) → (z_Ex I18) → ((I18 0 1).toInt = (I 0 1).toInt) → (a1.toInt = 2 → (z_ct I18 70 (I 0 1).toInt.toNat : Int) = y16.toInt) → ((∀ j : Nat, j < (I 0 1).toNatClampNeg → a1.toInt = 2 → (I18 69 j).toInt = (zd_f (zd_BM I) (zd_NM I) (I 0 1).toNatClampNeg (zd_V I RS a2.toInt) (zd_S (zd_V I RS a2.toInt) (I 0 1).toNatClampNeg) y16.toNatClampNeg).1 j ∧ zd_i I18 j = (zd_f (zd_BM I) (zd_NM I) (I 0 1).toNatClampNeg (zd_V I RS a2.toInt) (zd_S (zd_V I RS a2.toInt) (I 0 1).toNatClampNeg) y16.toNatClampNeg).2.1 j) ∧ (a1.toInt = 2 → y17.toInt = (zd_f (zd_BM I) (zd_NM I) (I 0 1).toNatClampNeg (zd_V I RS a2.toInt) (zd_S (zd_V I RS a2.toInt) (I 0 1).toNatClampNeg) y16.toNatClampNeg).2.2) ∧ (¬ a1.toInt = 2 → y17.toInt = zd_S (zd_V I RS a2.toInt) (I 0 1).toNatClampNeg ∧ ∀ j : Nat, (j : Int) < y16.toInt → (I18 69 j).toInt = zd_S (zd_V I RS a2.toInt) (I 0 1).toNatClampNeg / ((I 0 1).toNatClampNeg : Int)) ∧ y16.toInt ≤ (I 0 1).toInt) → (z_fr L_X12_deals_d I18 I) → z_W G A (shM, ad, I18, J19, PM ad) H → va_S A s.heap H locs → lv_has ls 7 [(4, .int y16), (3, .int y17), (0, .ref (ad 0)), (1, .int a1), (2, .int a2)] → W p l e (headSpec wsX12_deals { frames := 6, cells := 0, slots := 0, locals := 133 }).room s m ([.ref (ad 0), .int a1, .int a2] : List Value).toArray below meth c0 H locs 0 0 (MQ below (va_Qv (fun (u1 : z_U) => ∃ (I1 : z_I) (J1 : z_J), u1 = (shM, ad, I1, J1, PM ad) ∧ z_ima I1 ∧ z_imb I1 ∧ z_rg 11 0 288 I1 ∧ z_rg 12 0 24 I1 ∧ z_Nd I1 ∧ z_rg 19 0 6200 I1 ∧ z_rg 20 0 6200 I1 ∧ z_rg 18 (-1) 6199 I1 ∧ z_Ex I1 ∧ z_fr L_X12_deals_d I1 I ∧ (∀ j : Nat, (j : Int) < (I 0 1).toInt → (I1 69 j).toInt = zd_D (zd_V I RS a2.toInt) (zd_BM I) (zd_NM I) (I 0 1).toNatClampNeg a1.toInt j)) (z_B G A) A) ([.ref (ad 0), .int a1, .int a2] : List Value).toArray s 0 0 A) (F0 m 64 ls []) := by
            intro f
            induction f with
            | zero => intro y16 y17 I18 J19 H locs ls lp15m lp15l4 lp15l3 lp15u3 lp15ma lp15mb lp15Atf lp15Atm lp15Nd lp15Asf lp15Ast lp15Asc lp15Ex lp15H lp15C lp15S lp15fr hW hS hl; exact absurd lp15m (by have := Int32.toInt_lt y16; have := Int32.le_toInt y16; omega)
            | succ f lp15ih =>
              intro y16 y17 I18 J19 H locs ls lp15m lp15l4 lp15l3 lp15u3 lp15ma lp15mb lp15Atf lp15Atm lp15Nd lp15Asf lp15Ast lp15Asc lp15Ex lp15H lp15C lp15S lp15fr hW hS hl
              refine lv_iload hx hb dX12_deals_64 (lv_at hl 0 rfl) ?_
              refine lv_aload_n hx hb dX12_deals_66 rfl (lv_at hl 2 rfl) ?_
              have r20 : 0 ≤ (I18 0 1).toInt ∧ (I18 0 1).toInt ≤ 30 := lp15ma.2.1
              refine z_get (T := TX12) (N := 96) (ci := 12) (i := 0) (v := .int (I18 0 1)) hx hb hts zj_X12_deals_X12 hown hK hW rfl rfl 1 (by decide) (hts (.fieldLink RX12 229 "PetrolBoardModel" "holders" "I") (me_s (me_l (me_l (List.mem_of_getElem? (i := 0) rfl))))) (fun _ h => h) rfl dX12_deals_67 ?_
              refine lv_icmp_ge (tgt := 197) hx hb dX12_deals_70 (by decide) (fun c21 => ?_) (fun c21 => ?_)
              · have g22 := z_f_ge rfl rfl c21
                have b23 := Int32.toInt_lt y16
                exact z_vret hx hb hr hK hS (Nat.le_of_ble_eq_true rfl) (Nat.le_of_ble_eq_true rfl) hlocks dX12_deals_197 (shM, ad, I18, J19, PM ad) hW ⟨I18, J19, rfl, ⟨(by show 0 ≤ (I18 0 0).toInt ∧ (I18 0 0).toInt ≤ 719; exact lp15ma.1), (by show 0 ≤ (I18 0 1).toInt ∧ (I18 0 1).toInt ≤ 30; exact lp15ma.2.1), (by show 0 ≤ (I18 0 2).toInt ∧ (I18 0 2).toInt ≤ 200; exact lp15ma.2.2)⟩, ⟨(by show 0 ≤ (I18 0 13).toInt ∧ (I18 0 13).toInt ≤ 12; exact lp15mb.1), (by show 0 ≤ (I18 0 14).toInt ∧ (I18 0 14).toInt ≤ 288; exact lp15mb.2)⟩, lp15Atf, lp15Atm, lp15Nd, lp15Asf, lp15Ast, lp15Asc, lp15Ex, lp15fr, (fun j hj => by have c8 := z_clt (x := I 0 1) rfl (by have q9 := hma.2.1; omega); have c9 := z_clt (x := y16) rfl (by omega); have h9 := lp15H; have e9 : y16.toNatClampNeg = (I 0 1).toNatClampNeg := (by have q9 := lp15S.2.2.2; omega); by_cases q : a1.toInt = 2; (· rw [zd_D_2 q, ← e9]; have r9 := (lp15S.1 j (by omega) q).1; rw [e9] at r9; rw [e9]; exact r9); (· rw [zd_D_1 (by omega)]; exact (lp15S.2.2.1 q).2 j (by omega)))⟩
              · have g24 := z_f_nge rfl rfl c21
                have b25 := Int32.toInt_lt y16
                refine lv_iload hx hb dX12_deals_73 (lv_at hl 0 rfl) ?_
                refine lv_istore (lv' := [(5, .int y16), (4, .int y16), (3, .int y17), (0, .ref (ad 0)), (1, .int a1), (2, .int a2)]) hx hb dX12_deals_75 hl (by decide) rfl (fun ls hl => ?_)
                refine lv_iload_n hx hb dX12_deals_77 rfl (lv_at hl 4 rfl) ?_
                refine lv_iconst (v := 2) hx hb dX12_deals_78 (by decide) ?_
                refine lv_icmp_ne (tgt := 178) hx hb dX12_deals_79 (by decide) (fun c26 => ?_) (fun c26 => ?_)
                · have g27 := z_f_ne rfl z_l2 c26
                  refine lv_aload_n hx hb dX12_deals_178 rfl (lv_at hl 3 rfl) ?_
                  refine z_get (T := TX12) (N := 96) (ci := 12) (i := 0) (v := .ref (ad 69)) hx hb hts zj_X12_deals_X12 hown hK hW rfl rfl 94 (by decide) (hts (.fieldLink RX12 223 "PetrolBoardModel" "deal" "[I") (me_s (me_l (me_l (List.mem_of_getElem? (i := 1) rfl))))) (fun _ h => h) rfl dX12_deals_179 ?_
                  refine lv_iload hx hb dX12_deals_182 (lv_at hl 0 rfl) ?_
                  refine lv_iload_n hx hb dX12_deals_184 rfl (lv_at hl 2 rfl) ?_
                  refine lv_aload_n hx hb dX12_deals_185 rfl (lv_at hl 3 rfl) ?_
                  refine z_get (T := TX12) (N := 96) (ci := 12) (i := 0) (v := .int (I18 0 1)) hx hb hts zj_X12_deals_X12 hown hK hW rfl rfl 1 (by decide) (hts (.fieldLink RX12 229 "PetrolBoardModel" "holders" "I") (me_s (me_l (me_l (List.mem_of_getElem? (i := 0) rfl))))) (fun _ h => h) rfl dX12_deals_186 ?_
                  refine lv_idiv hx hb dX12_deals_189 (z_nz rfl (by omega)) ?_
                  refine lv_topi (fun x28 ex28 => ?_)
                  have ht29 : x28.toInt = y17.toInt / (I 0 1).toInt := by
                    have q9 : x28.toInt = y17.toInt / (I18 0 1).toInt := z_tdiv ex28 rfl rfl (by omega) (by have q8 := lp15H; omega)
                    rw [lp15H] at q9
                    exact q9
                  refine z_iast (i := 69) hx hb hK hW hS rfl (z_ix rfl (by omega) (by omega)) dX12_deals_190 (fun H locs hz1 hW hS => ?_)
                  obtain ⟨I30, eI30⟩ : ∃ K : z_I, K = z_up I18 69 y16.toNatClampNeg x28 := ⟨_, rfl⟩
                  rw [← eI30] at hW
                  have f31 := z_fr_a lp15fr (show z_wa L_X12_deals_d 69 = true by decide) eI30
                  have a32 := z_rg_n lp15Atf (by decide) eI30
                  have a33 := z_rg_n lp15Atm (by decide) eI30
                  have a34 := z_Nd_n lp15Nd (by decide) eI30
                  have a35 := z_rg_n lp15Asf (by decide) eI30
                  have a36 := z_rg_n lp15Ast (by decide) eI30
                  have a37 := z_rg_n lp15Asc (by decide) eI30
                  have a38 := z_Ex_n lp15Ex (by decide) eI30
                  obtain ⟨x39, ex39⟩ : ∃ y : Int32, y = y16 + 1 := ⟨_, rfl⟩
                  have tx39 : x39.toInt = y16.toInt + 1 := z_tadd ex39 rfl z_l1 (by omega) (by omega)
                  refine lv_iinc (v := x39) (lv' := [(4, .int x39), (5, .int y16), (3, .int y17), (0, .ref (ad 0)), (1, .int a1), (2, .int a2)]) hx hb dX12_deals_191 hl (k := 1) rfl (by rw [ex39]; rfl) (by decide) rfl (fun ls hl => ?_)
                  refine lv_goto (tgt := 64) hx hb dX12_deals_194 (by decide) ?_
                  exact lp15ih x39 y17 I30 J19 _ _ _ (by omega) (by omega) (by omega) (by omega) ⟨(by show 0 ≤ (I30 0 0).toInt ∧ (I30 0 0).toInt ≤ 719; rw [eI30, z_up_n (by decide)]; exact lp15ma.1), (by show 0 ≤ (I30 0 1).toInt ∧ (I30 0 1).toInt ≤ 30; rw [eI30, z_up_n (by decide)]; exact lp15ma.2.1), (by show 0 ≤ (I30 0 2).toInt ∧ (I30 0 2).toInt ≤ 200; rw [eI30, z_up_n (by decide)]; exact lp15ma.2.2)⟩ ⟨(by show 0 ≤ (I30 0 13).toInt ∧ (I30 0 13).toInt ≤ 12; rw [eI30, z_up_n (by decide)]; exact lp15mb.1), (by show 0 ≤ (I30 0 14).toInt ∧ (I30 0 14).toInt ≤ 288; rw [eI30, z_up_n (by decide)]; exact lp15mb.2)⟩ a32 a33 a34 a35 a36 a37 a38 (congrArg Int32.toInt (f31 0 1 (by decide))) (fun q => absurd q (by omega)) (by have c8 := z_clt (x := I 0 1) rfl (by have q9 := hma.2.1; omega); have c9 := z_clt (x := y16) rfl (by omega); have h9 := lp15H; have s9 := lp15S.2.2.1 (by omega); exact ⟨fun j hj q => absurd q (by omega), fun q => absurd q (by omega), fun _ => ⟨s9.1, fun j hj => by rw [eI30, z_up_j]; by_cases q : j = y16.toNatClampNeg; (· rw [if_pos q, ht29, s9.1, show (I 0 1).toInt = ((I 0 1).toNatClampNeg : Int) by omega]); (· rw [if_neg q]; exact s9.2 j (by omega))⟩, by omega⟩) f31 hW hS (lv_sub hl [0, 2, 3, 4, 5] rfl)
                · have g40 := z_f_eq rfl z_l2 c26
                  refine lv_iconst (v := (-1)) hx hb dX12_deals_82 (by decide) ?_
                  refine lv_istore (lv' := [(5, .int (-1)), (4, .int y16), (3, .int y17), (0, .ref (ad 0)), (1, .int a1), (2, .int a2)]) hx hb dX12_deals_83 hl (by decide) rfl (fun ls hl => ?_)
                  refine lv_iconst (v := 0) hx hb dX12_deals_85 (by decide) ?_
                  refine lv_istore (lv' := [(6, .int 0), (5, .int (-1)), (4, .int y16), (3, .int y17), (0, .ref (ad 0)), (1, .int a1), (2, .int a2)]) hx hb dX12_deals_86 hl (by decide) rfl (fun ls hl => ?_)
                  have lp41 : ∀ (f : Nat) (y42 : Int32) (y43 : Int32) (H : Heap) (locs : List Loc) (ls : Array Slot), (2147483647 < y42.toInt + (f : Int)) → (0 ≤ y42.toInt) → ((-1) ≤ y43.toInt) → (y43.toInt ≤ 29) → (y43.toInt < 0 → ∀ j : Nat, (j : Int) < y42.toInt → I18 70 j ≠ 0) → (0 ≤ y43.toInt → I18 70 (y43 : Int32).toNatClampNeg = 0 ∧ y43.toInt < (I 0 1).toInt) → (y43.toInt = zd_b (zd_BM I18) (zd_i I18) y42.toNatClampNeg ∧ y42.toInt ≤ (I 0 1).toInt) → z_W G A (shM, ad, I18, J19, PM ad) H → va_S A s.heap H locs → lv_has ls 7 [(6, .int y42), (5, .int y43), (4, .int y16), (3, .int y17), (0, .ref (ad 0)), (1, .int a1), (2, .int a2)] → W p l e (headSpec wsX12_deals { frames := 6, cells := 0, slots := 0, locals := 133 }).room s m ([.ref (ad 0), .int a1, .int a2] : List Value).toArray below meth c0 H locs 0 0 (MQ below (va_Qv (fun (u1 : z_U) => ∃ (I1 : z_I) (J1 : z_J), u1 = (shM, ad, I1, J1, PM ad) ∧ z_ima I1 ∧ z_imb I1 ∧ z_rg 11 0 288 I1 ∧ z_rg 12 0 24 I1 ∧ z_Nd I1 ∧ z_rg 19 0 6200 I1 ∧ z_rg 20 0 6200 I1 ∧ z_rg 18 (-1) 6199 I1 ∧ z_Ex I1 ∧ z_fr L_X12_deals_d I1 I ∧ (∀ j : Nat, (j : Int) < (I 0 1).toInt → (I1 69 j).toInt = zd_D (zd_V I RS a2.toInt) (zd_BM I) (zd_NM I) (I 0 1).toNatClampNeg a1.toInt j)) (z_B G A) A) ([.ref (ad 0), .int a1, .int a2] : List Value).toArray s 0 0 A) (F0 m 88 ls []) := by
                    intro f
                    induction f with
                    | zero => intro y42 y43 H locs ls lp41m lp41l6 lp41l5 lp41u5 lp41A lp41B lp41P hW hS hl; exact absurd lp41m (by have := Int32.toInt_lt y42; have := Int32.le_toInt y42; omega)
                    | succ f lp41ih =>
                      intro y42 y43 H locs ls lp41m lp41l6 lp41l5 lp41u5 lp41A lp41B lp41P hW hS hl
                      refine lv_iload hx hb dX12_deals_88 (lv_at hl 0 rfl) ?_
                      refine lv_aload_n hx hb dX12_deals_90 rfl (lv_at hl 4 rfl) ?_
                      refine z_get (T := TX12) (N := 96) (ci := 12) (i := 0) (v := .int (I18 0 1)) hx hb hts zj_X12_deals_X12 hown hK hW rfl rfl 1 (by decide) (hts (.fieldLink RX12 229 "PetrolBoardModel" "holders" "I") (me_s (me_l (me_l (List.mem_of_getElem? (i := 0) rfl))))) (fun _ h => h) rfl dX12_deals_91 ?_
                      refine lv_icmp_ge (tgt := 139) hx hb dX12_deals_94 (by decide) (fun c44 => ?_) (fun c44 => ?_)
                      · have g45 := z_f_ge rfl rfl c44
                        have b46 := Int32.toInt_lt y42
                        have hq47 : y43.toInt = zd_b (zd_BM I) (zd_i I18) (I 0 1).toNatClampNeg := by
                          have b1 : zd_BM I18 = zd_BM I := funext fun j => by unfold zd_BM; rw [lp15fr 4 j (z_wr_c (by decide))]
                          have c9 := z_clt (x := y42) rfl (by omega)
                          have q8 := lp15H
                          rw [show (I 0 1).toNatClampNeg = y42.toNatClampNeg by have q9 := lp41P.2; omega, ← b1]
                          exact lp41P.1
                        have hb9 : 0 ≤ y43.toInt := z_ct_b (lp15C (by omega)) (by omega) (by omega) lp41A
                        have hb8 := lp41B hb9
                        refine lv_aload_n hx hb dX12_deals_139 rfl (lv_at hl 4 rfl) ?_
                        refine z_get (T := TX12) (N := 96) (ci := 12) (i := 0) (v := .ref (ad 70)) hx hb hts zj_X12_deals_X12 hown hK hW rfl rfl 95 (by decide) (hts (.fieldLink RX12 226 "PetrolBoardModel" "isDealt" "[Z") (me_s (me_l (me_l (List.mem_of_getElem? (i := 3) rfl))))) (fun _ h => h) rfl dX12_deals_140 ?_
                        refine lv_iload hx hb dX12_deals_143 (lv_at hl 1 rfl) ?_
                        refine lv_iconst (v := 1) hx hb dX12_deals_145 (by decide) ?_
                        refine z_zast (i := 70) hx hb hK hW hS rfl (z_ix rfl (by omega) (by omega)) dX12_deals_146 (fun H locs hz1 hW hS => ?_)
                        obtain ⟨I48, eI48⟩ : ∃ K : z_I, K = z_up I18 70 y43.toNatClampNeg (vp_nar .boolean 1) := ⟨_, rfl⟩
                        rw [← eI48] at hW
                        have f49 := z_fr_a lp15fr (show z_wa L_X12_deals_d 70 = true by decide) eI48
                        have a50 := z_rg_n lp15Atf (by decide) eI48
                        have a51 := z_rg_n lp15Atm (by decide) eI48
                        have a52 := z_Nd_n lp15Nd (by decide) eI48
                        have a53 := z_rg_n lp15Asf (by decide) eI48
                        have a54 := z_rg_n lp15Ast (by decide) eI48
                        have a55 := z_rg_n lp15Asc (by decide) eI48
                        have a56 := z_Ex_n lp15Ex (by decide) eI48
                        refine lv_aload_n hx hb dX12_deals_147 rfl (lv_at hl 4 rfl) ?_
                        refine z_get (T := TX12) (N := 96) (ci := 12) (i := 0) (v := .ref (ad 69)) hx hb hts zj_X12_deals_X12 hown hK hW rfl rfl 94 (by decide) (hts (.fieldLink RX12 223 "PetrolBoardModel" "deal" "[I") (me_s (me_l (me_l (List.mem_of_getElem? (i := 1) rfl))))) (fun _ h => h) rfl dX12_deals_148 ?_
                        refine lv_iload hx hb dX12_deals_151 (lv_at hl 1 rfl) ?_
                        refine lv_aload_n hx hb dX12_deals_153 rfl (lv_at hl 4 rfl) ?_
                        refine z_get (T := TX12) (N := 96) (ci := 12) (i := 0) (v := .ref (ad 5)) hx hb hts zj_X12_deals_X12 hown hK hW rfl rfl 7 (by decide) (hts (.fieldLink RX12 22 "PetrolBoardModel" "needOf" "[I") (me_s (me_l (me_l (List.mem_of_getElem? (i := 5) rfl))))) (fun _ h => h) rfl dX12_deals_154 ?_
                        refine lv_iload hx hb dX12_deals_157 (lv_at hl 1 rfl) ?_
                        refine z_iald (i := 5) hx hb hK hW rfl (z_ix rfl (by omega) (by omega)) dX12_deals_159 ?_
                        refine lv_topi (fun x57 ex57 => ?_)
                        have hv58 : (I48 5 y43.toNatClampNeg).toInt = x57.toInt := by rw [ex57]
                        have hz59 := z_clt (x := y43) rfl (by omega)
                        have hne60 : (I 5 y43.toNatClampNeg).toInt = x57.toInt := by rw [← f49 5 y43.toNatClampNeg (z_wr_c (by decide))]; exact hv58
                        have hnb61 := hN y43.toNatClampNeg (by omega)
                        refine lv_iload_n hx hb dX12_deals_160 rfl (lv_at hl 3 rfl) ?_
                        refine z_ci hW hS hA (va_runS (As := [.int x57, .int y17]) (rest := [.int y43, .ref (ad 69)]) ⟨hx, hb, hml, hown, hts⟩ (sx_X12_min2 l G ad I48 J19  x57 y17 _) (va_cwS 2 hts gX12_deals_X12_min rfl rfl rfl (by decide +kernel) ⟨Nat.le_of_ble_eq_true rfl, Nat.le_of_ble_eq_true rfl⟩) (z_preS hK hW) rfl rfl hl.1 rfl (lv_room (Nat.le_of_ble_eq_true rfl)) dX12_deals_161 ⟨Nat.le_of_ble_eq_true rfl, Nat.le_of_ble_eq_true rfl⟩) (fun r u1 H locs hp hW hS => ?_)
                        obtain ⟨e9, hp⟩ := hp
                        rw [e9] at hW
                        refine lv_topi (fun x62 ex62 => ?_)
                        rw [← ex62] at hp
                        obtain ⟨h63, h64, h65⟩ := hp
                        refine z_iast (i := 69) hx hb hK hW hS rfl (z_ix rfl (by omega) (by omega)) dX12_deals_164 (fun H locs hz1 hW hS => ?_)
                        obtain ⟨I66, eI66⟩ : ∃ K : z_I, K = z_up I48 69 y43.toNatClampNeg x62 := ⟨_, rfl⟩
                        rw [← eI66] at hW
                        have f67 := z_fr_a f49 (show z_wa L_X12_deals_d 69 = true by decide) eI66
                        have a68 := z_rg_n a50 (by decide) eI66
                        have a69 := z_rg_n a51 (by decide) eI66
                        have a70 := z_Nd_n a52 (by decide) eI66
                        have a71 := z_rg_n a53 (by decide) eI66
                        have a72 := z_rg_n a54 (by decide) eI66
                        have a73 := z_rg_n a55 (by decide) eI66
                        have a74 := z_Ex_n a56 (by decide) eI66
                        refine lv_iload_n hx hb dX12_deals_165 rfl (lv_at hl 3 rfl) ?_
                        refine lv_aload_n hx hb dX12_deals_166 rfl (lv_at hl 4 rfl) ?_
                        refine z_get (T := TX12) (N := 96) (ci := 12) (i := 0) (v := .ref (ad 69)) hx hb hts zj_X12_deals_X12 hown hK hW rfl rfl 94 (by decide) (hts (.fieldLink RX12 223 "PetrolBoardModel" "deal" "[I") (me_s (me_l (me_l (List.mem_of_getElem? (i := 1) rfl))))) (fun _ h => h) rfl dX12_deals_167 ?_
                        refine lv_iload hx hb dX12_deals_170 (lv_at hl 1 rfl) ?_
                        refine z_iald (i := 69) hx hb hK hW rfl (z_ix rfl (by omega) (by omega)) dX12_deals_172 ?_
                        refine lv_topi (fun x75 ex75 => ?_)
                        have hv76 : (I66 69 y43.toNatClampNeg).toInt = x75.toInt := by rw [ex75]
                        have hz77 := z_clt (x := y43) rfl (by omega)
                        have hw78 : x75.toInt = x62.toInt := by rw [ex75, eI66, z_up_s]
                        refine lv_isub hx hb dX12_deals_173 ?_
                        refine lv_topi (fun x79 ex79 => ?_)
                        have tx79 : x79.toInt = y17.toInt - x75.toInt := z_tsub ex79 rfl rfl (by omega) (by omega)
                        refine lv_istore_n (lv' := [(3, .int x79), (6, .int y42), (5, .int y43), (4, .int y16), (0, .ref (ad 0)), (1, .int a1), (2, .int a2)]) hx hb dX12_deals_174 rfl hl (by decide) rfl (fun ls hl => ?_)
                        refine lv_goto (tgt := 191) hx hb dX12_deals_175 (by decide) ?_
                        obtain ⟨x80, ex80⟩ : ∃ y : Int32, y = y16 + 1 := ⟨_, rfl⟩
                        have tx80 : x80.toInt = y16.toInt + 1 := z_tadd ex80 rfl z_l1 (by omega) (by omega)
                        refine lv_iinc (v := x80) (lv' := [(4, .int x80), (3, .int x79), (6, .int y42), (5, .int y43), (0, .ref (ad 0)), (1, .int a1), (2, .int a2)]) hx hb dX12_deals_191 hl (k := 3) rfl (by rw [ex80]; rfl) (by decide) rfl (fun ls hl => ?_)
                        refine lv_goto (tgt := 64) hx hb dX12_deals_194 (by decide) ?_
                        exact lp15ih x80 x79 I66 J19 _ _ _ (by omega) (by omega) (by omega) (by omega) ⟨(by show 0 ≤ (I66 0 0).toInt ∧ (I66 0 0).toInt ≤ 719; rw [eI66, z_up_n (by decide), eI48, z_up_n (by decide)]; exact lp15ma.1), (by show 0 ≤ (I66 0 1).toInt ∧ (I66 0 1).toInt ≤ 30; rw [eI66, z_up_n (by decide), eI48, z_up_n (by decide)]; exact lp15ma.2.1), (by show 0 ≤ (I66 0 2).toInt ∧ (I66 0 2).toInt ≤ 200; rw [eI66, z_up_n (by decide), eI48, z_up_n (by decide)]; exact lp15ma.2.2)⟩ ⟨(by show 0 ≤ (I66 0 13).toInt ∧ (I66 0 13).toInt ≤ 12; rw [eI66, z_up_n (by decide), eI48, z_up_n (by decide)]; exact lp15mb.1), (by show 0 ≤ (I66 0 14).toInt ∧ (I66 0 14).toInt ≤ 288; rw [eI66, z_up_n (by decide), eI48, z_up_n (by decide)]; exact lp15mb.2)⟩ a68 a69 a70 a71 a72 a73 a74 (congrArg Int32.toInt (f67 0 1 (by decide))) (fun hw => by have hc9 := z_clt (x := y43) rfl hb9; rw [z_ct_u (I := I18) (K := I66) (c := 70) (b := (y43 : Int32).toNatClampNeg) (hb8.1) (by rw [eI66, z_up_n (by decide), eI48, z_up_s]; decide) (I 0 1).toInt.toNat (by omega) (fun j hj hq => by rw [eI66, z_up_n (by decide), eI48, z_up_k hq])]; have hc8 := lp15C hw; omega) (by have c8 := z_clt (x := I 0 1) rfl (by have q9 := hma.2.1; omega); have c9 := z_clt (x := y16) rfl (by omega); have h9 := lp15H; have s9 := zd_stepM (k := y16.toNatClampNeg) (fun j hj => (lp15S.1 j hj (by omega)).1) (fun j hj => (lp15S.1 j hj (by omega)).2) (lp15S.2.1 (by omega)) hq47 (by omega) eI48 (by decide) eI66 (show x62.toInt = min y17.toInt (I 5 y43.toNatClampNeg).toInt by rw [Int.min_def]; split <;> omega) (le1 := x79) (by omega); exact ⟨fun j hj _ => ⟨by rw [(show x80.toNatClampNeg = y16.toNatClampNeg + 1 from z_cln (by omega) (by omega))]; exact s9.1 j hj, by rw [(show x80.toNatClampNeg = y16.toNatClampNeg + 1 from z_cln (by omega) (by omega))]; exact s9.2.1 j hj⟩, fun _ => by rw [(show x80.toNatClampNeg = y16.toNatClampNeg + 1 from z_cln (by omega) (by omega))]; exact s9.2.2, fun q => absurd (show a1.toInt = 2 by omega) q, by omega⟩) f67 hW hS (lv_sub hl [0, 1, 4, 5, 6] rfl)
                      · have g81 := z_f_nge rfl rfl c44
                        have b82 := Int32.toInt_lt y42
                        refine lv_aload_n hx hb dX12_deals_97 rfl (lv_at hl 4 rfl) ?_
                        refine z_get (T := TX12) (N := 96) (ci := 12) (i := 0) (v := .ref (ad 70)) hx hb hts zj_X12_deals_X12 hown hK hW rfl rfl 95 (by decide) (hts (.fieldLink RX12 226 "PetrolBoardModel" "isDealt" "[Z") (me_s (me_l (me_l (List.mem_of_getElem? (i := 3) rfl))))) (fun _ h => h) rfl dX12_deals_98 ?_
                        refine lv_iload hx hb dX12_deals_101 (lv_at hl 0 rfl) ?_
                        refine z_zald (i := 70) hx hb hK hW rfl (z_ix rfl (by omega) (by omega)) dX12_deals_103 ?_
                        refine lv_topi (fun x83 ex83 => ?_)
                        have hv84 : (I18 70 y42.toNatClampNeg).toInt = x83.toInt := by rw [ex83]
                        have hz85 := z_clt (x := y42) rfl (by omega)
                        refine lv_if_ne (tgt := 133) hx hb dX12_deals_104 (by decide) (fun c86 => ?_) (fun c86 => ?_)
                        · have g87 := z_f_ne rfl z_l0 c86
                          have b88 := Int32.toInt_lt x83
                          obtain ⟨x89, ex89⟩ : ∃ y : Int32, y = y42 + 1 := ⟨_, rfl⟩
                          have tx89 : x89.toInt = y42.toInt + 1 := z_tadd ex89 rfl z_l1 (by omega) (by omega)
                          refine lv_iinc (v := x89) (lv' := [(6, .int x89), (5, .int y43), (4, .int y16), (3, .int y17), (0, .ref (ad 0)), (1, .int a1), (2, .int a2)]) hx hb dX12_deals_133 hl (k := 0) rfl (by rw [ex89]; rfl) (by decide) rfl (fun ls hl => ?_)
                          refine lv_goto (tgt := 88) hx hb dX12_deals_136 (by decide) ?_
                          exact lp41ih x89 y43 _ _ _ (by omega) (by omega) (by omega) (by omega) (fun q j hj => by have hc9 := z_clt (x := y42) rfl (by omega); by_cases hjk : j = (y42 : Int32).toNatClampNeg; (· (rw [hjk, ← ex83]; exact fun h9 => absurd (show x83.toInt = 0 by rw [h9]; rfl) (by omega))); (· exact lp41A q j (by omega))) lp41B (by have c9 := z_clt (x := y42) rfl (by omega); have h9 := lp15H; have bd := zd_b_b (B := zd_BM I18) (sv := zd_i I18) y42.toNatClampNeg; have s9 : zd_i I18 y42.toNatClampNeg = decide (¬ x83.toInt = 0) := (by unfold zd_i; rw [hv84]); exact ⟨by rw [(show x89.toNatClampNeg = y42.toNatClampNeg + 1 from z_cln (by omega) (by omega)), zd_b_n (fun q => absurd (q.1.symm.trans s9) (by rw [decide_eq_true (by omega)]; decide))]; exact lp41P.1, by omega⟩) hW hS (lv_sub hl [0, 1, 2, 3, 4, 5, 6] rfl)
                        · have g90 := z_f_eq rfl z_l0 c86
                          have b91 := Int32.toInt_lt x83
                          refine lv_iload hx hb dX12_deals_107 (lv_at hl 1 rfl) ?_
                          refine lv_if_lt (tgt := 129) hx hb dX12_deals_109 (by decide) (fun c92 => ?_) (fun c92 => ?_)
                          · have g93 := z_f_lt rfl z_l0 c92
                            refine lv_iload hx hb dX12_deals_129 (lv_at hl 0 rfl) ?_
                            refine lv_istore (lv' := [(5, .int y42), (6, .int y42), (4, .int y16), (3, .int y17), (0, .ref (ad 0)), (1, .int a1), (2, .int a2)]) hx hb dX12_deals_131 hl (by decide) rfl (fun ls hl => ?_)
                            obtain ⟨x94, ex94⟩ : ∃ y : Int32, y = y42 + 1 := ⟨_, rfl⟩
                            have tx94 : x94.toInt = y42.toInt + 1 := z_tadd ex94 rfl z_l1 (by omega) (by omega)
                            refine lv_iinc (v := x94) (lv' := [(6, .int x94), (5, .int y42), (4, .int y16), (3, .int y17), (0, .ref (ad 0)), (1, .int a1), (2, .int a2)]) hx hb dX12_deals_133 hl (k := 1) rfl (by rw [ex94]; rfl) (by decide) rfl (fun ls hl => ?_)
                            refine lv_goto (tgt := 88) hx hb dX12_deals_136 (by decide) ?_
                            exact lp41ih x94 y42 _ _ _ (by omega) (by omega) (by omega) (by omega) (fun q => absurd q (by omega)) (fun _ => ⟨ex83.symm.trans (Int32.toInt_inj.mp (show x83.toInt = 0 by omega)), by omega⟩) (by have c9 := z_clt (x := y42) rfl (by omega); have h9 := lp15H; have bd := zd_b_b (B := zd_BM I18) (sv := zd_i I18) y42.toNatClampNeg; have s9 : zd_i I18 y42.toNatClampNeg = decide (¬ x83.toInt = 0) := (by unfold zd_i; rw [hv84]); exact ⟨by rw [(show x94.toNatClampNeg = y42.toNatClampNeg + 1 from z_cln (by omega) (by omega)), zd_b_y ⟨s9.trans (decide_eq_false (by omega)), Or.inl (by omega)⟩]; omega, by omega⟩) hW hS (lv_sub hl [0, 1, 2, 3, 4, 5, 6] rfl)
                          · have g95 := z_f_nlt rfl z_l0 c92
                            refine lv_aload_n hx hb dX12_deals_112 rfl (lv_at hl 4 rfl) ?_
                            refine z_get (T := TX12) (N := 96) (ci := 12) (i := 0) (v := .ref (ad 4)) hx hb hts zj_X12_deals_X12 hown hK hW rfl rfl 6 (by decide) (hts (.fieldLink RX12 19 "PetrolBoardModel" "bidOf" "[I") (me_s (me_l (me_l (List.mem_of_getElem? (i := 4) rfl))))) (fun _ h => h) rfl dX12_deals_113 ?_
                            refine lv_iload hx hb dX12_deals_116 (lv_at hl 0 rfl) ?_
                            refine z_iald (i := 4) hx hb hK hW rfl (z_ix rfl (by omega) (by omega)) dX12_deals_118 ?_
                            refine lv_topi (fun x96 ex96 => ?_)
                            have hv97 : (I18 4 y42.toNatClampNeg).toInt = x96.toInt := by rw [ex96]
                            have hz98 := z_clt (x := y42) rfl (by omega)
                            refine lv_aload_n hx hb dX12_deals_119 rfl (lv_at hl 4 rfl) ?_
                            refine z_get (T := TX12) (N := 96) (ci := 12) (i := 0) (v := .ref (ad 4)) hx hb hts zj_X12_deals_X12 hown hK hW rfl rfl 6 (by decide) (hts (.fieldLink RX12 19 "PetrolBoardModel" "bidOf" "[I") (me_s (me_l (me_l (List.mem_of_getElem? (i := 4) rfl))))) (fun _ h => h) rfl dX12_deals_120 ?_
                            refine lv_iload hx hb dX12_deals_123 (lv_at hl 1 rfl) ?_
                            refine z_iald (i := 4) hx hb hK hW rfl (z_ix rfl (by omega) (by omega)) dX12_deals_125 ?_
                            refine lv_topi (fun x99 ex99 => ?_)
                            have hv100 : (I18 4 y43.toNatClampNeg).toInt = x99.toInt := by rw [ex99]
                            have hz101 := z_clt (x := y43) rfl (by omega)
                            refine lv_icmp_le (tgt := 133) hx hb dX12_deals_126 (by decide) (fun c102 => ?_) (fun c102 => ?_)
                            · have g103 := z_f_le rfl rfl c102
                              have b104 := Int32.toInt_lt x96
                              have b105 := Int32.toInt_lt x99
                              obtain ⟨x106, ex106⟩ : ∃ y : Int32, y = y42 + 1 := ⟨_, rfl⟩
                              have tx106 : x106.toInt = y42.toInt + 1 := z_tadd ex106 rfl z_l1 (by omega) (by omega)
                              refine lv_iinc (v := x106) (lv' := [(6, .int x106), (5, .int y43), (4, .int y16), (3, .int y17), (0, .ref (ad 0)), (1, .int a1), (2, .int a2)]) hx hb dX12_deals_133 hl (k := 0) rfl (by rw [ex106]; rfl) (by decide) rfl (fun ls hl => ?_)
                              refine lv_goto (tgt := 88) hx hb dX12_deals_136 (by decide) ?_
                              exact lp41ih x106 y43 _ _ _ (by omega) (by omega) (by omega) (by omega) (fun q => absurd q (by omega)) lp41B (by have c9 := z_clt (x := y42) rfl (by omega); have h9 := lp15H; have bd := zd_b_b (B := zd_BM I18) (sv := zd_i I18) y42.toNatClampNeg; have s9 : zd_i I18 y42.toNatClampNeg = decide (¬ x83.toInt = 0) := (by unfold zd_i; rw [hv84]); have t9 : (zd_b (zd_BM I18) (zd_i I18) y42.toNatClampNeg).toNat = y43.toNatClampNeg := (by rw [← lp41P.1]; rfl); have v9 : zd_BM I18 y42.toNatClampNeg = x96.toInt := hv97; have w9 : zd_BM I18 y43.toNatClampNeg = x99.toInt := hv100; exact ⟨by rw [(show x106.toNatClampNeg = y42.toNatClampNeg + 1 from z_cln (by omega) (by omega)), zd_b_n (fun q => by have q2 := q.2; rw [t9, v9, w9] at q2; omega)]; exact lp41P.1, by omega⟩) hW hS (lv_sub hl [0, 1, 2, 3, 4, 5, 6] rfl)
                            · have g107 := z_f_nle rfl rfl c102
                              have b108 := Int32.toInt_lt x96
                              have b109 := Int32.toInt_lt x99
                              refine lv_iload hx hb dX12_deals_129 (lv_at hl 0 rfl) ?_
                              refine lv_istore (lv' := [(5, .int y42), (6, .int y42), (4, .int y16), (3, .int y17), (0, .ref (ad 0)), (1, .int a1), (2, .int a2)]) hx hb dX12_deals_131 hl (by decide) rfl (fun ls hl => ?_)
                              obtain ⟨x110, ex110⟩ : ∃ y : Int32, y = y42 + 1 := ⟨_, rfl⟩
                              have tx110 : x110.toInt = y42.toInt + 1 := z_tadd ex110 rfl z_l1 (by omega) (by omega)
                              refine lv_iinc (v := x110) (lv' := [(6, .int x110), (5, .int y42), (4, .int y16), (3, .int y17), (0, .ref (ad 0)), (1, .int a1), (2, .int a2)]) hx hb dX12_deals_133 hl (k := 1) rfl (by rw [ex110]; rfl) (by decide) rfl (fun ls hl => ?_)
                              refine lv_goto (tgt := 88) hx hb dX12_deals_136 (by decide) ?_
                              exact lp41ih x110 y42 _ _ _ (by omega) (by omega) (by omega) (by omega) (fun q => absurd q (by omega)) (fun _ => ⟨ex83.symm.trans (Int32.toInt_inj.mp (show x83.toInt = 0 by omega)), by omega⟩) (by have c9 := z_clt (x := y42) rfl (by omega); have h9 := lp15H; have bd := zd_b_b (B := zd_BM I18) (sv := zd_i I18) y42.toNatClampNeg; have s9 : zd_i I18 y42.toNatClampNeg = decide (¬ x83.toInt = 0) := (by unfold zd_i; rw [hv84]); have t9 : (zd_b (zd_BM I18) (zd_i I18) y42.toNatClampNeg).toNat = y43.toNatClampNeg := (by rw [← lp41P.1]; rfl); have v9 : zd_BM I18 y42.toNatClampNeg = x96.toInt := hv97; have w9 : zd_BM I18 y43.toNatClampNeg = x99.toInt := hv100; exact ⟨by rw [(show x110.toNatClampNeg = y42.toNatClampNeg + 1 from z_cln (by omega) (by omega)), zd_b_y ⟨s9.trans (decide_eq_false (by omega)), Or.inr (by rw [t9, v9, w9]; omega)⟩]; omega, by omega⟩) hW hS (lv_sub hl [0, 1, 2, 3, 4, 5, 6] rfl)
                  exact lp41 4294967296 (0) ((-1)) _ _ _ (z_m0u _) (by rw [z_l0]; omega) (by rw [z_lm1]; omega) (by rw [z_lm1]; omega) (fun _ j hj => absurd hj (by have : ((0 : Int32)).toInt = 0 := (by decide); omega)) (fun q => absurd q (by decide)) ⟨by rw [show (0 : Int32).toNatClampNeg = 0 by decide]; show (-1 : Int32).toInt = (-1 : Int); decide, by have q0 := z_l0; have q9 := hma.2.1; omega⟩ hW hS (lv_sub hl [0, 1, 2, 3, 4, 5, 6] rfl)
          exact lp15 4294967296 (0) y3 I4 J5 _ _ _ (z_m0u _) (by rw [z_l0]; omega) (by omega) (by omega) ⟨(by show 0 ≤ (I4 0 0).toInt ∧ (I4 0 0).toInt ≤ 719; exact lp1ma.1), (by show 0 ≤ (I4 0 1).toInt ∧ (I4 0 1).toInt ≤ 30; exact lp1ma.2.1), (by show 0 ≤ (I4 0 2).toInt ∧ (I4 0 2).toInt ≤ 200; exact lp1ma.2.2)⟩ ⟨(by show 0 ≤ (I4 0 13).toInt ∧ (I4 0 13).toInt ≤ 12; exact lp1mb.1), (by show 0 ≤ (I4 0 14).toInt ∧ (I4 0 14).toInt ≤ 288; exact lp1mb.2)⟩ lp1Atf lp1Atm lp1Nd lp1Asf lp1Ast lp1Asc lp1Ex (congrArg Int32.toInt (lp1fr 0 1 (by decide))) (fun _ => by rw [z_ct_0 (I := I4) (c := 70) (I 0 1).toInt.toNat (fun j hj => lp1Z j (by omega))]; decide) ⟨fun j hj _ => ⟨by rw [show (0 : Int32).toNatClampNeg = 0 by decide]; exact (lp1U.1 j (by omega)).1, by rw [show (0 : Int32).toNatClampNeg = 0 by decide]; unfold zd_i; rw [lp1Z j (by omega)]; exact decide_eq_false (fun q => q (by decide))⟩, fun _ => by rw [show (0 : Int32).toNatClampNeg = 0 by decide]; exact (by have e9 := lp1U.2.1; rw [he12] at e9; exact e9), fun _ => ⟨(by have e9 := lp1U.2.1; rw [he12] at e9; exact e9), fun j hj => absurd hj (by have q0 := z_l0; omega)⟩, by have q0 := z_l0; have q9 := hma.2.1; omega⟩ lp1fr hW hS (lv_sub hl [0, 1, 2, 3, 4] rfl)
        · have g111 := z_f_eq rfl z_l0 c13
          exact z_vret hx hb hr hK hS (Nat.le_of_ble_eq_true rfl) (Nat.le_of_ble_eq_true rfl) hlocks dX12_deals_60 (shM, ad, I4, J5, PM ad) hW ⟨I4, J5, rfl, ⟨(by show 0 ≤ (I4 0 0).toInt ∧ (I4 0 0).toInt ≤ 719; exact lp1ma.1), (by show 0 ≤ (I4 0 1).toInt ∧ (I4 0 1).toInt ≤ 30; exact lp1ma.2.1), (by show 0 ≤ (I4 0 2).toInt ∧ (I4 0 2).toInt ≤ 200; exact lp1ma.2.2)⟩, ⟨(by show 0 ≤ (I4 0 13).toInt ∧ (I4 0 13).toInt ≤ 12; exact lp1mb.1), (by show 0 ≤ (I4 0 14).toInt ∧ (I4 0 14).toInt ≤ 288; exact lp1mb.2)⟩, lp1Atf, lp1Atm, lp1Nd, lp1Asf, lp1Ast, lp1Asc, lp1Ex, lp1fr, (fun j hj => by have c8 := z_clt (x := I 0 1) rfl (by have q9 := hma.2.1; omega); rw [zd_D_0 (by omega) (by omega)]; exact (lp1U.1 j (by have q9 := he12; have c9 := z_clt (x := y2) rfl (by omega); omega)).1)⟩
      · have g112 := z_f_nge rfl rfl c7
        have b113 := Int32.toInt_lt y2
        refine lv_aload_n hx hb dX12_deals_14 rfl (lv_at hl 2 rfl) ?_
        refine z_get (T := TX12) (N := 96) (ci := 12) (i := 0) (v := .ref (ad 69)) hx hb hts zj_X12_deals_X12 hown hK hW rfl rfl 94 (by decide) (hts (.fieldLink RX12 223 "PetrolBoardModel" "deal" "[I") (me_s (me_l (me_l (List.mem_of_getElem? (i := 1) rfl))))) (fun _ h => h) rfl dX12_deals_15 ?_
        refine lv_iload hx hb dX12_deals_18 (lv_at hl 0 rfl) ?_
        refine lv_aload_n hx hb dX12_deals_20 rfl (lv_at hl 2 rfl) ?_
        refine lv_iload hx hb dX12_deals_21 (lv_at hl 0 rfl) ?_
        refine lv_iload_n hx hb dX12_deals_23 rfl (lv_at hl 4 rfl) ?_
        refine lv_aload_n hx hb dX12_deals_24 rfl (lv_at hl 2 rfl) ?_
        have r114 : 0 ≤ (I4 0 0).toInt ∧ (I4 0 0).toInt ≤ 719 := lp1ma.1
        refine z_get (T := TX12) (N := 96) (ci := 12) (i := 0) (v := .int (I4 0 0)) hx hb hts zj_X12_deals_X12 hown hK hW rfl rfl 0 (by decide) (hts (.fieldLink RX12 232 "PetrolBoardModel" "today" "I") (me_s (me_l (me_l (List.mem_of_getElem? (i := 2) rfl))))) (fun _ h => h) rfl dX12_deals_25 ?_
        refine z_ci hW hS hA (va_runV (As := [.int y2, .int a2, .int (I4 0 0)]) (rest := [.int y2, .ref (ad 69)]) ⟨hx, hb, hml, hown, hts⟩ (sx_X12_unitsOf_x l G ad I4 J5 ⟨(by show 0 ≤ (I4 0 0).toInt ∧ (I4 0 0).toInt ≤ 719; exact lp1ma.1), (by show 0 ≤ (I4 0 1).toInt ∧ (I4 0 1).toInt ≤ 30; exact lp1ma.2.1), (by show 0 ≤ (I4 0 2).toInt ∧ (I4 0 2).toInt ≤ 200; exact lp1ma.2.2)⟩ ⟨(by show 0 ≤ (I4 0 13).toInt ∧ (I4 0 13).toInt ≤ 12; exact lp1mb.1), (by show 0 ≤ (I4 0 14).toInt ∧ (I4 0 14).toInt ≤ 288; exact lp1mb.2)⟩ lp1Atf lp1Atm lp1Nd lp1Asf lp1Ast lp1Asc lp1Ex FF RS y2 a2 (I4 0 0) (by omega) (by omega) (zd_W_c hWm (lp1fr 0 13 (by decide)) (fun t F R h => zw_T_c h (fun j => ⟨lp1fr 11 j (z_wr_c (by decide)), lp1fr 12 j (z_wr_c (by decide))⟩) (fun j => ⟨lp1fr 15 j (z_wr_c (by decide)), lp1fr 16 j (z_wr_c (by decide)), lp1fr 17 j (z_wr_c (by decide)), lp1fr 18 j (z_wr_c (by decide)), lp1fr 19 j (z_wr_c (by decide)), lp1fr 20 j (z_wr_c (by decide))⟩) (fun j => ⟨lp1fr 21 j (z_wr_c (by decide)), lp1fr 22 j (z_wr_c (by decide)), lp1fr 23 j (z_wr_c (by decide))⟩)) (fun j => ⟨lp1fr 6 j (z_wr_c (by decide)), lp1fr 7 j (z_wr_c (by decide)), lp1fr 8 j (z_wr_c (by decide)), lp1fr 9 j (z_wr_c (by decide)), lp1fr 10 j (z_wr_c (by decide))⟩) (lp1fr 0 2 (by decide)) (lp1fr 0 1 (by decide)) (fun j => ⟨lp1fr 1 j (z_wr_c (by decide)), lp1fr 2 j (z_wr_c (by decide))⟩)) _) (cwV 3 hts gX12_deals_X12_unitsOf rfl rfl rfl (by decide +kernel) ⟨Nat.le_of_ble_eq_true rfl, Nat.le_of_ble_eq_true rfl⟩) (z_preV (i := 0) hK hW rfl rfl) rfl rfl hl.1 rfl (lv_room (Nat.le_of_ble_eq_true rfl)) dX12_deals_28 ⟨Nat.le_of_ble_eq_true rfl, Nat.le_of_ble_eq_true rfl⟩) (fun r u1 H locs hp hW hS => ?_)
        obtain ⟨I115, J117, e9, hI115ma, hI115mb, hI115Atf, hI115Atm, hI115Nd, hI115Asf, hI115Ast, hI115Asc, hI115Ex, fI115, hp⟩ := hp
        rw [e9] at hW
        have f116 := z_fr_sub (L := L_X12_deals_d) lp1fr fI115 (by decide)
        have k118 : (I115 0 1).toInt = (I4 0 1).toInt := by rw [fI115 0 1 (by decide)]
        refine lv_topi (fun x119 ex119 => ?_)
        rw [← ex119] at hp
        have hb121 := zw_UX_b hp
        have hU120 : x119.toInt = (zd_V I RS a2.toInt) y2.toNatClampNeg := zd_V_e (by omega) (zw_UX_c (lp1fr 0 13 (by decide)) (fun j => ⟨lp1fr 13 j (z_wr_c (by decide)), lp1fr 14 j (z_wr_c (by decide))⟩) (fun j => ⟨lp1fr 6 j (z_wr_c (by decide)), lp1fr 7 j (z_wr_c (by decide)), lp1fr 8 j (z_wr_c (by decide)), lp1fr 9 j (z_wr_c (by decide)), lp1fr 10 j (z_wr_c (by decide))⟩) (lp1fr 0 2 (by decide)) (fun j => ⟨lp1fr 1 j (z_wr_c (by decide)), lp1fr 2 j (z_wr_c (by decide))⟩) (by have q9 := hp; rw [show (I4 0 0).toInt = (I 0 0).toInt by rw [lp1fr 0 0 (by decide)]] at q9; exact q9))
        refine z_iast (i := 69) hx hb hK hW hS rfl (z_ix rfl (by omega) (by omega)) dX12_deals_31 (fun H locs hz1 hW hS => ?_)
        obtain ⟨I122, eI122⟩ : ∃ K : z_I, K = z_up I115 69 y2.toNatClampNeg x119 := ⟨_, rfl⟩
        rw [← eI122] at hW
        have f123 := z_fr_a f116 (show z_wa L_X12_deals_d 69 = true by decide) eI122
        have a124 := z_rg_n hI115Atf (by decide) eI122
        have a125 := z_rg_n hI115Atm (by decide) eI122
        have a126 := z_Nd_n hI115Nd (by decide) eI122
        have a127 := z_rg_n hI115Asf (by decide) eI122
        have a128 := z_rg_n hI115Ast (by decide) eI122
        have a129 := z_rg_n hI115Asc (by decide) eI122
        have a130 := z_Ex_n hI115Ex (by decide) eI122
        refine lv_iload_n hx hb dX12_deals_32 rfl (lv_at hl 1 rfl) ?_
        refine lv_aload_n hx hb dX12_deals_33 rfl (lv_at hl 2 rfl) ?_
        refine z_get (T := TX12) (N := 96) (ci := 12) (i := 0) (v := .ref (ad 69)) hx hb hts zj_X12_deals_X12 hown hK hW rfl rfl 94 (by decide) (hts (.fieldLink RX12 223 "PetrolBoardModel" "deal" "[I") (me_s (me_l (me_l (List.mem_of_getElem? (i := 1) rfl))))) (fun _ h => h) rfl dX12_deals_34 ?_
        refine lv_iload hx hb dX12_deals_37 (lv_at hl 0 rfl) ?_
        refine z_iald (i := 69) hx hb hK hW rfl (z_ix rfl (by omega) (by omega)) dX12_deals_39 ?_
        refine lv_topi (fun x131 ex131 => ?_)
        have hv132 : (I122 69 y2.toNatClampNeg).toInt = x131.toInt := by rw [ex131]
        have hz133 := z_clt (x := y2) rfl (by omega)
        have hw134 : x131.toInt = x119.toInt := by rw [ex131, eI122, z_up_s]
        refine lv_iadd hx hb dX12_deals_40 ?_
        refine lv_topi (fun x135 ex135 => ?_)
        have tx135 : x135.toInt = y3.toInt + x131.toInt := z_tadd ex135 rfl rfl (by omega) (by omega)
        refine lv_istore_n (lv' := [(3, .int x135), (4, .int y2), (0, .ref (ad 0)), (1, .int a1), (2, .int a2)]) hx hb dX12_deals_41 rfl hl (by decide) rfl (fun ls hl => ?_)
        refine lv_aload_n hx hb dX12_deals_42 rfl (lv_at hl 2 rfl) ?_
        refine z_get (T := TX12) (N := 96) (ci := 12) (i := 0) (v := .ref (ad 70)) hx hb hts zj_X12_deals_X12 hown hK hW rfl rfl 95 (by decide) (hts (.fieldLink RX12 226 "PetrolBoardModel" "isDealt" "[Z") (me_s (me_l (me_l (List.mem_of_getElem? (i := 3) rfl))))) (fun _ h => h) rfl dX12_deals_43 ?_
        refine lv_iload hx hb dX12_deals_46 (lv_at hl 1 rfl) ?_
        refine lv_iconst (v := 0) hx hb dX12_deals_48 (by decide) ?_
        refine z_zast (i := 70) hx hb hK hW hS rfl (z_ix rfl (by omega) (by omega)) dX12_deals_49 (fun H locs hz1 hW hS => ?_)
        obtain ⟨I136, eI136⟩ : ∃ K : z_I, K = z_up I122 70 y2.toNatClampNeg (vp_nar .boolean 0) := ⟨_, rfl⟩
        rw [← eI136] at hW
        have f137 := z_fr_a f123 (show z_wa L_X12_deals_d 70 = true by decide) eI136
        have a138 := z_rg_n a124 (by decide) eI136
        have a139 := z_rg_n a125 (by decide) eI136
        have a140 := z_Nd_n a126 (by decide) eI136
        have a141 := z_rg_n a127 (by decide) eI136
        have a142 := z_rg_n a128 (by decide) eI136
        have a143 := z_rg_n a129 (by decide) eI136
        have a144 := z_Ex_n a130 (by decide) eI136
        obtain ⟨x145, ex145⟩ : ∃ y : Int32, y = y2 + 1 := ⟨_, rfl⟩
        have tx145 : x145.toInt = y2.toInt + 1 := z_tadd ex145 rfl z_l1 (by omega) (by omega)
        refine lv_iinc (v := x145) (lv' := [(4, .int x145), (3, .int x135), (0, .ref (ad 0)), (1, .int a1), (2, .int a2)]) hx hb dX12_deals_50 hl (k := 1) rfl (by rw [ex145]; rfl) (by decide) rfl (fun ls hl => ?_)
        refine lv_goto (tgt := 5) hx hb dX12_deals_53 (by decide) ?_
        exact lp1ih x145 x135 I136 J117 _ _ _ (by omega) (by omega) (by omega) (by omega) ⟨(by show 0 ≤ (I136 0 0).toInt ∧ (I136 0 0).toInt ≤ 719; rw [eI136, z_up_n (by decide), eI122, z_up_n (by decide)]; exact hI115ma.1), (by show 0 ≤ (I136 0 1).toInt ∧ (I136 0 1).toInt ≤ 30; rw [eI136, z_up_n (by decide), eI122, z_up_n (by decide)]; exact hI115ma.2.1), (by show 0 ≤ (I136 0 2).toInt ∧ (I136 0 2).toInt ≤ 200; rw [eI136, z_up_n (by decide), eI122, z_up_n (by decide)]; exact hI115ma.2.2)⟩ ⟨(by show 0 ≤ (I136 0 13).toInt ∧ (I136 0 13).toInt ≤ 12; rw [eI136, z_up_n (by decide), eI122, z_up_n (by decide)]; exact hI115mb.1), (by show 0 ≤ (I136 0 14).toInt ∧ (I136 0 14).toInt ≤ 288; rw [eI136, z_up_n (by decide), eI122, z_up_n (by decide)]; exact hI115mb.2)⟩ a138 a139 a140 a141 a142 a143 a144 (congrArg Int32.toInt (f137 0 1 (by decide))) (fun j hj => by by_cases hjk : j = (y2 : Int32).toNatClampNeg; (· (rw [eI136, hjk, z_up_s]; try decide)); (· (rw [eI136, z_up_k hjk, eI122, z_up_n (by decide), fI115 70 j (z_wr_c (by decide))]; have hc9 := z_clt (x := y2) rfl (by omega); exact lp1Z j (by omega)))) (by have c9 := z_clt (x := y2) rfl (by omega); have u9 := lp1U; exact ⟨fun j hj => by rw [eI136, z_up_n (by decide), eI122, z_up_j, fI115 69 j (z_wr_c (by decide))]; by_cases q : j = y2.toNatClampNeg; (· rw [if_pos q, q]; exact ⟨hU120, hb121⟩); (· rw [if_neg q]; exact u9.1 j (by omega)), by rw [(show x145.toNatClampNeg = y2.toNatClampNeg + 1 from z_cln (by omega) (by omega)), zd_S_s, ← u9.2.1, ← hU120]; omega, by omega, by have q8 := lp1H; omega⟩) f137 hW hS (lv_sub hl [0, 1, 2, 3, 4] rfl)
  exact lp1 4294967296 (0) (0) I J _ _ _ (z_m0u _) (by rw [z_l0]; omega) (by rw [z_l0]; omega) (by rw [z_l0]; omega) ⟨(by show 0 ≤ (I 0 0).toInt ∧ (I 0 0).toInt ≤ 719; exact hma.1), (by show 0 ≤ (I 0 1).toInt ∧ (I 0 1).toInt ≤ 30; exact hma.2.1), (by show 0 ≤ (I 0 2).toInt ∧ (I 0 2).toInt ≤ 200; exact hma.2.2)⟩ ⟨(by show 0 ≤ (I 0 13).toInt ∧ (I 0 13).toInt ≤ 12; exact hmb.1), (by show 0 ≤ (I 0 14).toInt ∧ (I 0 14).toInt ≤ 288; exact hmb.2)⟩ hAtf hAtm hNd hAsf hAst hAsc hEx rfl (fun j hj => absurd hj (by have : ((0 : Int32)).toInt = 0 := (by decide); omega)) ⟨fun j hj => absurd hj (by have q0 := z_l0; omega), by rw [show (0 : Int32).toNatClampNeg = 0 by decide]; rfl, by have q0 := z_l0; omega, by have q0 := z_l0; have q9 := hma.2.1; omega⟩ z_fr_0 hW hS (lv_sub hl [0, 1, 2, 3, 4] rfl)
set_option maxHeartbeats 8000000 in
set_option maxRecDepth 100000 in
theorem sx_X8_judgedGood_p_q (l : Launch) (G : z_G) (ad : Nat → Nat) (c : z_C) (I : z_I) (hP : z_iP I) : z_M l yX8_judgedGood wsX8_judgedGood { frames := 1, cells := 0, slots := 0, locals := 12 } [.ref (ad 30)] G (shC c, ad, I, JX, PC c ad) (fun r u1 => u1 = (shC c, ad, I, JX, PC c ad) ∧ (r.toInt = zt_n (zt_G I) (I 30 8).toNatClampNeg)) 0 0 := by
  intro sz
  refine z_headQ (cc := cX8_judgedGood) (maxL := 3) (ret := (some .int)) (by decide) rfl (Nat.le_of_ble_eq_true rfl) ?_
  intro p e s m below meth c0 ls hIn hK hsz hW hl
  obtain ⟨hx, hb, hr, hml, hown, hts, hlocks, hname⟩ := hIn
  subst hsz
  have hown : s.vm.findClass RX8 = some m.cls := hown
  have hA : ∀ q : Nat, s.heap.size ≤ q → z_A (shC c, ad, I, JX, PC c ad) s.heap.size q := fun q h => Or.inr h
  generalize hAe : z_A (shC c, ad, I, JX, PC c ad) s.heap.size = A at *
  have hS : va_S A s.heap s.heap [] := va_S.rf
  have hl : lv_has ls 3 [(0, .ref (ad 30))] := hl
  have nC9 : 0 ≤ (I 30 8).toInt ∧ (I 30 8).toInt ≤ 300 := hP
  refine lv_iconst (v := 0) hx hb dX8_judgedGood_0 (by decide) ?_
  refine lv_istore_n (lv' := [(1, .int 0), (0, .ref (ad 30))]) hx hb dX8_judgedGood_1 rfl hl (by decide) rfl (fun ls hl => ?_)
  refine lv_iconst (v := 0) hx hb dX8_judgedGood_2 (by decide) ?_
  refine lv_istore_n (lv' := [(2, .int 0), (1, .int 0), (0, .ref (ad 30))]) hx hb dX8_judgedGood_3 rfl hl (by decide) rfl (fun ls hl => ?_)
  have lp1 : ∀ (f : Nat) (y2 : Int32) (y3 : Int32) (H : Heap) (locs : List Loc) (ls : Array Slot), (2147483647 < y2.toInt + (f : Int)) → (0 ≤ y2.toInt) → (0 ≤ y3.toInt) → (y3.toInt ≤ 300) → (y3.toInt = zt_n (zt_G I) y2.toNatClampNeg ∧ y3.toInt ≤ y2.toInt ∧ y2.toInt ≤ (I 30 8).toInt) → z_W G A (shC c, ad, I, JX, PC c ad) H → va_S A s.heap H locs → lv_has ls 3 [(2, .int y2), (1, .int y3), (0, .ref (ad 30))] → W p l e (headSpec wsX8_judgedGood { frames := 1, cells := 0, slots := 0, locals := 12 }).room s m ([.ref (ad 30)] : List Value).toArray below meth c0 H locs 0 0 (MQ below (va_Qi (fun (r : Int32) (u1 : z_U) => u1 = (shC c, ad, I, JX, PC c ad) ∧ (r.toInt = zt_n (zt_G I) (I 30 8).toNatClampNeg)) (z_B G A) A) ([.ref (ad 30)] : List Value).toArray s 0 0 A) (F0 m 4 ls []) := by
    intro f
    induction f with
    | zero => intro y2 y3 H locs ls lp1m lp1l2 lp1l1 lp1u1 lp1B hW hS hl; exact absurd lp1m (by have := Int32.toInt_lt y2; have := Int32.le_toInt y2; omega)
    | succ f lp1ih =>
      intro y2 y3 H locs ls lp1m lp1l2 lp1l1 lp1u1 lp1B hW hS hl
      refine lv_iload_n hx hb dX8_judgedGood_4 rfl (lv_at hl 0 rfl) ?_
      refine lv_aload_n hx hb dX8_judgedGood_5 rfl (lv_at hl 2 rfl) ?_
      have r4 : 0 ≤ (I 30 8).toInt ∧ (I 30 8).toInt ≤ 300 := hP
      refine z_get (T := TX8) (N := 9) (ci := 8) (i := 30) (v := .int (I 30 8)) hx hb hts zj_X8_judgedGood_X8 hown hK hW rfl rfl 8 (by decide) (hts (.fieldLink RX8 36 "PetrolBoard$Pours" "number" "I") (me_s (me_l (List.mem_of_getElem? (i := 0) rfl)))) (fun _ h => h) rfl dX8_judgedGood_6 ?_
      refine lv_icmp_ge (tgt := 42) hx hb dX8_judgedGood_9 (by decide) (fun c5 => ?_) (fun c5 => ?_)
      · have g6 := z_f_ge rfl rfl c5
        have b7 := Int32.toInt_lt y2
        refine lv_iload_n hx hb dX8_judgedGood_42 rfl (lv_at hl 1 rfl) ?_
        exact z_iret hx hb hr hK hS (Nat.le_of_ble_eq_true rfl) (Nat.le_of_ble_eq_true rfl) hlocks dX8_judgedGood_43 (shC c, ad, I, JX, PC c ad) hW ⟨rfl, (by have q1 := z_clt (x := y2) rfl (by omega); have q2 := z_clt (x := (I 30 8)) rfl (by omega); rw [show (I 30 8).toNatClampNeg = y2.toNatClampNeg by omega]; exact lp1B.1)⟩
      · have g8 := z_f_nge rfl rfl c5
        have b9 := Int32.toInt_lt y2
        refine lv_iload_n hx hb dX8_judgedGood_12 rfl (lv_at hl 0 rfl) ?_
        refine lv_sipush (v := 300) hx hb dX8_judgedGood_13 (by decide) ?_
        refine lv_icmp_ge (tgt := 42) hx hb dX8_judgedGood_16 (by decide) (fun c10 => (by have g := z_f_ge rfl z_l300 c10; omega)) (fun c10 => ?_)
        have g11 := z_f_nge rfl z_l300 c10
        refine lv_iload_n hx hb dX8_judgedGood_19 rfl (lv_at hl 1 rfl) ?_
        refine lv_aload_n hx hb dX8_judgedGood_20 rfl (lv_at hl 2 rfl) ?_
        refine z_get (T := TX8) (N := 9) (ci := 8) (i := 30) (v := .ref (ad 36)) hx hb hts zj_X8_judgedGood_X8 hown hK hW rfl rfl 5 (by decide) (hts (.fieldLink RX8 27 "PetrolBoard$Pours" "verdict" "[I") (me_s (me_l (List.mem_of_getElem? (i := 1) rfl)))) (fun _ h => h) rfl dX8_judgedGood_21 ?_
        refine lv_iload_n hx hb dX8_judgedGood_24 rfl (lv_at hl 0 rfl) ?_
        refine z_iald (i := 36) hx hb hK hW rfl (z_ix rfl (by omega) (by omega)) dX8_judgedGood_25 ?_
        refine lv_topi (fun x12 ex12 => ?_)
        have hv13 : (I 36 y2.toNatClampNeg).toInt = x12.toInt := by rw [ex12]
        have hz14 := z_clt (x := y2) rfl (by omega)
        refine lv_if_ne (tgt := 33) hx hb dX8_judgedGood_26 (by decide) (fun c15 => ?_) (fun c15 => ?_)
        · have g16 := z_f_ne rfl z_l0 c15
          have b17 := Int32.toInt_lt x12
          refine lv_iconst (v := 0) hx hb dX8_judgedGood_33 (by decide) ?_
          refine lv_iadd hx hb dX8_judgedGood_34 ?_
          refine lv_topi (fun x18 ex18 => ?_)
          have tx18 : x18.toInt = y3.toInt + 0 := z_tadd ex18 rfl z_l0 (by omega) (by omega)
          refine lv_istore_n (lv' := [(1, .int x18), (2, .int y2), (0, .ref (ad 30))]) hx hb dX8_judgedGood_35 rfl hl (by decide) rfl (fun ls hl => ?_)
          obtain ⟨x19, ex19⟩ : ∃ y : Int32, y = y2 + 1 := ⟨_, rfl⟩
          have tx19 : x19.toInt = y2.toInt + 1 := z_tadd ex19 rfl z_l1 (by omega) (by omega)
          refine lv_iinc (v := x19) (lv' := [(2, .int x19), (1, .int x18), (0, .ref (ad 30))]) hx hb dX8_judgedGood_36 hl (k := 1) rfl (by rw [ex19]; rfl) (by decide) rfl (fun ls hl => ?_)
          refine lv_goto (tgt := 4) hx hb dX8_judgedGood_39 (by decide) ?_
          exact lp1ih x19 x18 _ _ _ (by omega) (by omega) (by omega) (by omega) ⟨by rw [show x19.toNatClampNeg = y2.toNatClampNeg + 1 from z_cln (by omega) (by omega)]; first | (rw [zt_G_y (by omega)]; omega) | (rw [zt_G_n (by omega)]; omega), by omega, by omega⟩ hW hS (lv_sub hl [0, 1, 2] rfl)
        · have g20 := z_f_eq rfl z_l0 c15
          have b21 := Int32.toInt_lt x12
          refine lv_iconst (v := 1) hx hb dX8_judgedGood_29 (by decide) ?_
          refine lv_goto (tgt := 34) hx hb dX8_judgedGood_30 (by decide) ?_
          refine lv_iadd hx hb dX8_judgedGood_34 ?_
          refine lv_topi (fun x22 ex22 => ?_)
          have tx22 : x22.toInt = y3.toInt + 1 := z_tadd ex22 rfl z_l1 (by omega) (by omega)
          refine lv_istore_n (lv' := [(1, .int x22), (2, .int y2), (0, .ref (ad 30))]) hx hb dX8_judgedGood_35 rfl hl (by decide) rfl (fun ls hl => ?_)
          obtain ⟨x23, ex23⟩ : ∃ y : Int32, y = y2 + 1 := ⟨_, rfl⟩
          have tx23 : x23.toInt = y2.toInt + 1 := z_tadd ex23 rfl z_l1 (by omega) (by omega)
          refine lv_iinc (v := x23) (lv' := [(2, .int x23), (1, .int x22), (0, .ref (ad 30))]) hx hb dX8_judgedGood_36 hl (k := 1) rfl (by rw [ex23]; rfl) (by decide) rfl (fun ls hl => ?_)
          refine lv_goto (tgt := 4) hx hb dX8_judgedGood_39 (by decide) ?_
          exact lp1ih x23 x22 _ _ _ (by omega) (by omega) (by omega) (by omega) ⟨by rw [show x23.toNatClampNeg = y2.toNatClampNeg + 1 from z_cln (by omega) (by omega)]; first | (rw [zt_G_y (by omega)]; omega) | (rw [zt_G_n (by omega)]; omega), by omega, by omega⟩ hW hS (lv_sub hl [0, 1, 2] rfl)
  exact lp1 4294967296 (0) (0) _ _ _ (z_m0u _) (by rw [z_l0]; omega) (by rw [z_l0]; omega) (by rw [z_l0]; omega) ⟨by rw [show (0 : Int32).toNatClampNeg = 0 by decide]; rfl, by omega, by have q0 := z_l0; omega⟩ hW hS (lv_sub hl [0, 1, 2] rfl)
set_option maxHeartbeats 8000000 in
set_option maxRecDepth 100000 in
theorem sx_X8_judgedOtherwise_p_q (l : Launch) (G : z_G) (ad : Nat → Nat) (c : z_C) (I : z_I) (hP : z_iP I) : z_M l yX8_judgedOtherwise wsX8_judgedOtherwise { frames := 1, cells := 0, slots := 0, locals := 12 } [.ref (ad 30)] G (shC c, ad, I, JX, PC c ad) (fun r u1 => u1 = (shC c, ad, I, JX, PC c ad) ∧ (r.toInt = zt_n (zt_O I) (I 30 8).toNatClampNeg)) 0 0 := by
  intro sz
  refine z_headQ (cc := cX8_judgedOtherwise) (maxL := 3) (ret := (some .int)) (by decide) rfl (Nat.le_of_ble_eq_true rfl) ?_
  intro p e s m below meth c0 ls hIn hK hsz hW hl
  obtain ⟨hx, hb, hr, hml, hown, hts, hlocks, hname⟩ := hIn
  subst hsz
  have hown : s.vm.findClass RX8 = some m.cls := hown
  have hA : ∀ q : Nat, s.heap.size ≤ q → z_A (shC c, ad, I, JX, PC c ad) s.heap.size q := fun q h => Or.inr h
  generalize hAe : z_A (shC c, ad, I, JX, PC c ad) s.heap.size = A at *
  have hS : va_S A s.heap s.heap [] := va_S.rf
  have hl : lv_has ls 3 [(0, .ref (ad 30))] := hl
  have nC9 : 0 ≤ (I 30 8).toInt ∧ (I 30 8).toInt ≤ 300 := hP
  refine lv_iconst (v := 0) hx hb dX8_judgedOtherwise_0 (by decide) ?_
  refine lv_istore_n (lv' := [(1, .int 0), (0, .ref (ad 30))]) hx hb dX8_judgedOtherwise_1 rfl hl (by decide) rfl (fun ls hl => ?_)
  refine lv_iconst (v := 0) hx hb dX8_judgedOtherwise_2 (by decide) ?_
  refine lv_istore_n (lv' := [(2, .int 0), (1, .int 0), (0, .ref (ad 30))]) hx hb dX8_judgedOtherwise_3 rfl hl (by decide) rfl (fun ls hl => ?_)
  have lp1 : ∀ (f : Nat) (y2 : Int32) (y3 : Int32) (H : Heap) (locs : List Loc) (ls : Array Slot), (2147483647 < y2.toInt + (f : Int)) → (0 ≤ y2.toInt) → (0 ≤ y3.toInt) → (y3.toInt ≤ 300) → (y3.toInt = zt_n (zt_O I) y2.toNatClampNeg ∧ y3.toInt ≤ y2.toInt ∧ y2.toInt ≤ (I 30 8).toInt) → z_W G A (shC c, ad, I, JX, PC c ad) H → va_S A s.heap H locs → lv_has ls 3 [(2, .int y2), (1, .int y3), (0, .ref (ad 30))] → W p l e (headSpec wsX8_judgedOtherwise { frames := 1, cells := 0, slots := 0, locals := 12 }).room s m ([.ref (ad 30)] : List Value).toArray below meth c0 H locs 0 0 (MQ below (va_Qi (fun (r : Int32) (u1 : z_U) => u1 = (shC c, ad, I, JX, PC c ad) ∧ (r.toInt = zt_n (zt_O I) (I 30 8).toNatClampNeg)) (z_B G A) A) ([.ref (ad 30)] : List Value).toArray s 0 0 A) (F0 m 4 ls []) := by
    intro f
    induction f with
    | zero => intro y2 y3 H locs ls lp1m lp1l2 lp1l1 lp1u1 lp1B hW hS hl; exact absurd lp1m (by have := Int32.toInt_lt y2; have := Int32.le_toInt y2; omega)
    | succ f lp1ih =>
      intro y2 y3 H locs ls lp1m lp1l2 lp1l1 lp1u1 lp1B hW hS hl
      refine lv_iload_n hx hb dX8_judgedOtherwise_4 rfl (lv_at hl 0 rfl) ?_
      refine lv_aload_n hx hb dX8_judgedOtherwise_5 rfl (lv_at hl 2 rfl) ?_
      have r4 : 0 ≤ (I 30 8).toInt ∧ (I 30 8).toInt ≤ 300 := hP
      refine z_get (T := TX8) (N := 9) (ci := 8) (i := 30) (v := .int (I 30 8)) hx hb hts zj_X8_judgedOtherwise_X8 hown hK hW rfl rfl 8 (by decide) (hts (.fieldLink RX8 36 "PetrolBoard$Pours" "number" "I") (me_s (me_l (List.mem_of_getElem? (i := 0) rfl)))) (fun _ h => h) rfl dX8_judgedOtherwise_6 ?_
      refine lv_icmp_ge (tgt := 42) hx hb dX8_judgedOtherwise_9 (by decide) (fun c5 => ?_) (fun c5 => ?_)
      · have g6 := z_f_ge rfl rfl c5
        have b7 := Int32.toInt_lt y2
        refine lv_iload_n hx hb dX8_judgedOtherwise_42 rfl (lv_at hl 1 rfl) ?_
        exact z_iret hx hb hr hK hS (Nat.le_of_ble_eq_true rfl) (Nat.le_of_ble_eq_true rfl) hlocks dX8_judgedOtherwise_43 (shC c, ad, I, JX, PC c ad) hW ⟨rfl, (by have q1 := z_clt (x := y2) rfl (by omega); have q2 := z_clt (x := (I 30 8)) rfl (by omega); rw [show (I 30 8).toNatClampNeg = y2.toNatClampNeg by omega]; exact lp1B.1)⟩
      · have g8 := z_f_nge rfl rfl c5
        have b9 := Int32.toInt_lt y2
        refine lv_iload_n hx hb dX8_judgedOtherwise_12 rfl (lv_at hl 0 rfl) ?_
        refine lv_sipush (v := 300) hx hb dX8_judgedOtherwise_13 (by decide) ?_
        refine lv_icmp_ge (tgt := 42) hx hb dX8_judgedOtherwise_16 (by decide) (fun c10 => (by have g := z_f_ge rfl z_l300 c10; omega)) (fun c10 => ?_)
        have g11 := z_f_nge rfl z_l300 c10
        refine lv_iload_n hx hb dX8_judgedOtherwise_19 rfl (lv_at hl 1 rfl) ?_
        refine lv_aload_n hx hb dX8_judgedOtherwise_20 rfl (lv_at hl 2 rfl) ?_
        refine z_get (T := TX8) (N := 9) (ci := 8) (i := 30) (v := .ref (ad 36)) hx hb hts zj_X8_judgedOtherwise_X8 hown hK hW rfl rfl 5 (by decide) (hts (.fieldLink RX8 27 "PetrolBoard$Pours" "verdict" "[I") (me_s (me_l (List.mem_of_getElem? (i := 1) rfl)))) (fun _ h => h) rfl dX8_judgedOtherwise_21 ?_
        refine lv_iload_n hx hb dX8_judgedOtherwise_24 rfl (lv_at hl 0 rfl) ?_
        refine z_iald (i := 36) hx hb hK hW rfl (z_ix rfl (by omega) (by omega)) dX8_judgedOtherwise_25 ?_
        refine lv_topi (fun x12 ex12 => ?_)
        have hv13 : (I 36 y2.toNatClampNeg).toInt = x12.toInt := by rw [ex12]
        have hz14 := z_clt (x := y2) rfl (by omega)
        refine lv_if_le (tgt := 33) hx hb dX8_judgedOtherwise_26 (by decide) (fun c15 => ?_) (fun c15 => ?_)
        · have g16 := z_f_le rfl z_l0 c15
          have b17 := Int32.toInt_lt x12
          refine lv_iconst (v := 0) hx hb dX8_judgedOtherwise_33 (by decide) ?_
          refine lv_iadd hx hb dX8_judgedOtherwise_34 ?_
          refine lv_topi (fun x18 ex18 => ?_)
          have tx18 : x18.toInt = y3.toInt + 0 := z_tadd ex18 rfl z_l0 (by omega) (by omega)
          refine lv_istore_n (lv' := [(1, .int x18), (2, .int y2), (0, .ref (ad 30))]) hx hb dX8_judgedOtherwise_35 rfl hl (by decide) rfl (fun ls hl => ?_)
          obtain ⟨x19, ex19⟩ : ∃ y : Int32, y = y2 + 1 := ⟨_, rfl⟩
          have tx19 : x19.toInt = y2.toInt + 1 := z_tadd ex19 rfl z_l1 (by omega) (by omega)
          refine lv_iinc (v := x19) (lv' := [(2, .int x19), (1, .int x18), (0, .ref (ad 30))]) hx hb dX8_judgedOtherwise_36 hl (k := 1) rfl (by rw [ex19]; rfl) (by decide) rfl (fun ls hl => ?_)
          refine lv_goto (tgt := 4) hx hb dX8_judgedOtherwise_39 (by decide) ?_
          exact lp1ih x19 x18 _ _ _ (by omega) (by omega) (by omega) (by omega) ⟨by rw [show x19.toNatClampNeg = y2.toNatClampNeg + 1 from z_cln (by omega) (by omega)]; first | (rw [zt_O_y (by omega)]; omega) | (rw [zt_O_n (by omega)]; omega), by omega, by omega⟩ hW hS (lv_sub hl [0, 1, 2] rfl)
        · have g20 := z_f_nle rfl z_l0 c15
          have b21 := Int32.toInt_lt x12
          refine lv_iconst (v := 1) hx hb dX8_judgedOtherwise_29 (by decide) ?_
          refine lv_goto (tgt := 34) hx hb dX8_judgedOtherwise_30 (by decide) ?_
          refine lv_iadd hx hb dX8_judgedOtherwise_34 ?_
          refine lv_topi (fun x22 ex22 => ?_)
          have tx22 : x22.toInt = y3.toInt + 1 := z_tadd ex22 rfl z_l1 (by omega) (by omega)
          refine lv_istore_n (lv' := [(1, .int x22), (2, .int y2), (0, .ref (ad 30))]) hx hb dX8_judgedOtherwise_35 rfl hl (by decide) rfl (fun ls hl => ?_)
          obtain ⟨x23, ex23⟩ : ∃ y : Int32, y = y2 + 1 := ⟨_, rfl⟩
          have tx23 : x23.toInt = y2.toInt + 1 := z_tadd ex23 rfl z_l1 (by omega) (by omega)
          refine lv_iinc (v := x23) (lv' := [(2, .int x23), (1, .int x22), (0, .ref (ad 30))]) hx hb dX8_judgedOtherwise_36 hl (k := 1) rfl (by rw [ex23]; rfl) (by decide) rfl (fun ls hl => ?_)
          refine lv_goto (tgt := 4) hx hb dX8_judgedOtherwise_39 (by decide) ?_
          exact lp1ih x23 x22 _ _ _ (by omega) (by omega) (by omega) (by omega) ⟨by rw [show x23.toNatClampNeg = y2.toNatClampNeg + 1 from z_cln (by omega) (by omega)]; first | (rw [zt_O_y (by omega)]; omega) | (rw [zt_O_n (by omega)]; omega), by omega, by omega⟩ hW hS (lv_sub hl [0, 1, 2] rfl)
  exact lp1 4294967296 (0) (0) _ _ _ (z_m0u _) (by rw [z_l0]; omega) (by rw [z_l0]; omega) (by rw [z_l0]; omega) ⟨by rw [show (0 : Int32).toNatClampNeg = 0 by decide]; rfl, by omega, by have q0 := z_l0; omega⟩ hW hS (lv_sub hl [0, 1, 2] rfl)
set_option maxHeartbeats 8000000 in
set_option maxRecDepth 100000 in
theorem sx_X12_count_p_q (l : Launch) (G : z_G) (ad : Nat → Nat) (I : z_I) (J : z_J) (hma : z_ima I) (hmb : z_imb I) (hmp : z_imp I) (hms : z_ims I) (hmr : z_imr I) (hmj : z_imj I) (a1 : Int32) : z_M l yX12_count wsX12_count { frames := 1, cells := 0, slots := 0, locals := 12 } [.ref (ad 0), .int a1] G (shM, ad, I, J, PM ad) (fun r u1 => u1 = (shM, ad, I, J, PM ad) ∧ (zt_t (zt_m I) a1.toInt r.toInt)) 0 0 := by
  intro sz
  refine z_headQ (cc := cX12_count) (maxL := 5) (ret := (some .int)) (by decide) rfl (Nat.le_of_ble_eq_true rfl) ?_
  intro p e s m below meth c0 ls hIn hK hsz hW hl
  obtain ⟨hx, hb, hr, hml, hown, hts, hlocks, hname⟩ := hIn
  subst hsz
  have hown : s.vm.findClass RX12 = some m.cls := hown
  have hA : ∀ q : Nat, s.heap.size ≤ q → z_A (shM, ad, I, J, PM ad) s.heap.size q := fun q h => Or.inr h
  generalize hAe : z_A (shM, ad, I, J, PM ad) s.heap.size = A at *
  have hS : va_S A s.heap s.heap [] := va_S.rf
  have hl : lv_has ls 5 [(0, .ref (ad 0)), (1, .int a1)] := hl
  have nC9 : 0 ≤ (I 0 55).toInt := hms.2.1
  refine lv_iconst (v := 0) hx hb dX12_count_0 (by decide) ?_
  refine lv_istore_n (lv' := [(2, .int 0), (0, .ref (ad 0)), (1, .int a1)]) hx hb dX12_count_1 rfl hl (by decide) rfl (fun ls hl => ?_)
  refine lv_iconst (v := 0) hx hb dX12_count_2 (by decide) ?_
  refine lv_istore_n (lv' := [(3, .int 0), (2, .int 0), (0, .ref (ad 0)), (1, .int a1)]) hx hb dX12_count_3 rfl hl (by decide) rfl (fun ls hl => ?_)
  refine lv_iconst (v := 0) hx hb dX12_count_4 (by decide) ?_
  refine lv_istore (lv' := [(4, .int 0), (3, .int 0), (2, .int 0), (0, .ref (ad 0)), (1, .int a1)]) hx hb dX12_count_5 hl (by decide) rfl (fun ls hl => ?_)
  have lp1 : ∀ (f : Nat) (y2 : Int32) (y3 : Int32) (y4 : Int32) (H : Heap) (locs : List Loc) (ls : Array Slot), (2147483647 < y2.toInt + (f : Int)) → (0 ≤ y2.toInt) → (0 ≤ y3.toInt) → (y3.toInt ≤ 300) → (0 ≤ y4.toInt) → (y4.toInt ≤ 300) → (y4.toInt = zt_n (zt_g I) y2.toNatClampNeg ∧ y3.toInt = zt_n (zt_o I) y2.toNatClampNeg ∧ y4.toInt ≤ y2.toInt ∧ y3.toInt ≤ y2.toInt ∧ y2.toInt ≤ (I 0 55).toInt) → z_W G A (shM, ad, I, J, PM ad) H → va_S A s.heap H locs → lv_has ls 5 [(4, .int y2), (3, .int y3), (2, .int y4), (0, .ref (ad 0)), (1, .int a1)] → W p l e (headSpec wsX12_count { frames := 1, cells := 0, slots := 0, locals := 12 }).room s m ([.ref (ad 0), .int a1] : List Value).toArray below meth c0 H locs 0 0 (MQ below (va_Qi (fun (r : Int32) (u1 : z_U) => u1 = (shM, ad, I, J, PM ad) ∧ (zt_t (zt_m I) a1.toInt r.toInt)) (z_B G A) A) ([.ref (ad 0), .int a1] : List Value).toArray s 0 0 A) (F0 m 7 ls []) := by
    intro f
    induction f with
    | zero => intro y2 y3 y4 H locs ls lp1m lp1l4 lp1l3 lp1u3 lp1l2 lp1u2 lp1B hW hS hl; exact absurd lp1m (by have := Int32.toInt_lt y2; have := Int32.le_toInt y2; omega)
    | succ f lp1ih =>
      intro y2 y3 y4 H locs ls lp1m lp1l4 lp1l3 lp1u3 lp1l2 lp1u2 lp1B hW hS hl
      refine lv_iload hx hb dX12_count_7 (lv_at hl 0 rfl) ?_
      refine lv_aload_n hx hb dX12_count_9 rfl (lv_at hl 3 rfl) ?_
      have r5 : 0 ≤ (I 0 55).toInt ∧ (I 0 55).toInt ≤ 300 := hms.2
      refine z_get (T := TX12) (N := 96) (ci := 12) (i := 0) (v := .int (I 0 55)) hx hb hts zj_X12_count_X12 hown hK hW rfl rfl 55 (by decide) (hts (.fieldLink RX12 468 "PetrolBoardModel" "pours" "I") (me_s (me_l (List.mem_of_getElem? (i := 0) rfl)))) (fun _ h => h) rfl dX12_count_10 ?_
      refine lv_icmp_ge (tgt := 48) hx hb dX12_count_13 (by decide) (fun c6 => ?_) (fun c6 => ?_)
      · have g7 := z_f_ge rfl rfl c6
        have b8 := Int32.toInt_lt y2
        refine lv_iload_n hx hb dX12_count_48 rfl (lv_at hl 4 rfl) ?_
        by_cases q9 : a1 = 0
        · refine lv_tableIn (tgt := 116) hx hb dX12_count_49 (by rw [q9]; decide) (by rw [q9]; decide) (by rw [q9]; rfl) (by decide) ?_
          refine lv_aload_n hx hb dX12_count_116 rfl (lv_at hl 3 rfl) ?_
          have r10 : 0 ≤ (I 0 0).toInt ∧ (I 0 0).toInt ≤ 719 := hma.1
          refine z_get (T := TX12) (N := 96) (ci := 12) (i := 0) (v := .int (I 0 0)) hx hb hts zj_X12_count_X12 hown hK hW rfl rfl 0 (by decide) (hts (.fieldLink RX12 232 "PetrolBoardModel" "today" "I") (me_s (me_l (List.mem_of_getElem? (i := 2) rfl)))) (fun _ h => h) rfl dX12_count_117 ?_
          exact z_iret hx hb hr hK hS (Nat.le_of_ble_eq_true rfl) (Nat.le_of_ble_eq_true rfl) hlocks dX12_count_120 (shM, ad, I, J, PM ad) hW ⟨rfl, (zt_t_i (k := 0) (show a1.toInt = 0 by rw [‹a1 = 0›]; decide) (by decide) rfl)⟩
        by_cases q11 : a1 = 1
        · refine lv_tableIn (tgt := 121) hx hb dX12_count_49 (by rw [q11]; decide) (by rw [q11]; decide) (by rw [q11]; rfl) (by decide) ?_
          refine lv_aload_n hx hb dX12_count_121 rfl (lv_at hl 3 rfl) ?_
          have r12 : 0 ≤ (I 0 1).toInt ∧ (I 0 1).toInt ≤ 30 := hma.2.1
          refine z_get (T := TX12) (N := 96) (ci := 12) (i := 0) (v := .int (I 0 1)) hx hb hts zj_X12_count_X12 hown hK hW rfl rfl 1 (by decide) (hts (.fieldLink RX12 229 "PetrolBoardModel" "holders" "I") (me_s (me_l (List.mem_of_getElem? (i := 3) rfl)))) (fun _ h => h) rfl dX12_count_122 ?_
          exact z_iret hx hb hr hK hS (Nat.le_of_ble_eq_true rfl) (Nat.le_of_ble_eq_true rfl) hlocks dX12_count_125 (shM, ad, I, J, PM ad) hW ⟨rfl, (zt_t_i (k := 1) (show a1.toInt = 1 by rw [‹a1 = 1›]; decide) (by decide) rfl)⟩
        by_cases q13 : a1 = 2
        · refine lv_tableIn (tgt := 126) hx hb dX12_count_49 (by rw [q13]; decide) (by rw [q13]; decide) (by rw [q13]; rfl) (by decide) ?_
          refine lv_aload_n hx hb dX12_count_126 rfl (lv_at hl 3 rfl) ?_
          have r14 : 0 ≤ (I 0 2).toInt ∧ (I 0 2).toInt ≤ 200 := hma.2.2
          refine z_get (T := TX12) (N := 96) (ci := 12) (i := 0) (v := .int (I 0 2)) hx hb hts zj_X12_count_X12 hown hK hW rfl rfl 2 (by decide) (hts (.fieldLink RX12 246 "PetrolBoardModel" "notes" "I") (me_s (me_l (List.mem_of_getElem? (i := 4) rfl)))) (fun _ h => h) rfl dX12_count_127 ?_
          exact z_iret hx hb hr hK hS (Nat.le_of_ble_eq_true rfl) (Nat.le_of_ble_eq_true rfl) hlocks dX12_count_130 (shM, ad, I, J, PM ad) hW ⟨rfl, (zt_t_i (k := 2) (show a1.toInt = 2 by rw [‹a1 = 2›]; decide) (by decide) rfl)⟩
        by_cases q15 : a1 = 3
        · refine lv_tableIn (tgt := 131) hx hb dX12_count_49 (by rw [q15]; decide) (by rw [q15]; decide) (by rw [q15]; rfl) (by decide) ?_
          refine lv_aload_n hx hb dX12_count_131 rfl (lv_at hl 3 rfl) ?_
          have r16 : 0 ≤ (I 0 13).toInt ∧ (I 0 13).toInt ≤ 12 := hmb.1
          refine z_get (T := TX12) (N := 96) (ci := 12) (i := 0) (v := .int (I 0 13)) hx hb hts zj_X12_count_X12 hown hK hW rfl rfl 13 (by decide) (hts (.fieldLink RX12 408 "PetrolBoardModel" "texts" "I") (me_s (me_l (List.mem_of_getElem? (i := 5) rfl)))) (fun _ h => h) rfl dX12_count_132 ?_
          exact z_iret hx hb hr hK hS (Nat.le_of_ble_eq_true rfl) (Nat.le_of_ble_eq_true rfl) hlocks dX12_count_135 (shM, ad, I, J, PM ad) hW ⟨rfl, (zt_t_i (k := 3) (show a1.toInt = 3 by rw [‹a1 = 3›]; decide) (by decide) rfl)⟩
        by_cases q17 : a1 = 4
        · refine lv_tableIn (tgt := 136) hx hb dX12_count_49 (by rw [q17]; decide) (by rw [q17]; decide) (by rw [q17]; rfl) (by decide) ?_
          refine lv_aload_n hx hb dX12_count_136 rfl (lv_at hl 3 rfl) ?_
          refine z_get (T := TX12) (N := 96) (ci := 12) (i := 0) (v := .int (I 0 50)) hx hb hts zj_X12_count_X12 hown hK hW rfl rfl 50 (by decide) (hts (.fieldLink RX12 449 "PetrolBoardModel" "books" "I") (me_s (me_l (List.mem_of_getElem? (i := 6) rfl)))) (fun _ h => h) rfl dX12_count_137 ?_
          exact z_iret hx hb hr hK hS (Nat.le_of_ble_eq_true rfl) (Nat.le_of_ble_eq_true rfl) hlocks dX12_count_140 (shM, ad, I, J, PM ad) hW ⟨rfl, (zt_t_i (k := 4) (show a1.toInt = 4 by rw [‹a1 = 4›]; decide) (by decide) rfl)⟩
        by_cases q18 : a1 = 5
        · refine lv_tableIn (tgt := 141) hx hb dX12_count_49 (by rw [q18]; decide) (by rw [q18]; decide) (by rw [q18]; rfl) (by decide) ?_
          refine lv_aload_n hx hb dX12_count_141 rfl (lv_at hl 3 rfl) ?_
          have r19 : 0 ≤ (I 0 54).toInt ∧ (I 0 54).toInt ≤ 10 := hms.1
          refine z_get (T := TX12) (N := 96) (ci := 12) (i := 0) (v := .int (I 0 54)) hx hb hts zj_X12_count_X12 hown hK hW rfl rfl 54 (by decide) (hts (.fieldLink RX12 461 "PetrolBoardModel" "stations" "I") (me_s (me_l (List.mem_of_getElem? (i := 7) rfl)))) (fun _ h => h) rfl dX12_count_142 ?_
          exact z_iret hx hb hr hK hS (Nat.le_of_ble_eq_true rfl) (Nat.le_of_ble_eq_true rfl) hlocks dX12_count_145 (shM, ad, I, J, PM ad) hW ⟨rfl, (zt_t_i (k := 5) (show a1.toInt = 5 by rw [‹a1 = 5›]; decide) (by decide) rfl)⟩
        by_cases q20 : a1 = 6
        · refine lv_tableIn (tgt := 146) hx hb dX12_count_49 (by rw [q20]; decide) (by rw [q20]; decide) (by rw [q20]; rfl) (by decide) ?_
          refine lv_aload_n hx hb dX12_count_146 rfl (lv_at hl 3 rfl) ?_
          refine z_get (T := TX12) (N := 96) (ci := 12) (i := 0) (v := .int (I 0 55)) hx hb hts zj_X12_count_X12 hown hK hW rfl rfl 55 (by decide) (hts (.fieldLink RX12 468 "PetrolBoardModel" "pours" "I") (me_s (me_l (List.mem_of_getElem? (i := 0) rfl)))) (fun _ h => h) rfl dX12_count_147 ?_
          exact z_iret hx hb hr hK hS (Nat.le_of_ble_eq_true rfl) (Nat.le_of_ble_eq_true rfl) hlocks dX12_count_150 (shM, ad, I, J, PM ad) hW ⟨rfl, (zt_t_i (k := 6) (show a1.toInt = 6 by rw [‹a1 = 6›]; decide) (by decide) rfl)⟩
        by_cases q21 : a1 = 7
        · refine lv_tableIn (tgt := 151) hx hb dX12_count_49 (by rw [q21]; decide) (by rw [q21]; decide) (by rw [q21]; rfl) (by decide) ?_
          refine lv_iload_n hx hb dX12_count_151 rfl (lv_at hl 2 rfl) ?_
          exact z_iret hx hb hr hK hS (Nat.le_of_ble_eq_true rfl) (Nat.le_of_ble_eq_true rfl) hlocks dX12_count_152 (shM, ad, I, J, PM ad) hW ⟨rfl, (zt_t_i (k := 7) (show a1.toInt = 7 by rw [‹a1 = 7›]; decide) (by decide) (show _ = zt_n (zt_g I) (I 0 55).toNatClampNeg from (by have q1 := z_clt (x := y2) rfl (by omega); have q2 := z_clt (x := (I 0 55)) rfl (by omega); rw [show (I 0 55).toNatClampNeg = y2.toNatClampNeg by omega]; exact lp1B.1)))⟩
        by_cases q22 : a1 = 8
        · refine lv_tableIn (tgt := 153) hx hb dX12_count_49 (by rw [q22]; decide) (by rw [q22]; decide) (by rw [q22]; rfl) (by decide) ?_
          refine lv_iload_n hx hb dX12_count_153 rfl (lv_at hl 1 rfl) ?_
          exact z_iret hx hb hr hK hS (Nat.le_of_ble_eq_true rfl) (Nat.le_of_ble_eq_true rfl) hlocks dX12_count_154 (shM, ad, I, J, PM ad) hW ⟨rfl, (zt_t_i (k := 8) (show a1.toInt = 8 by rw [‹a1 = 8›]; decide) (by decide) (show _ = zt_n (zt_o I) (I 0 55).toNatClampNeg from (by have q1 := z_clt (x := y2) rfl (by omega); have q2 := z_clt (x := (I 0 55)) rfl (by omega); rw [show (I 0 55).toNatClampNeg = y2.toNatClampNeg by omega]; exact lp1B.2.1)))⟩
        by_cases q23 : a1 = 9
        · refine lv_tableIn (tgt := 155) hx hb dX12_count_49 (by rw [q23]; decide) (by rw [q23]; decide) (by rw [q23]; rfl) (by decide) ?_
          refine lv_aload_n hx hb dX12_count_155 rfl (lv_at hl 3 rfl) ?_
          refine z_get (T := TX12) (N := 96) (ci := 12) (i := 0) (v := .int (I 0 51)) hx hb hts zj_X12_count_X12 hown hK hW rfl rfl 51 (by decide) (hts (.fieldLink RX12 455 "PetrolBoardModel" "lentAll" "I") (me_s (me_l (List.mem_of_getElem? (i := 8) rfl)))) (fun _ h => h) rfl dX12_count_156 ?_
          exact z_iret hx hb hr hK hS (Nat.le_of_ble_eq_true rfl) (Nat.le_of_ble_eq_true rfl) hlocks dX12_count_159 (shM, ad, I, J, PM ad) hW ⟨rfl, (zt_t_i (k := 9) (show a1.toInt = 9 by rw [‹a1 = 9›]; decide) (by decide) rfl)⟩
        by_cases q24 : a1 = 10
        · refine lv_tableIn (tgt := 160) hx hb dX12_count_49 (by rw [q24]; decide) (by rw [q24]; decide) (by rw [q24]; rfl) (by decide) ?_
          refine lv_aload_n hx hb dX12_count_160 rfl (lv_at hl 3 rfl) ?_
          have r25 : 0 ≤ (I 0 75).toInt ∧ (I 0 75).toInt ≤ 4 := hmr
          refine z_get (T := TX12) (N := 96) (ci := 12) (i := 0) (v := .int (I 0 75)) hx hb hts zj_X12_count_X12 hown hK hW rfl rfl 75 (by decide) (hts (.fieldLink RX12 493 "PetrolBoardModel" "ports" "I") (me_s (me_l (List.mem_of_getElem? (i := 9) rfl)))) (fun _ h => h) rfl dX12_count_161 ?_
          exact z_iret hx hb hr hK hS (Nat.le_of_ble_eq_true rfl) (Nat.le_of_ble_eq_true rfl) hlocks dX12_count_164 (shM, ad, I, J, PM ad) hW ⟨rfl, (zt_t_i (k := 10) (show a1.toInt = 10 by rw [‹a1 = 10›]; decide) (by decide) rfl)⟩
        by_cases q26 : a1 = 11
        · refine lv_tableIn (tgt := 165) hx hb dX12_count_49 (by rw [q26]; decide) (by rw [q26]; decide) (by rw [q26]; rfl) (by decide) ?_
          refine lv_aload_n hx hb dX12_count_165 rfl (lv_at hl 3 rfl) ?_
          have r27 : 0 ≤ (I 0 83).toInt ∧ (I 0 83).toInt ≤ 60 := hmj
          refine z_get (T := TX12) (N := 96) (ci := 12) (i := 0) (v := .int (I 0 83)) hx hb hts zj_X12_count_X12 hown hK hW rfl rfl 83 (by decide) (hts (.fieldLink RX12 505 "PetrolBoardModel" "journeys" "I") (me_s (me_l (List.mem_of_getElem? (i := 10) rfl)))) (fun _ h => h) rfl dX12_count_166 ?_
          exact z_iret hx hb hr hK hS (Nat.le_of_ble_eq_true rfl) (Nat.le_of_ble_eq_true rfl) hlocks dX12_count_169 (shM, ad, I, J, PM ad) hW ⟨rfl, (zt_t_i (k := 11) (show a1.toInt = 11 by rw [‹a1 = 11›]; decide) (by decide) rfl)⟩
        by_cases q28 : a1 = 12
        · refine lv_tableIn (tgt := 170) hx hb dX12_count_49 (by rw [q28]; decide) (by rw [q28]; decide) (by rw [q28]; rfl) (by decide) ?_
          refine lv_aload_n hx hb dX12_count_170 rfl (lv_at hl 3 rfl) ?_
          have r29 : 0 ≤ (I 0 31).toInt ∧ (I 0 31).toInt ≤ 500 := hmp.1
          refine z_get (T := TX12) (N := 96) (ci := 12) (i := 0) (v := .int (I 0 31)) hx hb hts zj_X12_count_X12 hown hK hW rfl rfl 31 (by decide) (hts (.fieldLink RX12 253 "PetrolBoardModel" "taped" "I") (me_s (me_l (List.mem_of_getElem? (i := 11) rfl)))) (fun _ h => h) rfl dX12_count_171 ?_
          exact z_iret hx hb hr hK hS (Nat.le_of_ble_eq_true rfl) (Nat.le_of_ble_eq_true rfl) hlocks dX12_count_174 (shM, ad, I, J, PM ad) hW ⟨rfl, (zt_t_i (k := 12) (show a1.toInt = 12 by rw [‹a1 = 12›]; decide) (by decide) rfl)⟩
        have q9 := z_f_ne rfl z_l0 q9
        have q11 := z_f_ne rfl z_l1 q11
        have q13 := z_f_ne rfl z_l2 q13
        have q15 := z_f_ne rfl z_l3 q15
        have q17 := z_f_ne rfl z_l4 q17
        have q18 := z_f_ne rfl z_l5 q18
        have q20 := z_f_ne rfl z_l6 q20
        have q21 := z_f_ne rfl z_l7 q21
        have q22 := z_f_ne rfl z_l8 q22
        have q23 := z_f_ne rfl z_l9 q23
        have q24 := z_f_ne rfl z_l10 q24
        have q26 := z_f_ne rfl z_l11 q26
        have q28 := z_f_ne rfl z_l12 q28
        refine lv_tableOut (tgt := 175) hx hb dX12_count_49 (by omega) (by decide) ?_
        refine lv_iconst (v := (-1)) hx hb dX12_count_175 (by decide) ?_
        exact z_iret hx hb hr hK hS (Nat.le_of_ble_eq_true rfl) (Nat.le_of_ble_eq_true rfl) hlocks dX12_count_176 (shM, ad, I, J, PM ad) hW ⟨rfl, (Or.inr ⟨by omega, by decide⟩)⟩
      · have g30 := z_f_nge rfl rfl c6
        have b31 := Int32.toInt_lt y2
        refine lv_aload_n hx hb dX12_count_16 rfl (lv_at hl 3 rfl) ?_
        refine z_get (T := TX12) (N := 96) (ci := 12) (i := 0) (v := .ref (ad 40)) hx hb hts zj_X12_count_X12 hown hK hW rfl rfl 63 (by decide) (hts (.fieldLink RX12 136 "PetrolBoardModel" "pourJudged" "[I") (me_s (me_l (List.mem_of_getElem? (i := 1) rfl)))) (fun _ h => h) rfl dX12_count_17 ?_
        refine lv_iload hx hb dX12_count_20 (lv_at hl 0 rfl) ?_
        refine z_iald (i := 40) hx hb hK hW rfl (z_ix rfl (by omega) (by omega)) dX12_count_22 ?_
        refine lv_topi (fun x32 ex32 => ?_)
        have hv33 : (I 40 y2.toNatClampNeg).toInt = x32.toInt := by rw [ex32]
        have hz34 := z_clt (x := y2) rfl (by omega)
        refine lv_if_ne (tgt := 29) hx hb dX12_count_23 (by decide) (fun c35 => ?_) (fun c35 => ?_)
        · have g36 := z_f_ne rfl z_l0 c35
          have b37 := Int32.toInt_lt x32
          refine lv_aload_n hx hb dX12_count_29 rfl (lv_at hl 3 rfl) ?_
          refine z_get (T := TX12) (N := 96) (ci := 12) (i := 0) (v := .ref (ad 40)) hx hb hts zj_X12_count_X12 hown hK hW rfl rfl 63 (by decide) (hts (.fieldLink RX12 136 "PetrolBoardModel" "pourJudged" "[I") (me_s (me_l (List.mem_of_getElem? (i := 1) rfl)))) (fun _ h => h) rfl dX12_count_30 ?_
          refine lv_iload hx hb dX12_count_33 (lv_at hl 0 rfl) ?_
          refine z_iald (i := 40) hx hb hK hW rfl (z_ix rfl (by omega) (by omega)) dX12_count_35 ?_
          refine z_topi (v := x32) ex32.symm ?_
          refine lv_if_le (tgt := 42) hx hb dX12_count_36 (by decide) (fun c38 => ?_) (fun c38 => ?_)
          · have g39 := z_f_le rfl z_l0 c38
            obtain ⟨x40, ex40⟩ : ∃ y : Int32, y = y2 + 1 := ⟨_, rfl⟩
            have tx40 : x40.toInt = y2.toInt + 1 := z_tadd ex40 rfl z_l1 (by omega) (by omega)
            refine lv_iinc (v := x40) (lv' := [(4, .int x40), (3, .int y3), (2, .int y4), (0, .ref (ad 0)), (1, .int a1)]) hx hb dX12_count_42 hl (k := 0) rfl (by rw [ex40]; rfl) (by decide) rfl (fun ls hl => ?_)
            refine lv_goto (tgt := 7) hx hb dX12_count_45 (by decide) ?_
            exact lp1ih x40 y3 y4 _ _ _ (by omega) (by omega) (by omega) (by omega) (by omega) (by omega) ⟨by rw [show x40.toNatClampNeg = y2.toNatClampNeg + 1 from z_cln (by omega) (by omega)]; first | (rw [zt_g_y (by omega)]; omega) | (rw [zt_g_n (by omega)]; omega), by rw [show x40.toNatClampNeg = y2.toNatClampNeg + 1 from z_cln (by omega) (by omega)]; first | (rw [zt_o_y (by omega)]; omega) | (rw [zt_o_n (by omega)]; omega), by omega, by omega, by omega⟩ hW hS (lv_sub hl [0, 1, 2, 3, 4] rfl)
          · have g41 := z_f_nle rfl z_l0 c38
            obtain ⟨x42, ex42⟩ : ∃ y : Int32, y = y3 + 1 := ⟨_, rfl⟩
            have tx42 : x42.toInt = y3.toInt + 1 := z_tadd ex42 rfl z_l1 (by omega) (by omega)
            refine lv_iinc (v := x42) (lv' := [(3, .int x42), (4, .int y2), (2, .int y4), (0, .ref (ad 0)), (1, .int a1)]) hx hb dX12_count_39 hl (k := 1) rfl (by rw [ex42]; rfl) (by decide) rfl (fun ls hl => ?_)
            obtain ⟨x43, ex43⟩ : ∃ y : Int32, y = y2 + 1 := ⟨_, rfl⟩
            have tx43 : x43.toInt = y2.toInt + 1 := z_tadd ex43 rfl z_l1 (by omega) (by omega)
            refine lv_iinc (v := x43) (lv' := [(4, .int x43), (3, .int x42), (2, .int y4), (0, .ref (ad 0)), (1, .int a1)]) hx hb dX12_count_42 hl (k := 1) rfl (by rw [ex43]; rfl) (by decide) rfl (fun ls hl => ?_)
            refine lv_goto (tgt := 7) hx hb dX12_count_45 (by decide) ?_
            exact lp1ih x43 x42 y4 _ _ _ (by omega) (by omega) (by omega) (by omega) (by omega) (by omega) ⟨by rw [show x43.toNatClampNeg = y2.toNatClampNeg + 1 from z_cln (by omega) (by omega)]; first | (rw [zt_g_y (by omega)]; omega) | (rw [zt_g_n (by omega)]; omega), by rw [show x43.toNatClampNeg = y2.toNatClampNeg + 1 from z_cln (by omega) (by omega)]; first | (rw [zt_o_y (by omega)]; omega) | (rw [zt_o_n (by omega)]; omega), by omega, by omega, by omega⟩ hW hS (lv_sub hl [0, 1, 2, 3, 4] rfl)
        · have g44 := z_f_eq rfl z_l0 c35
          have b45 := Int32.toInt_lt x32
          obtain ⟨x46, ex46⟩ : ∃ y : Int32, y = y4 + 1 := ⟨_, rfl⟩
          have tx46 : x46.toInt = y4.toInt + 1 := z_tadd ex46 rfl z_l1 (by omega) (by omega)
          refine lv_iinc (v := x46) (lv' := [(2, .int x46), (4, .int y2), (3, .int y3), (0, .ref (ad 0)), (1, .int a1)]) hx hb dX12_count_26 hl (k := 2) rfl (by rw [ex46]; rfl) (by decide) rfl (fun ls hl => ?_)
          refine lv_aload_n hx hb dX12_count_29 rfl (lv_at hl 3 rfl) ?_
          refine z_get (T := TX12) (N := 96) (ci := 12) (i := 0) (v := .ref (ad 40)) hx hb hts zj_X12_count_X12 hown hK hW rfl rfl 63 (by decide) (hts (.fieldLink RX12 136 "PetrolBoardModel" "pourJudged" "[I") (me_s (me_l (List.mem_of_getElem? (i := 1) rfl)))) (fun _ h => h) rfl dX12_count_30 ?_
          refine lv_iload hx hb dX12_count_33 (lv_at hl 1 rfl) ?_
          refine z_iald (i := 40) hx hb hK hW rfl (z_ix rfl (by omega) (by omega)) dX12_count_35 ?_
          refine z_topi (v := x32) ex32.symm ?_
          refine lv_if_le (tgt := 42) hx hb dX12_count_36 (by decide) (fun c47 => ?_) (fun c47 => (by have g := z_f_nle rfl z_l0 c47; omega))
          have g48 := z_f_le rfl z_l0 c47
          obtain ⟨x49, ex49⟩ : ∃ y : Int32, y = y2 + 1 := ⟨_, rfl⟩
          have tx49 : x49.toInt = y2.toInt + 1 := z_tadd ex49 rfl z_l1 (by omega) (by omega)
          refine lv_iinc (v := x49) (lv' := [(4, .int x49), (2, .int x46), (3, .int y3), (0, .ref (ad 0)), (1, .int a1)]) hx hb dX12_count_42 hl (k := 1) rfl (by rw [ex49]; rfl) (by decide) rfl (fun ls hl => ?_)
          refine lv_goto (tgt := 7) hx hb dX12_count_45 (by decide) ?_
          exact lp1ih x49 y3 x46 _ _ _ (by omega) (by omega) (by omega) (by omega) (by omega) (by omega) ⟨by rw [show x49.toNatClampNeg = y2.toNatClampNeg + 1 from z_cln (by omega) (by omega)]; first | (rw [zt_g_y (by omega)]; omega) | (rw [zt_g_n (by omega)]; omega), by rw [show x49.toNatClampNeg = y2.toNatClampNeg + 1 from z_cln (by omega) (by omega)]; first | (rw [zt_o_y (by omega)]; omega) | (rw [zt_o_n (by omega)]; omega), by omega, by omega, by omega⟩ hW hS (lv_sub hl [0, 2, 1, 3, 4] rfl)
  exact lp1 4294967296 (0) (0) (0) _ _ _ (z_m0u _) (by rw [z_l0]; omega) (by rw [z_l0]; omega) (by rw [z_l0]; omega) (by rw [z_l0]; omega) (by rw [z_l0]; omega) ⟨by rw [show (0 : Int32).toNatClampNeg = 0 by decide]; rfl, by rw [show (0 : Int32).toNatClampNeg = 0 by decide]; rfl, by omega, by omega, by have q0 := z_l0; omega⟩ hW hS (lv_sub hl [0, 1, 2, 3, 4] rfl)

set_option maxHeartbeats 8000000 in
set_option maxRecDepth 100000 in
theorem sx_X11_ask_g_q2 (l : Launch) (G : z_G) (ad : Nat → Nat) (c : z_C) (I : z_I) (hO : z_iO I) (hH : z_iH I) (hJ : z_iJ I) (hB : z_iB I) (SS : Nat → List zp_T) (a1 : Int32) (a2 : Int32) (a3 : Int32) (a4 : Int32) (a5 : Int32) (a6 : Int32) (hc : z_okc c) (h10 : c.1 ≤ 10) (hWu : zv_W c I SS) : z_M l yX11_ask wsX11_ask { frames := 6, cells := 0, slots := 0, locals := 160 } [.ref (ad 0), .int a1, .int a2, .int a3, .int a4, .int a5, .int a6] G (shC c, ad, I, JX, PC c ad) (fun r u1 => ∃ I1 : z_I, u1 = (shC c, ad, I1, JX, PC c ad) ∧ z_iO I1 ∧ z_iH I1 ∧ z_iJ I1 ∧ z_iB I1 ∧ z_fr L_X11_ask_g I1 I ∧ (((0 ≤ a1.toInt ∧ a1.toInt < (I 1 5).toInt ∧ 1 ≤ a2.toInt ∧ a2.toInt ≤ 500 ∧ 1 ≤ a3.toInt ∧ a3.toInt ≤ 8 ∧ 0 ≤ a4.toInt ∧ a4.toInt ≤ 4 ∧ (I 0 0).toInt ≤ a5.toInt ∧ a5.toInt ≤ 719 ∧ 0 ≤ a6.toInt ∧ a6.toInt ≤ 99 ∧ a6.toInt / 10 ≠ a6.toInt % 10 ∧ (I 60 9).toInt < 60) ∧ r.toInt = (I 60 9).toInt ∧ (I1 60 9).toInt = (I 60 9).toInt + 1 ∧ ∃ gr : Int32, zn_X c I SS a1 a5 (I 0 0) a2 a3 a4 gr.toInt ∧ zn_rX I1 I (I 60 9).toNatClampNeg a1 a2 a3 a4 a5 a6 (I 0 0) gr gr) ∨ (¬ (0 ≤ a1.toInt ∧ a1.toInt < (I 1 5).toInt ∧ 1 ≤ a2.toInt ∧ a2.toInt ≤ 500 ∧ 1 ≤ a3.toInt ∧ a3.toInt ≤ 8 ∧ 0 ≤ a4.toInt ∧ a4.toInt ≤ 4 ∧ (I 0 0).toInt ≤ a5.toInt ∧ a5.toInt ≤ 719 ∧ 0 ≤ a6.toInt ∧ a6.toInt ≤ 99 ∧ a6.toInt / 10 ≠ a6.toInt % 10 ∧ (I 60 9).toInt < 60) ∧ r.toInt = -1 ∧ (I1 60 9).toInt = (I 60 9).toInt ∧ zn_sX I1 I))) 0 0 := by
  intro sz
  refine z_headQ (cc := cX11_ask) (maxL := 8) (ret := (some .int)) (by decide) rfl (Nat.le_of_ble_eq_true rfl) ?_
  intro p e s m below meth c0 ls hIn hK hsz hW hl
  obtain ⟨hx, hb, hr, hml, hown, hts, hlocks, hname⟩ := hIn
  subst hsz
  have hown : s.vm.findClass RX11 = some m.cls := hown
  have hA : ∀ q : Nat, s.heap.size ≤ q → z_A (shC c, ad, I, JX, PC c ad) s.heap.size q := fun q h => Or.inr h
  generalize hAe : z_A (shC c, ad, I, JX, PC c ad) s.heap.size = A at *
  have hS : va_S A s.heap s.heap [] := va_S.rf
  have hl : lv_has ls 8 [(0, .ref (ad 0)), (1, .int a1), (2, .int a2), (3, .int a3), (4, .int a4), (5, .int a5), (6, .int a6)] := hl
  refine lv_aload_n hx hb dX11_ask_0 rfl (lv_at hl 0 rfl) ?_
  refine z_get (T := TX11) (N := 13) (ci := 11) (i := 0) (v := .ref (ad 1)) hx hb hts zj_X11_ask_X11 hown hK hW rfl rfl 2 (by decide) (hts (.fieldLink RX11 16 "PetrolBoard" "holders" "LPetrolBoard$Holders;") (me_s (me_l (me_l (me_l (me_l (me_l (me_l (me_l (List.mem_of_getElem? (i := 0) rfl)))))))))) (fun _ h => h) rfl dX11_ask_1 ?_
  refine lv_iload_n hx hb dX11_ask_4 rfl (lv_at hl 1 rfl) ?_
  refine z_ci hW hS hA (va_runV (As := [.int a1]) (rest := []) ⟨hx, hb, hml, hown, hts⟩ (sx_X2_has_e l G ad c I ⟨(by show 0 ≤ (I 1 5).toInt ∧ (I 1 5).toInt ≤ 30; exact hH.1), (by show 0 ≤ (I 1 11).toInt ∧ (I 1 11).toInt ≤ 200; exact hH.2)⟩ a1 _) (cwV 1 hts gX11_ask_X2_has rfl rfl rfl (by decide +kernel) ⟨Nat.le_of_ble_eq_true rfl, Nat.le_of_ble_eq_true rfl⟩) (z_preV (i := 1) hK hW rfl rfl) rfl rfl hl.1 rfl (lv_room (Nat.le_of_ble_eq_true rfl)) dX11_ask_5 ⟨Nat.le_of_ble_eq_true rfl, Nat.le_of_ble_eq_true rfl⟩) (fun r u1 H locs hp hW hS => ?_)
  obtain ⟨e9, hp⟩ := hp
  rw [e9] at hW
  rcases hp with ⟨rfl, h1⟩ | ⟨rfl, h1⟩
  · have h2 := h1
    have r3 : 0 ≤ (I 1 5).toInt ∧ (I 1 5).toInt ≤ 30 := hH.1
    refine lv_if_eq (tgt := 32) hx hb dX11_ask_8 (by decide) (fun c4 => absurd c4 (by decide)) (fun c4 => ?_)
    refine lv_iload_n hx hb dX11_ask_11 rfl (lv_at hl 2 rfl) ?_
    refine lv_iconst (v := 1) hx hb dX11_ask_12 (by decide) ?_
    refine lv_sipush (v := 500) hx hb dX11_ask_13 (by decide) ?_
    refine z_ci hW hS hA (va_runS (As := [.int a2, .int 1, .int 500]) (rest := []) ⟨hx, hb, hml, hown, hts⟩ (sx_X11_within_e l G ad c I  a2 1 500 _) (va_cwS 3 hts gX11_ask_X11_within rfl rfl rfl (by decide +kernel) ⟨Nat.le_of_ble_eq_true rfl, Nat.le_of_ble_eq_true rfl⟩) (z_preS hK hW) rfl rfl hl.1 rfl (lv_room (Nat.le_of_ble_eq_true rfl)) dX11_ask_16 ⟨Nat.le_of_ble_eq_true rfl, Nat.le_of_ble_eq_true rfl⟩) (fun r u1 H locs hp hW hS => ?_)
    obtain ⟨e9, hp⟩ := hp
    rw [e9] at hW
    rcases hp with ⟨rfl, h5⟩ | ⟨rfl, h5⟩
    · have h6 := h5
      have z7 := z_l1
      have z8 := z_l500
      refine lv_if_eq (tgt := 32) hx hb dX11_ask_19 (by decide) (fun c9 => absurd c9 (by decide)) (fun c9 => ?_)
      refine lv_iload_n hx hb dX11_ask_22 rfl (lv_at hl 3 rfl) ?_
      refine lv_iconst (v := 1) hx hb dX11_ask_23 (by decide) ?_
      refine lv_bipush (v := 8) hx hb dX11_ask_24 (by decide) ?_
      refine z_ci hW hS hA (va_runS (As := [.int a3, .int 1, .int 8]) (rest := []) ⟨hx, hb, hml, hown, hts⟩ (sx_X11_within_e l G ad c I  a3 1 8 _) (va_cwS 3 hts gX11_ask_X11_within rfl rfl rfl (by decide +kernel) ⟨Nat.le_of_ble_eq_true rfl, Nat.le_of_ble_eq_true rfl⟩) (z_preS hK hW) rfl rfl hl.1 rfl (lv_room (Nat.le_of_ble_eq_true rfl)) dX11_ask_26 ⟨Nat.le_of_ble_eq_true rfl, Nat.le_of_ble_eq_true rfl⟩) (fun r u1 H locs hp hW hS => ?_)
      obtain ⟨e9, hp⟩ := hp
      rw [e9] at hW
      rcases hp with ⟨rfl, h11⟩ | ⟨rfl, h11⟩
      · have h12 := h11
        have z13 := z_l1
        have z14 := z_l8
        refine lv_if_ne (tgt := 34) hx hb dX11_ask_29 (by decide) (fun c15 => ?_) (fun c15 => absurd c15 (by decide))
        refine lv_iload hx hb dX11_ask_34 (lv_at hl 4 rfl) ?_
        refine z_ci hW hS hA (va_runS (As := [.int a4]) (rest := []) ⟨hx, hb, hml, hown, hts⟩ (sx_X11_isReason_g l G ad c I  a4 _) (va_cwS 1 hts gX11_ask_X11_isReason rfl rfl rfl (by decide +kernel) ⟨Nat.le_of_ble_eq_true rfl, Nat.le_of_ble_eq_true rfl⟩) (z_preS hK hW) rfl rfl hl.1 rfl (lv_room (Nat.le_of_ble_eq_true rfl)) dX11_ask_36 ⟨Nat.le_of_ble_eq_true rfl, Nat.le_of_ble_eq_true rfl⟩) (fun r u1 H locs hp hW hS => ?_)
        obtain ⟨e9, hp⟩ := hp
        rw [e9] at hW
        rcases hp with ⟨rfl, h16⟩ | ⟨rfl, h16⟩
        · have h17 := h16
          refine lv_if_eq (tgt := 65) hx hb dX11_ask_39 (by decide) (fun c18 => absurd c18 (by decide)) (fun c18 => ?_)
          refine lv_iload hx hb dX11_ask_42 (lv_at hl 5 rfl) ?_
          refine lv_aload_n hx hb dX11_ask_44 rfl (lv_at hl 0 rfl) ?_
          have r19 : 0 ≤ (I 0 0).toInt ∧ (I 0 0).toInt ≤ 719 := hB.1
          refine z_get (T := TX11) (N := 13) (ci := 11) (i := 0) (v := .int (I 0 0)) hx hb hts zj_X11_ask_X11 hown hK hW rfl rfl 0 (by decide) (hts (.fieldLink RX11 85 "PetrolBoard" "today" "I") (me_s (me_l (me_l (me_l (me_l (me_l (me_l (me_l (List.mem_of_getElem? (i := 1) rfl)))))))))) (fun _ h => h) rfl dX11_ask_45 ?_
          refine lv_sipush (v := 719) hx hb dX11_ask_48 (by decide) ?_
          refine z_ci hW hS hA (va_runS (As := [.int a5, .int (I 0 0), .int 719]) (rest := []) ⟨hx, hb, hml, hown, hts⟩ (sx_X11_within_e l G ad c I  a5 (I 0 0) 719 _) (va_cwS 3 hts gX11_ask_X11_within rfl rfl rfl (by decide +kernel) ⟨Nat.le_of_ble_eq_true rfl, Nat.le_of_ble_eq_true rfl⟩) (z_preS hK hW) rfl rfl hl.1 rfl (lv_room (Nat.le_of_ble_eq_true rfl)) dX11_ask_51 ⟨Nat.le_of_ble_eq_true rfl, Nat.le_of_ble_eq_true rfl⟩) (fun r u1 H locs hp hW hS => ?_)
          obtain ⟨e9, hp⟩ := hp
          rw [e9] at hW
          rcases hp with ⟨rfl, h20⟩ | ⟨rfl, h20⟩
          · have h21 := h20
            have z22 := z_l719
            refine lv_if_eq (tgt := 65) hx hb dX11_ask_54 (by decide) (fun c23 => absurd c23 (by decide)) (fun c23 => ?_)
            refine lv_iload hx hb dX11_ask_57 (lv_at hl 6 rfl) ?_
            refine z_ci hW hS hA (va_runS (As := [.int a6]) (rest := []) ⟨hx, hb, hml, hown, hts⟩ (sx_X11_isWay_e l G ad c I  a6 _) (va_cwS 1 hts gX11_ask_X11_isWay rfl rfl rfl (by decide +kernel) ⟨Nat.le_of_ble_eq_true rfl, Nat.le_of_ble_eq_true rfl⟩) (z_preS hK hW) rfl rfl hl.1 rfl (lv_room (Nat.le_of_ble_eq_true rfl)) dX11_ask_59 ⟨Nat.le_of_ble_eq_true rfl, Nat.le_of_ble_eq_true rfl⟩) (fun r u1 H locs hp hW hS => ?_)
            obtain ⟨e9, hp⟩ := hp
            rw [e9] at hW
            rcases hp with ⟨rfl, h24⟩ | ⟨rfl, h24⟩
            · have h25 := h24
              refine lv_if_ne (tgt := 67) hx hb dX11_ask_62 (by decide) (fun c26 => ?_) (fun c26 => absurd c26 (by decide))
              refine lv_aload_n hx hb dX11_ask_67 rfl (lv_at hl 0 rfl) ?_
              refine z_get (T := TX11) (N := 13) (ci := 11) (i := 0) (v := .ref (ad 60)) hx hb hts zj_X11_ask_X11 hown hK hW rfl rfl 11 (by decide) (hts (.fieldLink RX11 68 "PetrolBoard" "journeys" "LPetrolBoard$Journeys;") (me_s (me_l (me_l (me_l (me_l (me_l (me_l (me_l (List.mem_of_getElem? (i := 2) rfl)))))))))) (fun _ h => h) rfl dX11_ask_68 ?_
              refine lv_iload_n hx hb dX11_ask_71 rfl (lv_at hl 1 rfl) ?_
              refine lv_iload_n hx hb dX11_ask_72 rfl (lv_at hl 2 rfl) ?_
              refine lv_iload_n hx hb dX11_ask_73 rfl (lv_at hl 3 rfl) ?_
              refine lv_iload hx hb dX11_ask_74 (lv_at hl 4 rfl) ?_
              refine lv_iload hx hb dX11_ask_76 (lv_at hl 5 rfl) ?_
              refine lv_iload hx hb dX11_ask_78 (lv_at hl 6 rfl) ?_
              refine z_ci hW hS hA (va_runV (As := [.int a1, .int a2, .int a3, .int a4, .int a5, .int a6]) (rest := []) ⟨hx, hb, hml, hown, hts⟩ (sx_X3_add_g l G ad c I ⟨(by show 0 ≤ (I 60 9).toInt ∧ (I 60 9).toInt ≤ 60; exact hJ.1), (by show 0 ≤ (I 60 12).toInt ∧ (I 60 12).toInt ≤ 12; exact hJ.2)⟩ a1 a2 a3 a4 a5 a6 _) (cwV 6 hts gX11_ask_X3_add rfl rfl rfl (by decide +kernel) ⟨Nat.le_of_ble_eq_true rfl, Nat.le_of_ble_eq_true rfl⟩) (z_preV (i := 60) hK hW rfl rfl) rfl rfl hl.1 rfl (lv_room (Nat.le_of_ble_eq_true rfl)) dX11_ask_80 ⟨Nat.le_of_ble_eq_true rfl, Nat.le_of_ble_eq_true rfl⟩) (fun r u1 H locs hp hW hS => ?_)
              obtain ⟨I27, e9, hI27J, fI27, hp⟩ := hp
              rw [e9] at hW
              have f28 := z_fr_sub (L := L_X11_ask_g) z_fr_0 fI27 (by decide)
              have k29 : 0 ≤ (I27 21 2).toInt ∧ (I27 21 2).toInt ≤ 12 := by rw [fI27 21 2 (by decide)]; exact (by show 0 ≤ (I 21 2).toInt ∧ (I 21 2).toInt ≤ 12; exact hO)
              have k30 : 0 ≤ (I27 1 5).toInt ∧ (I27 1 5).toInt ≤ 30 := by rw [fI27 1 5 (by decide)]; exact (by show 0 ≤ (I 1 5).toInt ∧ (I 1 5).toInt ≤ 30; exact hH.1)
              have k31 : 0 ≤ (I27 1 11).toInt ∧ (I27 1 11).toInt ≤ 200 := by rw [fI27 1 11 (by decide)]; exact (by show 0 ≤ (I 1 11).toInt ∧ (I 1 11).toInt ≤ 200; exact hH.2)
              have k32 : 0 ≤ (I27 0 0).toInt ∧ (I27 0 0).toInt ≤ 719 := by rw [fI27 0 0 (by decide)]; exact (by show 0 ≤ (I 0 0).toInt ∧ (I 0 0).toInt ≤ 719; exact hB.1)
              have k33 : 0 ≤ (I27 0 8).toInt ∧ (I27 0 8).toInt ≤ 10 := by rw [fI27 0 8 (by decide)]; exact (by show 0 ≤ (I 0 8).toInt ∧ (I 0 8).toInt ≤ 10; exact hB.2)
              refine lv_topi (fun x34 ex34 => ?_)
              rw [← ex34] at hp
              rcases hp with ⟨h35, h36, h37, h38, h39, h40, h41, h42, h43⟩ | ⟨h35, h36, h37, h38⟩
              · refine lv_istore (lv' := [(7, .int x34), (0, .ref (ad 0)), (1, .int a1), (2, .int a2), (3, .int a3), (4, .int a4), (5, .int a5), (6, .int a6)]) hx hb dX11_ask_83 hl (by decide) rfl (fun ls hl => ?_)
                refine lv_aload_n hx hb dX11_ask_85 rfl (lv_at hl 1 rfl) ?_
                refine z_get (T := TX11) (N := 13) (ci := 11) (i := 0) (v := .ref (ad 60)) hx hb hts zj_X11_ask_X11 hown hK hW rfl rfl 11 (by decide) (hts (.fieldLink RX11 68 "PetrolBoard" "journeys" "LPetrolBoard$Journeys;") (me_s (me_l (me_l (me_l (me_l (me_l (me_l (me_l (List.mem_of_getElem? (i := 2) rfl)))))))))) (fun _ h => h) rfl dX11_ask_86 ?_
                refine lv_iload hx hb dX11_ask_89 (lv_at hl 0 rfl) ?_
                refine z_ci hW hS hA (va_runV (As := [.int x34]) (rest := []) ⟨hx, hb, hml, hown, hts⟩ (sx_X3_has_g l G ad c I27 ⟨(by show 0 ≤ (I27 60 9).toInt ∧ (I27 60 9).toInt ≤ 60; exact hI27J.1), (by show 0 ≤ (I27 60 12).toInt ∧ (I27 60 12).toInt ≤ 12; exact hI27J.2)⟩ x34 _) (cwV 1 hts gX11_ask_X3_has rfl rfl rfl (by decide +kernel) ⟨Nat.le_of_ble_eq_true rfl, Nat.le_of_ble_eq_true rfl⟩) (z_preV (i := 60) hK hW rfl rfl) rfl rfl hl.1 rfl (lv_room (Nat.le_of_ble_eq_true rfl)) dX11_ask_91 ⟨Nat.le_of_ble_eq_true rfl, Nat.le_of_ble_eq_true rfl⟩) (fun r u1 H locs hp hW hS => ?_)
                obtain ⟨e9, hp⟩ := hp
                rw [e9] at hW
                rcases hp with ⟨rfl, h44⟩ | ⟨rfl, h44⟩
                · have h45 := h44
                  have r46 : 0 ≤ (I27 60 9).toInt ∧ (I27 60 9).toInt ≤ 60 := hI27J.1
                  refine lv_if_eq (tgt := 158) hx hb dX11_ask_94 (by decide) (fun c47 => absurd c47 (by decide)) (fun c47 => ?_)
                  refine lv_aload_n hx hb dX11_ask_97 rfl (lv_at hl 1 rfl) ?_
                  refine z_get (T := TX11) (N := 13) (ci := 11) (i := 0) (v := .ref (ad 60)) hx hb hts zj_X11_ask_X11 hown hK hW rfl rfl 11 (by decide) (hts (.fieldLink RX11 68 "PetrolBoard" "journeys" "LPetrolBoard$Journeys;") (me_s (me_l (me_l (me_l (me_l (me_l (me_l (me_l (List.mem_of_getElem? (i := 2) rfl)))))))))) (fun _ h => h) rfl dX11_ask_98 ?_
                  refine z_get (T := TX3) (N := 17) (ci := 3) (i := 60) (v := .ref (ad 67)) hx hb hts zj_X11_ask_X3 hown hK hW rfl rfl 6 (by decide) (hts (.fieldLink RX11 329 "PetrolBoard$Journeys" "asked" "[I") (me_s (me_l (me_l (me_l (me_l (me_l (me_l (me_l (List.mem_of_getElem? (i := 3) rfl)))))))))) (fun _ h => h) rfl dX11_ask_101 ?_
                  refine lv_iload hx hb dX11_ask_104 (lv_at hl 0 rfl) ?_
                  refine lv_aload_n hx hb dX11_ask_106 rfl (lv_at hl 1 rfl) ?_
                  have r48 : 0 ≤ (I27 0 0).toInt ∧ (I27 0 0).toInt ≤ 719 := k32
                  refine z_get (T := TX11) (N := 13) (ci := 11) (i := 0) (v := .int (I27 0 0)) hx hb hts zj_X11_ask_X11 hown hK hW rfl rfl 0 (by decide) (hts (.fieldLink RX11 85 "PetrolBoard" "today" "I") (me_s (me_l (me_l (me_l (me_l (me_l (me_l (me_l (List.mem_of_getElem? (i := 1) rfl)))))))))) (fun _ h => h) rfl dX11_ask_107 ?_
                  refine z_iast (i := 67) hx hb hK hW hS rfl (z_ix rfl (by omega) (by omega)) dX11_ask_110 (fun H locs hz1 hW hS => ?_)
                  obtain ⟨I49, eI49⟩ : ∃ K : z_I, K = z_up I27 67 x34.toNatClampNeg (I27 0 0) := ⟨_, rfl⟩
                  rw [← eI49] at hW
                  have f50 := z_fr_a f28 (show z_wa L_X11_ask_g 67 = true by decide) eI49
                  refine lv_aload_n hx hb dX11_ask_111 rfl (lv_at hl 1 rfl) ?_
                  refine z_get (T := TX11) (N := 13) (ci := 11) (i := 0) (v := .ref (ad 60)) hx hb hts zj_X11_ask_X11 hown hK hW rfl rfl 11 (by decide) (hts (.fieldLink RX11 68 "PetrolBoard" "journeys" "LPetrolBoard$Journeys;") (me_s (me_l (me_l (me_l (me_l (me_l (me_l (me_l (List.mem_of_getElem? (i := 2) rfl)))))))))) (fun _ h => h) rfl dX11_ask_112 ?_
                  refine z_get (T := TX3) (N := 17) (ci := 3) (i := 60) (v := .ref (ad 68)) hx hb hts zj_X11_ask_X3 hown hK hW rfl rfl 7 (by decide) (hts (.fieldLink RX11 332 "PetrolBoard$Journeys" "granted" "[I") (me_s (me_l (me_l (me_l (me_l (me_l (me_l (me_l (List.mem_of_getElem? (i := 4) rfl)))))))))) (fun _ h => h) rfl dX11_ask_115 ?_
                  refine lv_iload hx hb dX11_ask_118 (lv_at hl 0 rfl) ?_
                  refine lv_aload_n hx hb dX11_ask_120 rfl (lv_at hl 1 rfl) ?_
                  refine z_get (T := TX11) (N := 13) (ci := 11) (i := 0) (v := .ref (ad 21)) hx hb hts zj_X11_ask_X11 hown hK hW rfl rfl 4 (by decide) (hts (.fieldLink RX11 30 "PetrolBoard" "orderBook" "LPetrolBoard$OrderBook;") (me_s (me_l (me_l (me_l (me_l (me_l (me_l (me_l (List.mem_of_getElem? (i := 5) rfl)))))))))) (fun _ h => h) rfl dX11_ask_121 ?_
                  refine lv_aload_n hx hb dX11_ask_124 rfl (lv_at hl 1 rfl) ?_
                  refine z_get (T := TX11) (N := 13) (ci := 11) (i := 0) (v := .ref (ad 1)) hx hb hts zj_X11_ask_X11 hown hK hW rfl rfl 2 (by decide) (hts (.fieldLink RX11 16 "PetrolBoard" "holders" "LPetrolBoard$Holders;") (me_s (me_l (me_l (me_l (me_l (me_l (me_l (me_l (List.mem_of_getElem? (i := 0) rfl)))))))))) (fun _ h => h) rfl dX11_ask_125 ?_
                  refine lv_aload_n hx hb dX11_ask_128 rfl (lv_at hl 1 rfl) ?_
                  refine z_get (T := TX11) (N := 13) (ci := 11) (i := 0) (v := .ref (ad 60)) hx hb hts zj_X11_ask_X11 hown hK hW rfl rfl 11 (by decide) (hts (.fieldLink RX11 68 "PetrolBoard" "journeys" "LPetrolBoard$Journeys;") (me_s (me_l (me_l (me_l (me_l (me_l (me_l (me_l (List.mem_of_getElem? (i := 2) rfl)))))))))) (fun _ h => h) rfl dX11_ask_129 ?_
                  refine lv_iload hx hb dX11_ask_132 (lv_at hl 0 rfl) ?_
                  refine z_ci hW hS hA (va_runV (As := [.ref (ad 1), .ref (ad 60), .int x34]) (rest := [.int x34, .ref (ad 68)]) ⟨hx, hb, hml, hown, hts⟩ (sx_X6_grant_g l G ad c I49 (by show 0 ≤ (I49 21 2).toInt ∧ (I49 21 2).toInt ≤ 12; rw [eI49, z_up_n (by decide)]; exact k29) ⟨(by show 0 ≤ (I49 1 5).toInt ∧ (I49 1 5).toInt ≤ 30; rw [eI49, z_up_n (by decide)]; exact k30), (by show 0 ≤ (I49 1 11).toInt ∧ (I49 1 11).toInt ≤ 200; rw [eI49, z_up_n (by decide)]; exact k31)⟩ ⟨(by show 0 ≤ (I49 60 9).toInt ∧ (I49 60 9).toInt ≤ 60; rw [eI49, z_up_n (by decide)]; exact hI27J.1), (by show 0 ≤ (I49 60 12).toInt ∧ (I49 60 12).toInt ≤ 12; rw [eI49, z_up_n (by decide)]; exact hI27J.2)⟩ SS x34 hc (zv_W_c hWu (f50 21 2 (by decide)) (zv_fr2 f50 (by decide)) (fun j => ⟨f50 7 j (z_wr_c (by decide)), f50 8 j (z_wr_c (by decide)), f50 9 j (z_wr_c (by decide)), f50 10 j (z_wr_c (by decide)), f50 11 j (z_wr_c (by decide))⟩) (f50 1 11 (by decide)) (f50 1 5 (by decide)) (fun j => ⟨f50 2 j (z_wr_c (by decide)), f50 3 j (z_wr_c (by decide))⟩)) (by have q9 : (I49 60 9) = (I27 60 9) := (by rw [eI49, z_up_n (by decide)]); rw [q9]; omega) ⟨by rw [f50 1 5 (by decide), eI49, z_up_n (by decide), h38 x34.toNatClampNeg, if_pos (show x34.toNatClampNeg = (I 60 9).toNatClampNeg from by show x34.toInt.toNat = (I 60 9).toInt.toNat; omega)]; omega, by rw [eI49, z_up_n (by decide), h42 x34.toNatClampNeg, if_pos (show x34.toNatClampNeg = (I 60 9).toNatClampNeg from by show x34.toInt.toNat = (I 60 9).toInt.toNat; omega)]; omega, by rw [eI49, z_up_n (by decide), h39 x34.toNatClampNeg, if_pos (show x34.toNatClampNeg = (I 60 9).toNatClampNeg from by show x34.toInt.toNat = (I 60 9).toInt.toNat; omega)]; omega, by rw [eI49, z_up_n (by decide), h40 x34.toNatClampNeg, if_pos (show x34.toNatClampNeg = (I 60 9).toNatClampNeg from by show x34.toInt.toNat = (I 60 9).toInt.toNat; omega)]; omega, by rw [eI49, z_up_n (by decide), h41 x34.toNatClampNeg, if_pos (show x34.toNatClampNeg = (I 60 9).toNatClampNeg from by show x34.toInt.toNat = (I 60 9).toInt.toNat; omega)]; omega⟩ _) (cwV 3 hts gX11_ask_X6_grant rfl rfl rfl (by decide +kernel) ⟨Nat.le_of_ble_eq_true rfl, Nat.le_of_ble_eq_true rfl⟩) (z_preV (i := 21) hK hW rfl rfl) rfl rfl hl.1 rfl (lv_room (Nat.le_of_ble_eq_true rfl)) dX11_ask_134 ⟨Nat.le_of_ble_eq_true rfl, Nat.le_of_ble_eq_true rfl⟩) (fun r u1 H locs hp hW hS => ?_)
                  obtain ⟨I51, e9, hI51O, hI51H, hI51J, fI51, hp⟩ := hp
                  rw [e9] at hW
                  have f52 := z_fr_sub (L := L_X11_ask_g) f50 fI51 (by decide)
                  have k53 : 0 ≤ (I51 0 0).toInt ∧ (I51 0 0).toInt ≤ 719 := by rw [fI51 0 0 (by decide)]; exact (by show 0 ≤ (I49 0 0).toInt ∧ (I49 0 0).toInt ≤ 719; rw [eI49, z_up_n (by decide)]; exact k32)
                  have k54 : 0 ≤ (I51 0 8).toInt ∧ (I51 0 8).toInt ≤ 10 := by rw [fI51 0 8 (by decide)]; exact (by show 0 ≤ (I49 0 8).toInt ∧ (I49 0 8).toInt ≤ 10; rw [eI49, z_up_n (by decide)]; exact k33)
                  have k55 : (I51 60 9).toInt = (I27 60 9).toInt := by rw [fI51 60 9 (by decide), eI49, z_up_n (by decide)]
                  refine lv_topi (fun x56 ex56 => ?_)
                  rw [← ex56] at hp
                  have hG57 := hp
                  refine z_iast (i := 68) hx hb hK hW hS rfl (z_ix rfl (by omega) (by omega)) dX11_ask_137 (fun H locs hz1 hW hS => ?_)
                  obtain ⟨I58, eI58⟩ : ∃ K : z_I, K = z_up I51 68 x34.toNatClampNeg x56 := ⟨_, rfl⟩
                  rw [← eI58] at hW
                  have f59 := z_fr_a f52 (show z_wa L_X11_ask_g 68 = true by decide) eI58
                  refine lv_aload_n hx hb dX11_ask_138 rfl (lv_at hl 1 rfl) ?_
                  refine z_get (T := TX11) (N := 13) (ci := 11) (i := 0) (v := .ref (ad 60)) hx hb hts zj_X11_ask_X11 hown hK hW rfl rfl 11 (by decide) (hts (.fieldLink RX11 68 "PetrolBoard" "journeys" "LPetrolBoard$Journeys;") (me_s (me_l (me_l (me_l (me_l (me_l (me_l (me_l (List.mem_of_getElem? (i := 2) rfl)))))))))) (fun _ h => h) rfl dX11_ask_139 ?_
                  refine z_get (T := TX3) (N := 17) (ci := 3) (i := 60) (v := .ref (ad 69)) hx hb hts zj_X11_ask_X3 hown hK hW rfl rfl 8 (by decide) (hts (.fieldLink RX11 339 "PetrolBoard$Journeys" "grantedFirst" "[I") (me_s (me_l (me_l (me_l (me_l (me_l (me_l (me_l (List.mem_of_getElem? (i := 6) rfl)))))))))) (fun _ h => h) rfl dX11_ask_142 ?_
                  refine lv_iload hx hb dX11_ask_145 (lv_at hl 0 rfl) ?_
                  refine lv_aload_n hx hb dX11_ask_147 rfl (lv_at hl 1 rfl) ?_
                  refine z_get (T := TX11) (N := 13) (ci := 11) (i := 0) (v := .ref (ad 60)) hx hb hts zj_X11_ask_X11 hown hK hW rfl rfl 11 (by decide) (hts (.fieldLink RX11 68 "PetrolBoard" "journeys" "LPetrolBoard$Journeys;") (me_s (me_l (me_l (me_l (me_l (me_l (me_l (me_l (List.mem_of_getElem? (i := 2) rfl)))))))))) (fun _ h => h) rfl dX11_ask_148 ?_
                  refine z_get (T := TX3) (N := 17) (ci := 3) (i := 60) (v := .ref (ad 68)) hx hb hts zj_X11_ask_X3 hown hK hW rfl rfl 7 (by decide) (hts (.fieldLink RX11 332 "PetrolBoard$Journeys" "granted" "[I") (me_s (me_l (me_l (me_l (me_l (me_l (me_l (me_l (List.mem_of_getElem? (i := 4) rfl)))))))))) (fun _ h => h) rfl dX11_ask_151 ?_
                  refine lv_iload hx hb dX11_ask_154 (lv_at hl 0 rfl) ?_
                  refine z_iald (i := 68) hx hb hK hW rfl (z_ix rfl (by omega) (by omega)) dX11_ask_156 ?_
                  refine lv_topi (fun x60 ex60 => ?_)
                  refine z_iast (i := 69) hx hb hK hW hS rfl (z_ix rfl (by omega) (by omega)) dX11_ask_157 (fun H locs hz1 hW hS => ?_)
                  obtain ⟨I61, eI61⟩ : ∃ K : z_I, K = z_up I58 69 x34.toNatClampNeg x60 := ⟨_, rfl⟩
                  rw [← eI61] at hW
                  have f62 := z_fr_a f59 (show z_wa L_X11_ask_g 69 = true by decide) eI61
                  refine lv_iload hx hb dX11_ask_158 (lv_at hl 0 rfl) ?_
                  exact z_iret hx hb hr hK hS (Nat.le_of_ble_eq_true rfl) (Nat.le_of_ble_eq_true rfl) hlocks dX11_ask_160 (shC c, ad, I61, JX, PC c ad) hW ⟨I61, rfl, (by show 0 ≤ (I61 21 2).toInt ∧ (I61 21 2).toInt ≤ 12; rw [eI61, z_up_n (by decide), eI58, z_up_n (by decide)]; exact hI51O), ⟨(by show 0 ≤ (I61 1 5).toInt ∧ (I61 1 5).toInt ≤ 30; rw [eI61, z_up_n (by decide), eI58, z_up_n (by decide)]; exact hI51H.1), (by show 0 ≤ (I61 1 11).toInt ∧ (I61 1 11).toInt ≤ 200; rw [eI61, z_up_n (by decide), eI58, z_up_n (by decide)]; exact hI51H.2)⟩, ⟨(by show 0 ≤ (I61 60 9).toInt ∧ (I61 60 9).toInt ≤ 60; rw [eI61, z_up_n (by decide), eI58, z_up_n (by decide)]; exact hI51J.1), (by show 0 ≤ (I61 60 12).toInt ∧ (I61 60 12).toInt ≤ 12; rw [eI61, z_up_n (by decide), eI58, z_up_n (by decide)]; exact hI51J.2)⟩, ⟨(by show 0 ≤ (I61 0 0).toInt ∧ (I61 0 0).toInt ≤ 719; rw [eI61, z_up_n (by decide), eI58, z_up_n (by decide)]; exact k53), (by show 0 ≤ (I61 0 8).toInt ∧ (I61 0 8).toInt ≤ 10; rw [eI61, z_up_n (by decide), eI58, z_up_n (by decide)]; exact k54)⟩, f62, (Or.inl ⟨by omega, by omega, (by have q9 : (I61 60 9) = (I51 60 9) := (by rw [eI61, z_up_n (by decide), eI58, z_up_n (by decide)]); show (I61 60 9).toInt = (I 60 9).toInt + 1; rw [q9]; first | done | omega), x56, (by have q9 := hG57; rw [show I49 61 x34.toNatClampNeg = a1 by rw [eI49, z_up_n (by decide), h38 x34.toNatClampNeg, if_pos (show x34.toNatClampNeg = (I 60 9).toNatClampNeg from by show x34.toInt.toNat = (I 60 9).toInt.toNat; omega)], show I49 65 x34.toNatClampNeg = a5 by rw [eI49, z_up_n (by decide), h42 x34.toNatClampNeg, if_pos (show x34.toNatClampNeg = (I 60 9).toNatClampNeg from by show x34.toInt.toNat = (I 60 9).toInt.toNat; omega)], show I49 67 x34.toNatClampNeg = I 0 0 by rw [eI49, z_up_s, (show (I27 0 0) = I 0 0 from by rw [fI27 0 0 (by decide)])], show I49 62 x34.toNatClampNeg = a2 by rw [eI49, z_up_n (by decide), h39 x34.toNatClampNeg, if_pos (show x34.toNatClampNeg = (I 60 9).toNatClampNeg from by show x34.toInt.toNat = (I 60 9).toInt.toNat; omega)], show I49 63 x34.toNatClampNeg = a3 by rw [eI49, z_up_n (by decide), h40 x34.toNatClampNeg, if_pos (show x34.toNatClampNeg = (I 60 9).toNatClampNeg from by show x34.toInt.toNat = (I 60 9).toInt.toNat; omega)], show I49 64 x34.toNatClampNeg = a4 by rw [eI49, z_up_n (by decide), h41 x34.toNatClampNeg, if_pos (show x34.toNatClampNeg = (I 60 9).toNatClampNeg from by show x34.toInt.toNat = (I 60 9).toInt.toNat; omega)]] at q9; exact zn_X_c (zv_fr2 f50 (by decide)) (fun j => ⟨f50 7 j (z_wr_c (by decide)), f50 8 j (z_wr_c (by decide)), f50 9 j (z_wr_c (by decide)), f50 10 j (z_wr_c (by decide)), f50 11 j (z_wr_c (by decide))⟩) (f50 1 11 (by decide)) (fun j => ⟨f50 2 j (z_wr_c (by decide)), f50 3 j (z_wr_c (by decide))⟩) q9), (fun j => by rw [eI61, z_up_n (by decide), eI58, z_up_n (by decide), fI51 61 j (z_wr_c (by decide)), eI49, z_up_n (by decide), h38 j]), (fun j => by rw [eI61, z_up_n (by decide), eI58, z_up_n (by decide), fI51 62 j (z_wr_c (by decide)), eI49, z_up_n (by decide), h39 j]), (fun j => by rw [eI61, z_up_n (by decide), eI58, z_up_n (by decide), fI51 63 j (z_wr_c (by decide)), eI49, z_up_n (by decide), h40 j]), (fun j => by rw [eI61, z_up_n (by decide), eI58, z_up_n (by decide), fI51 64 j (z_wr_c (by decide)), eI49, z_up_n (by decide), h41 j]), (fun j => by rw [eI61, z_up_n (by decide), eI58, z_up_n (by decide), fI51 65 j (z_wr_c (by decide)), eI49, z_up_n (by decide), h42 j]), (fun j => by rw [eI61, z_up_n (by decide), eI58, z_up_n (by decide), fI51 66 j (z_wr_c (by decide)), eI49, z_up_n (by decide), h43 j]), (fun j => by rw [eI61, z_up_n (by decide), eI58, z_up_n (by decide), fI51 67 j (z_wr_c (by decide)), eI49, z_up_j, fI27 67 j (z_wr_c (by decide)), (show x34.toNatClampNeg = (I 60 9).toNatClampNeg from by show x34.toInt.toNat = (I 60 9).toInt.toNat; omega), (show (I27 0 0) = I 0 0 from by rw [fI27 0 0 (by decide)])]), (fun j => by rw [eI61, z_up_n (by decide), eI58, z_up_j, fI51 68 j (z_wr_c (by decide)), eI49, z_up_n (by decide), fI27 68 j (z_wr_c (by decide)), (show x34.toNatClampNeg = (I 60 9).toNatClampNeg from by show x34.toInt.toNat = (I 60 9).toInt.toNat; omega)]), (fun j => by rw [eI61, z_up_j, eI58, z_up_n (by decide), fI51 69 j (z_wr_c (by decide)), eI49, z_up_n (by decide), fI27 69 j (z_wr_c (by decide)), (show x34.toNatClampNeg = (I 60 9).toNatClampNeg from by show x34.toInt.toNat = (I 60 9).toInt.toNat; omega), show x60 = x56 by rw [ex60, eI58, z_up_s]])⟩)⟩
                · have h63 := h44
                  have r64 : 0 ≤ (I27 60 9).toInt ∧ (I27 60 9).toInt ≤ 60 := hI27J.1
                  refine lv_if_eq (tgt := 158) hx hb dX11_ask_94 (by decide) (fun c65 => ?_) (fun c65 => absurd (by decide) c65)
                  refine lv_iload hx hb dX11_ask_158 (lv_at hl 0 rfl) ?_
                  exact z_iret hx hb hr hK hS (Nat.le_of_ble_eq_true rfl) (Nat.le_of_ble_eq_true rfl) hlocks dX11_ask_160 (shC c, ad, I27, JX, PC c ad) hW ⟨I27, rfl, (by show 0 ≤ (I27 21 2).toInt ∧ (I27 21 2).toInt ≤ 12; exact k29), ⟨(by show 0 ≤ (I27 1 5).toInt ∧ (I27 1 5).toInt ≤ 30; exact k30), (by show 0 ≤ (I27 1 11).toInt ∧ (I27 1 11).toInt ≤ 200; exact k31)⟩, ⟨(by show 0 ≤ (I27 60 9).toInt ∧ (I27 60 9).toInt ≤ 60; exact hI27J.1), (by show 0 ≤ (I27 60 12).toInt ∧ (I27 60 12).toInt ≤ 12; exact hI27J.2)⟩, ⟨(by show 0 ≤ (I27 0 0).toInt ∧ (I27 0 0).toInt ≤ 719; exact k32), (by show 0 ≤ (I27 0 8).toInt ∧ (I27 0 8).toInt ≤ 10; exact k33)⟩, f28, (by exfalso; have q9 : 0 ≤ (I 60 9).toInt := hJ.1.1; omega)⟩
              · refine lv_istore (lv' := [(7, .int x34), (0, .ref (ad 0)), (1, .int a1), (2, .int a2), (3, .int a3), (4, .int a4), (5, .int a5), (6, .int a6)]) hx hb dX11_ask_83 hl (by decide) rfl (fun ls hl => ?_)
                refine lv_aload_n hx hb dX11_ask_85 rfl (lv_at hl 1 rfl) ?_
                refine z_get (T := TX11) (N := 13) (ci := 11) (i := 0) (v := .ref (ad 60)) hx hb hts zj_X11_ask_X11 hown hK hW rfl rfl 11 (by decide) (hts (.fieldLink RX11 68 "PetrolBoard" "journeys" "LPetrolBoard$Journeys;") (me_s (me_l (me_l (me_l (me_l (me_l (me_l (me_l (List.mem_of_getElem? (i := 2) rfl)))))))))) (fun _ h => h) rfl dX11_ask_86 ?_
                refine lv_iload hx hb dX11_ask_89 (lv_at hl 0 rfl) ?_
                refine z_ci hW hS hA (va_runV (As := [.int x34]) (rest := []) ⟨hx, hb, hml, hown, hts⟩ (sx_X3_has_g l G ad c I27 ⟨(by show 0 ≤ (I27 60 9).toInt ∧ (I27 60 9).toInt ≤ 60; exact hI27J.1), (by show 0 ≤ (I27 60 12).toInt ∧ (I27 60 12).toInt ≤ 12; exact hI27J.2)⟩ x34 _) (cwV 1 hts gX11_ask_X3_has rfl rfl rfl (by decide +kernel) ⟨Nat.le_of_ble_eq_true rfl, Nat.le_of_ble_eq_true rfl⟩) (z_preV (i := 60) hK hW rfl rfl) rfl rfl hl.1 rfl (lv_room (Nat.le_of_ble_eq_true rfl)) dX11_ask_91 ⟨Nat.le_of_ble_eq_true rfl, Nat.le_of_ble_eq_true rfl⟩) (fun r u1 H locs hp hW hS => ?_)
                obtain ⟨e9, hp⟩ := hp
                rw [e9] at hW
                rcases hp with ⟨rfl, h66⟩ | ⟨rfl, h66⟩
                · have h67 := h66
                  have r68 : 0 ≤ (I27 60 9).toInt ∧ (I27 60 9).toInt ≤ 60 := hI27J.1
                  refine lv_if_eq (tgt := 158) hx hb dX11_ask_94 (by decide) (fun c69 => absurd c69 (by decide)) (fun c69 => ?_)
                  refine lv_aload_n hx hb dX11_ask_97 rfl (lv_at hl 1 rfl) ?_
                  refine z_get (T := TX11) (N := 13) (ci := 11) (i := 0) (v := .ref (ad 60)) hx hb hts zj_X11_ask_X11 hown hK hW rfl rfl 11 (by decide) (hts (.fieldLink RX11 68 "PetrolBoard" "journeys" "LPetrolBoard$Journeys;") (me_s (me_l (me_l (me_l (me_l (me_l (me_l (me_l (List.mem_of_getElem? (i := 2) rfl)))))))))) (fun _ h => h) rfl dX11_ask_98 ?_
                  refine z_get (T := TX3) (N := 17) (ci := 3) (i := 60) (v := .ref (ad 67)) hx hb hts zj_X11_ask_X3 hown hK hW rfl rfl 6 (by decide) (hts (.fieldLink RX11 329 "PetrolBoard$Journeys" "asked" "[I") (me_s (me_l (me_l (me_l (me_l (me_l (me_l (me_l (List.mem_of_getElem? (i := 3) rfl)))))))))) (fun _ h => h) rfl dX11_ask_101 ?_
                  refine lv_iload hx hb dX11_ask_104 (lv_at hl 0 rfl) ?_
                  refine lv_aload_n hx hb dX11_ask_106 rfl (lv_at hl 1 rfl) ?_
                  have r70 : 0 ≤ (I27 0 0).toInt ∧ (I27 0 0).toInt ≤ 719 := k32
                  refine z_get (T := TX11) (N := 13) (ci := 11) (i := 0) (v := .int (I27 0 0)) hx hb hts zj_X11_ask_X11 hown hK hW rfl rfl 0 (by decide) (hts (.fieldLink RX11 85 "PetrolBoard" "today" "I") (me_s (me_l (me_l (me_l (me_l (me_l (me_l (me_l (List.mem_of_getElem? (i := 1) rfl)))))))))) (fun _ h => h) rfl dX11_ask_107 ?_
                  refine z_iast (i := 67) hx hb hK hW hS rfl (z_ix rfl (by omega) (by omega)) dX11_ask_110 (fun H locs hz1 hW hS => ?_)
                  obtain ⟨I71, eI71⟩ : ∃ K : z_I, K = z_up I27 67 x34.toNatClampNeg (I27 0 0) := ⟨_, rfl⟩
                  rw [← eI71] at hW
                  have f72 := z_fr_a f28 (show z_wa L_X11_ask_g 67 = true by decide) eI71
                  refine lv_aload_n hx hb dX11_ask_111 rfl (lv_at hl 1 rfl) ?_
                  refine z_get (T := TX11) (N := 13) (ci := 11) (i := 0) (v := .ref (ad 60)) hx hb hts zj_X11_ask_X11 hown hK hW rfl rfl 11 (by decide) (hts (.fieldLink RX11 68 "PetrolBoard" "journeys" "LPetrolBoard$Journeys;") (me_s (me_l (me_l (me_l (me_l (me_l (me_l (me_l (List.mem_of_getElem? (i := 2) rfl)))))))))) (fun _ h => h) rfl dX11_ask_112 ?_
                  refine z_get (T := TX3) (N := 17) (ci := 3) (i := 60) (v := .ref (ad 68)) hx hb hts zj_X11_ask_X3 hown hK hW rfl rfl 7 (by decide) (hts (.fieldLink RX11 332 "PetrolBoard$Journeys" "granted" "[I") (me_s (me_l (me_l (me_l (me_l (me_l (me_l (me_l (List.mem_of_getElem? (i := 4) rfl)))))))))) (fun _ h => h) rfl dX11_ask_115 ?_
                  refine lv_iload hx hb dX11_ask_118 (lv_at hl 0 rfl) ?_
                  refine lv_aload_n hx hb dX11_ask_120 rfl (lv_at hl 1 rfl) ?_
                  refine z_get (T := TX11) (N := 13) (ci := 11) (i := 0) (v := .ref (ad 21)) hx hb hts zj_X11_ask_X11 hown hK hW rfl rfl 4 (by decide) (hts (.fieldLink RX11 30 "PetrolBoard" "orderBook" "LPetrolBoard$OrderBook;") (me_s (me_l (me_l (me_l (me_l (me_l (me_l (me_l (List.mem_of_getElem? (i := 5) rfl)))))))))) (fun _ h => h) rfl dX11_ask_121 ?_
                  refine lv_aload_n hx hb dX11_ask_124 rfl (lv_at hl 1 rfl) ?_
                  refine z_get (T := TX11) (N := 13) (ci := 11) (i := 0) (v := .ref (ad 1)) hx hb hts zj_X11_ask_X11 hown hK hW rfl rfl 2 (by decide) (hts (.fieldLink RX11 16 "PetrolBoard" "holders" "LPetrolBoard$Holders;") (me_s (me_l (me_l (me_l (me_l (me_l (me_l (me_l (List.mem_of_getElem? (i := 0) rfl)))))))))) (fun _ h => h) rfl dX11_ask_125 ?_
                  refine lv_aload_n hx hb dX11_ask_128 rfl (lv_at hl 1 rfl) ?_
                  refine z_get (T := TX11) (N := 13) (ci := 11) (i := 0) (v := .ref (ad 60)) hx hb hts zj_X11_ask_X11 hown hK hW rfl rfl 11 (by decide) (hts (.fieldLink RX11 68 "PetrolBoard" "journeys" "LPetrolBoard$Journeys;") (me_s (me_l (me_l (me_l (me_l (me_l (me_l (me_l (List.mem_of_getElem? (i := 2) rfl)))))))))) (fun _ h => h) rfl dX11_ask_129 ?_
                  refine lv_iload hx hb dX11_ask_132 (lv_at hl 0 rfl) ?_
                  refine z_ci hW hS hA (va_runV (As := [.ref (ad 1), .ref (ad 60), .int x34]) (rest := [.int x34, .ref (ad 68)]) ⟨hx, hb, hml, hown, hts⟩ (sx_X6_grant_g l G ad c I71 (by show 0 ≤ (I71 21 2).toInt ∧ (I71 21 2).toInt ≤ 12; rw [eI71, z_up_n (by decide)]; exact k29) ⟨(by show 0 ≤ (I71 1 5).toInt ∧ (I71 1 5).toInt ≤ 30; rw [eI71, z_up_n (by decide)]; exact k30), (by show 0 ≤ (I71 1 11).toInt ∧ (I71 1 11).toInt ≤ 200; rw [eI71, z_up_n (by decide)]; exact k31)⟩ ⟨(by show 0 ≤ (I71 60 9).toInt ∧ (I71 60 9).toInt ≤ 60; rw [eI71, z_up_n (by decide)]; exact hI27J.1), (by show 0 ≤ (I71 60 12).toInt ∧ (I71 60 12).toInt ≤ 12; rw [eI71, z_up_n (by decide)]; exact hI27J.2)⟩ SS x34 hc (zv_W_c hWu (f72 21 2 (by decide)) (zv_fr2 f72 (by decide)) (fun j => ⟨f72 7 j (z_wr_c (by decide)), f72 8 j (z_wr_c (by decide)), f72 9 j (z_wr_c (by decide)), f72 10 j (z_wr_c (by decide)), f72 11 j (z_wr_c (by decide))⟩) (f72 1 11 (by decide)) (f72 1 5 (by decide)) (fun j => ⟨f72 2 j (z_wr_c (by decide)), f72 3 j (z_wr_c (by decide))⟩)) (by exfalso; omega) (by exfalso; omega) _) (cwV 3 hts gX11_ask_X6_grant rfl rfl rfl (by decide +kernel) ⟨Nat.le_of_ble_eq_true rfl, Nat.le_of_ble_eq_true rfl⟩) (z_preV (i := 21) hK hW rfl rfl) rfl rfl hl.1 rfl (lv_room (Nat.le_of_ble_eq_true rfl)) dX11_ask_134 ⟨Nat.le_of_ble_eq_true rfl, Nat.le_of_ble_eq_true rfl⟩) (fun r u1 H locs hp hW hS => ?_)
                  obtain ⟨I73, e9, hI73O, hI73H, hI73J, fI73, hp⟩ := hp
                  rw [e9] at hW
                  have f74 := z_fr_sub (L := L_X11_ask_g) f72 fI73 (by decide)
                  have k75 : 0 ≤ (I73 0 0).toInt ∧ (I73 0 0).toInt ≤ 719 := by rw [fI73 0 0 (by decide)]; exact (by show 0 ≤ (I71 0 0).toInt ∧ (I71 0 0).toInt ≤ 719; rw [eI71, z_up_n (by decide)]; exact k32)
                  have k76 : 0 ≤ (I73 0 8).toInt ∧ (I73 0 8).toInt ≤ 10 := by rw [fI73 0 8 (by decide)]; exact (by show 0 ≤ (I71 0 8).toInt ∧ (I71 0 8).toInt ≤ 10; rw [eI71, z_up_n (by decide)]; exact k33)
                  have k77 : (I73 60 9).toInt = (I27 60 9).toInt := by rw [fI73 60 9 (by decide), eI71, z_up_n (by decide)]
                  refine lv_topi (fun x78 ex78 => ?_)
                  rw [← ex78] at hp
                  have hG79 := hp
                  refine z_iast (i := 68) hx hb hK hW hS rfl (z_ix rfl (by omega) (by omega)) dX11_ask_137 (fun H locs hz1 hW hS => ?_)
                  obtain ⟨I80, eI80⟩ : ∃ K : z_I, K = z_up I73 68 x34.toNatClampNeg x78 := ⟨_, rfl⟩
                  rw [← eI80] at hW
                  have f81 := z_fr_a f74 (show z_wa L_X11_ask_g 68 = true by decide) eI80
                  refine lv_aload_n hx hb dX11_ask_138 rfl (lv_at hl 1 rfl) ?_
                  refine z_get (T := TX11) (N := 13) (ci := 11) (i := 0) (v := .ref (ad 60)) hx hb hts zj_X11_ask_X11 hown hK hW rfl rfl 11 (by decide) (hts (.fieldLink RX11 68 "PetrolBoard" "journeys" "LPetrolBoard$Journeys;") (me_s (me_l (me_l (me_l (me_l (me_l (me_l (me_l (List.mem_of_getElem? (i := 2) rfl)))))))))) (fun _ h => h) rfl dX11_ask_139 ?_
                  refine z_get (T := TX3) (N := 17) (ci := 3) (i := 60) (v := .ref (ad 69)) hx hb hts zj_X11_ask_X3 hown hK hW rfl rfl 8 (by decide) (hts (.fieldLink RX11 339 "PetrolBoard$Journeys" "grantedFirst" "[I") (me_s (me_l (me_l (me_l (me_l (me_l (me_l (me_l (List.mem_of_getElem? (i := 6) rfl)))))))))) (fun _ h => h) rfl dX11_ask_142 ?_
                  refine lv_iload hx hb dX11_ask_145 (lv_at hl 0 rfl) ?_
                  refine lv_aload_n hx hb dX11_ask_147 rfl (lv_at hl 1 rfl) ?_
                  refine z_get (T := TX11) (N := 13) (ci := 11) (i := 0) (v := .ref (ad 60)) hx hb hts zj_X11_ask_X11 hown hK hW rfl rfl 11 (by decide) (hts (.fieldLink RX11 68 "PetrolBoard" "journeys" "LPetrolBoard$Journeys;") (me_s (me_l (me_l (me_l (me_l (me_l (me_l (me_l (List.mem_of_getElem? (i := 2) rfl)))))))))) (fun _ h => h) rfl dX11_ask_148 ?_
                  refine z_get (T := TX3) (N := 17) (ci := 3) (i := 60) (v := .ref (ad 68)) hx hb hts zj_X11_ask_X3 hown hK hW rfl rfl 7 (by decide) (hts (.fieldLink RX11 332 "PetrolBoard$Journeys" "granted" "[I") (me_s (me_l (me_l (me_l (me_l (me_l (me_l (me_l (List.mem_of_getElem? (i := 4) rfl)))))))))) (fun _ h => h) rfl dX11_ask_151 ?_
                  refine lv_iload hx hb dX11_ask_154 (lv_at hl 0 rfl) ?_
                  refine z_iald (i := 68) hx hb hK hW rfl (z_ix rfl (by omega) (by omega)) dX11_ask_156 ?_
                  refine lv_topi (fun x82 ex82 => ?_)
                  refine z_iast (i := 69) hx hb hK hW hS rfl (z_ix rfl (by omega) (by omega)) dX11_ask_157 (fun H locs hz1 hW hS => ?_)
                  obtain ⟨I83, eI83⟩ : ∃ K : z_I, K = z_up I80 69 x34.toNatClampNeg x82 := ⟨_, rfl⟩
                  rw [← eI83] at hW
                  have f84 := z_fr_a f81 (show z_wa L_X11_ask_g 69 = true by decide) eI83
                  refine lv_iload hx hb dX11_ask_158 (lv_at hl 0 rfl) ?_
                  exact z_iret hx hb hr hK hS (Nat.le_of_ble_eq_true rfl) (Nat.le_of_ble_eq_true rfl) hlocks dX11_ask_160 (shC c, ad, I83, JX, PC c ad) hW ⟨I83, rfl, (by show 0 ≤ (I83 21 2).toInt ∧ (I83 21 2).toInt ≤ 12; rw [eI83, z_up_n (by decide), eI80, z_up_n (by decide)]; exact hI73O), ⟨(by show 0 ≤ (I83 1 5).toInt ∧ (I83 1 5).toInt ≤ 30; rw [eI83, z_up_n (by decide), eI80, z_up_n (by decide)]; exact hI73H.1), (by show 0 ≤ (I83 1 11).toInt ∧ (I83 1 11).toInt ≤ 200; rw [eI83, z_up_n (by decide), eI80, z_up_n (by decide)]; exact hI73H.2)⟩, ⟨(by show 0 ≤ (I83 60 9).toInt ∧ (I83 60 9).toInt ≤ 60; rw [eI83, z_up_n (by decide), eI80, z_up_n (by decide)]; exact hI73J.1), (by show 0 ≤ (I83 60 12).toInt ∧ (I83 60 12).toInt ≤ 12; rw [eI83, z_up_n (by decide), eI80, z_up_n (by decide)]; exact hI73J.2)⟩, ⟨(by show 0 ≤ (I83 0 0).toInt ∧ (I83 0 0).toInt ≤ 719; rw [eI83, z_up_n (by decide), eI80, z_up_n (by decide)]; exact k75), (by show 0 ≤ (I83 0 8).toInt ∧ (I83 0 8).toInt ≤ 10; rw [eI83, z_up_n (by decide), eI80, z_up_n (by decide)]; exact k76)⟩, f84, (by exfalso; have q9 : 0 ≤ (I 60 9).toInt := hJ.1.1; omega)⟩
                · have h85 := h66
                  have r86 : 0 ≤ (I27 60 9).toInt ∧ (I27 60 9).toInt ≤ 60 := hI27J.1
                  refine lv_if_eq (tgt := 158) hx hb dX11_ask_94 (by decide) (fun c87 => ?_) (fun c87 => absurd (by decide) c87)
                  refine lv_iload hx hb dX11_ask_158 (lv_at hl 0 rfl) ?_
                  exact z_iret hx hb hr hK hS (Nat.le_of_ble_eq_true rfl) (Nat.le_of_ble_eq_true rfl) hlocks dX11_ask_160 (shC c, ad, I27, JX, PC c ad) hW ⟨I27, rfl, (by show 0 ≤ (I27 21 2).toInt ∧ (I27 21 2).toInt ≤ 12; exact k29), ⟨(by show 0 ≤ (I27 1 5).toInt ∧ (I27 1 5).toInt ≤ 30; exact k30), (by show 0 ≤ (I27 1 11).toInt ∧ (I27 1 11).toInt ≤ 200; exact k31)⟩, ⟨(by show 0 ≤ (I27 60 9).toInt ∧ (I27 60 9).toInt ≤ 60; exact hI27J.1), (by show 0 ≤ (I27 60 12).toInt ∧ (I27 60 12).toInt ≤ 12; exact hI27J.2)⟩, ⟨(by show 0 ≤ (I27 0 0).toInt ∧ (I27 0 0).toInt ≤ 719; exact k32), (by show 0 ≤ (I27 0 8).toInt ∧ (I27 0 8).toInt ≤ 10; exact k33)⟩, f28, (Or.inr ⟨by omega, by omega, (by show (I27 60 9).toInt = (I 60 9).toInt; omega), (fun j => ⟨(by rw [(h38 j).1]), (by rw [(h38 j).2.1]), (by rw [(h38 j).2.2.1]), (by rw [(h38 j).2.2.2.1]), (by rw [(h38 j).2.2.2.2.1]), (by rw [(h38 j).2.2.2.2.2]), (by rw [fI27 67 j (z_wr_c (by decide))]), (by rw [fI27 68 j (z_wr_c (by decide))]), (by rw [fI27 69 j (z_wr_c (by decide))])⟩)⟩)⟩
            · have h88 := h24
              refine lv_if_ne (tgt := 67) hx hb dX11_ask_62 (by decide) (fun c89 => absurd (by decide) c89) (fun c89 => ?_)
              refine lv_iconst (v := (-1)) hx hb dX11_ask_65 (by decide) ?_
              exact z_iret hx hb hr hK hS (Nat.le_of_ble_eq_true rfl) (Nat.le_of_ble_eq_true rfl) hlocks dX11_ask_66 (shC c, ad, I, JX, PC c ad) hW ⟨I, rfl, (by show 0 ≤ (I 21 2).toInt ∧ (I 21 2).toInt ≤ 12; exact hO), ⟨(by show 0 ≤ (I 1 5).toInt ∧ (I 1 5).toInt ≤ 30; exact hH.1), (by show 0 ≤ (I 1 11).toInt ∧ (I 1 11).toInt ≤ 200; exact hH.2)⟩, ⟨(by show 0 ≤ (I 60 9).toInt ∧ (I 60 9).toInt ≤ 60; exact hJ.1), (by show 0 ≤ (I 60 12).toInt ∧ (I 60 12).toInt ≤ 12; exact hJ.2)⟩, ⟨(by show 0 ≤ (I 0 0).toInt ∧ (I 0 0).toInt ≤ 719; exact hB.1), (by show 0 ≤ (I 0 8).toInt ∧ (I 0 8).toInt ≤ 10; exact hB.2)⟩, z_fr_0, (Or.inr ⟨by omega, by decide, (by show (I 60 9).toInt = (I 60 9).toInt; omega), (fun j => ⟨rfl, rfl, rfl, rfl, rfl, rfl, rfl, rfl, rfl⟩)⟩)⟩
          · have h90 := h20
            have z91 := z_l719
            refine lv_if_eq (tgt := 65) hx hb dX11_ask_54 (by decide) (fun c92 => ?_) (fun c92 => absurd (by decide) c92)
            refine lv_iconst (v := (-1)) hx hb dX11_ask_65 (by decide) ?_
            exact z_iret hx hb hr hK hS (Nat.le_of_ble_eq_true rfl) (Nat.le_of_ble_eq_true rfl) hlocks dX11_ask_66 (shC c, ad, I, JX, PC c ad) hW ⟨I, rfl, (by show 0 ≤ (I 21 2).toInt ∧ (I 21 2).toInt ≤ 12; exact hO), ⟨(by show 0 ≤ (I 1 5).toInt ∧ (I 1 5).toInt ≤ 30; exact hH.1), (by show 0 ≤ (I 1 11).toInt ∧ (I 1 11).toInt ≤ 200; exact hH.2)⟩, ⟨(by show 0 ≤ (I 60 9).toInt ∧ (I 60 9).toInt ≤ 60; exact hJ.1), (by show 0 ≤ (I 60 12).toInt ∧ (I 60 12).toInt ≤ 12; exact hJ.2)⟩, ⟨(by show 0 ≤ (I 0 0).toInt ∧ (I 0 0).toInt ≤ 719; exact hB.1), (by show 0 ≤ (I 0 8).toInt ∧ (I 0 8).toInt ≤ 10; exact hB.2)⟩, z_fr_0, (Or.inr ⟨by omega, by decide, (by show (I 60 9).toInt = (I 60 9).toInt; omega), (fun j => ⟨rfl, rfl, rfl, rfl, rfl, rfl, rfl, rfl, rfl⟩)⟩)⟩
        · have h93 := h16
          refine lv_if_eq (tgt := 65) hx hb dX11_ask_39 (by decide) (fun c94 => ?_) (fun c94 => absurd (by decide) c94)
          refine lv_iconst (v := (-1)) hx hb dX11_ask_65 (by decide) ?_
          exact z_iret hx hb hr hK hS (Nat.le_of_ble_eq_true rfl) (Nat.le_of_ble_eq_true rfl) hlocks dX11_ask_66 (shC c, ad, I, JX, PC c ad) hW ⟨I, rfl, (by show 0 ≤ (I 21 2).toInt ∧ (I 21 2).toInt ≤ 12; exact hO), ⟨(by show 0 ≤ (I 1 5).toInt ∧ (I 1 5).toInt ≤ 30; exact hH.1), (by show 0 ≤ (I 1 11).toInt ∧ (I 1 11).toInt ≤ 200; exact hH.2)⟩, ⟨(by show 0 ≤ (I 60 9).toInt ∧ (I 60 9).toInt ≤ 60; exact hJ.1), (by show 0 ≤ (I 60 12).toInt ∧ (I 60 12).toInt ≤ 12; exact hJ.2)⟩, ⟨(by show 0 ≤ (I 0 0).toInt ∧ (I 0 0).toInt ≤ 719; exact hB.1), (by show 0 ≤ (I 0 8).toInt ∧ (I 0 8).toInt ≤ 10; exact hB.2)⟩, z_fr_0, (Or.inr ⟨by omega, by decide, (by show (I 60 9).toInt = (I 60 9).toInt; omega), (fun j => ⟨rfl, rfl, rfl, rfl, rfl, rfl, rfl, rfl, rfl⟩)⟩)⟩
      · have h95 := h11
        have z96 := z_l1
        have z97 := z_l8
        refine lv_if_ne (tgt := 34) hx hb dX11_ask_29 (by decide) (fun c98 => absurd (by decide) c98) (fun c98 => ?_)
        refine lv_iconst (v := (-1)) hx hb dX11_ask_32 (by decide) ?_
        exact z_iret hx hb hr hK hS (Nat.le_of_ble_eq_true rfl) (Nat.le_of_ble_eq_true rfl) hlocks dX11_ask_33 (shC c, ad, I, JX, PC c ad) hW ⟨I, rfl, (by show 0 ≤ (I 21 2).toInt ∧ (I 21 2).toInt ≤ 12; exact hO), ⟨(by show 0 ≤ (I 1 5).toInt ∧ (I 1 5).toInt ≤ 30; exact hH.1), (by show 0 ≤ (I 1 11).toInt ∧ (I 1 11).toInt ≤ 200; exact hH.2)⟩, ⟨(by show 0 ≤ (I 60 9).toInt ∧ (I 60 9).toInt ≤ 60; exact hJ.1), (by show 0 ≤ (I 60 12).toInt ∧ (I 60 12).toInt ≤ 12; exact hJ.2)⟩, ⟨(by show 0 ≤ (I 0 0).toInt ∧ (I 0 0).toInt ≤ 719; exact hB.1), (by show 0 ≤ (I 0 8).toInt ∧ (I 0 8).toInt ≤ 10; exact hB.2)⟩, z_fr_0, (Or.inr ⟨by omega, by decide, (by show (I 60 9).toInt = (I 60 9).toInt; omega), (fun j => ⟨rfl, rfl, rfl, rfl, rfl, rfl, rfl, rfl, rfl⟩)⟩)⟩
    · have h99 := h5
      have z100 := z_l1
      have z101 := z_l500
      refine lv_if_eq (tgt := 32) hx hb dX11_ask_19 (by decide) (fun c102 => ?_) (fun c102 => absurd (by decide) c102)
      refine lv_iconst (v := (-1)) hx hb dX11_ask_32 (by decide) ?_
      exact z_iret hx hb hr hK hS (Nat.le_of_ble_eq_true rfl) (Nat.le_of_ble_eq_true rfl) hlocks dX11_ask_33 (shC c, ad, I, JX, PC c ad) hW ⟨I, rfl, (by show 0 ≤ (I 21 2).toInt ∧ (I 21 2).toInt ≤ 12; exact hO), ⟨(by show 0 ≤ (I 1 5).toInt ∧ (I 1 5).toInt ≤ 30; exact hH.1), (by show 0 ≤ (I 1 11).toInt ∧ (I 1 11).toInt ≤ 200; exact hH.2)⟩, ⟨(by show 0 ≤ (I 60 9).toInt ∧ (I 60 9).toInt ≤ 60; exact hJ.1), (by show 0 ≤ (I 60 12).toInt ∧ (I 60 12).toInt ≤ 12; exact hJ.2)⟩, ⟨(by show 0 ≤ (I 0 0).toInt ∧ (I 0 0).toInt ≤ 719; exact hB.1), (by show 0 ≤ (I 0 8).toInt ∧ (I 0 8).toInt ≤ 10; exact hB.2)⟩, z_fr_0, (Or.inr ⟨by omega, by decide, (by show (I 60 9).toInt = (I 60 9).toInt; omega), (fun j => ⟨rfl, rfl, rfl, rfl, rfl, rfl, rfl, rfl, rfl⟩)⟩)⟩
  · have h103 := h1
    have r104 : 0 ≤ (I 1 5).toInt ∧ (I 1 5).toInt ≤ 30 := hH.1
    refine lv_if_eq (tgt := 32) hx hb dX11_ask_8 (by decide) (fun c105 => ?_) (fun c105 => absurd (by decide) c105)
    refine lv_iconst (v := (-1)) hx hb dX11_ask_32 (by decide) ?_
    exact z_iret hx hb hr hK hS (Nat.le_of_ble_eq_true rfl) (Nat.le_of_ble_eq_true rfl) hlocks dX11_ask_33 (shC c, ad, I, JX, PC c ad) hW ⟨I, rfl, (by show 0 ≤ (I 21 2).toInt ∧ (I 21 2).toInt ≤ 12; exact hO), ⟨(by show 0 ≤ (I 1 5).toInt ∧ (I 1 5).toInt ≤ 30; exact hH.1), (by show 0 ≤ (I 1 11).toInt ∧ (I 1 11).toInt ≤ 200; exact hH.2)⟩, ⟨(by show 0 ≤ (I 60 9).toInt ∧ (I 60 9).toInt ≤ 60; exact hJ.1), (by show 0 ≤ (I 60 12).toInt ∧ (I 60 12).toInt ≤ 12; exact hJ.2)⟩, ⟨(by show 0 ≤ (I 0 0).toInt ∧ (I 0 0).toInt ≤ 719; exact hB.1), (by show 0 ≤ (I 0 8).toInt ∧ (I 0 8).toInt ≤ 10; exact hB.2)⟩, z_fr_0, (Or.inr ⟨by omega, by decide, (by show (I 60 9).toInt = (I 60 9).toInt; omega), (fun j => ⟨rfl, rfl, rfl, rfl, rfl, rfl, rfl, rfl, rfl⟩)⟩)⟩
