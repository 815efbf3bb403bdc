

/-! a statement of the class: its rows, its code -/
noncomputable def zr_row (I : z_I) (j : Nat) (s : zp_T) : Prop := (I 18 j).toInt = s.1 ∧ (s.1 ≤ 301 → ∃ p : Nat, (I 19 j).toInt = (p : Int) ∧ zp_cd (fun j => (I 17 j).toInt) p (s.2.2.1 ++ [-13]) ∧ (p : Int) + (s.2.2.1.length : Int) < (I 12 9).toInt) ∧ (303 ≤ s.1 → (I 19 j).toInt = s.2.1) ∧ ((s.2.2.2 = [] ∧ (I 20 j).toInt = -1) ∨ (s.2.2.2 ≠ [] ∧ ∃ p : Nat, (I 20 j).toInt = (p : Int) ∧ zp_cd (fun j => (I 17 j).toInt) p (s.2.2.2 ++ [-13]) ∧ (p : Int) + (s.2.2.2.length : Int) < (I 12 9).toInt))
noncomputable def zr_os (I I1 : z_I) (n : Nat) : Prop := ∀ j, j ≠ n → I1 18 j = I 18 j ∧ I1 19 j = I 19 j ∧ I1 20 j = I 20 j
theorem zr_M_w {I0 I K : z_I} {k a j : Nat} {cs : List Int} {v : Int32} (h : zr_M I0 I k cs) (ha : 18 ≤ a ∧ a ≤ 20) (e : K = z_up I a j v) : zr_M I0 K k cs := by
  obtain ⟨a1, a2, a3, a4, a5, a6, a7, a8, a9, a10⟩ := h
  have q : ∀ c i, c ≠ a → K c i = I c i := fun c i hc => by rw [e, z_up_n hc]
  refine ⟨by rw [q 12 _ (by omega)]; exact a1, a2, by rw [q 12 _ (by omega)]; exact a3, by rw [q 12 _ (by omega)]; exact a4, ?_, fun i hi => by rw [q 17 _ (by omega)]; exact a6 i hi, by rw [q 12 _ (by omega)]; exact a7, fun i => by rw [q 14 _ (by omega)]; exact a8 i, fun i => by rw [q 15 _ (by omega)]; exact a9 i, fun i => by rw [q 16 _ (by omega)]; exact a10 i⟩
  refine zp_cd_ex cs _ (fun i _ _ => ?_) a5
  show (K 17 i).toInt = (I 17 i).toInt
  rw [q 17 i (by omega)]
theorem zr_M_t0 {I0 I I1 : z_I} {k k1 : Nat} {cs1 : List Int} (h : zr_M I0 I k []) (h1 : zr_M I I1 k1 cs1) (hu : 0 ≤ (I0 12 9).toInt) : zr_M I0 I1 k1 cs1 := by
  have q := zr_M_t h h1 hu
  rw [List.nil_append] at q
  exact q
theorem zr_row_k {I I1 : z_I} {j : Nat} {s : zp_T} (h : zr_row I j s) (h1 : I1 18 j = I 18 j ∧ I1 19 j = I 19 j ∧ I1 20 j = I 20 j) (hc : ∀ i : Nat, (i : Int) < (I 12 9).toInt → I1 17 i = I 17 i) (hu : (I 12 9).toInt ≤ (I1 12 9).toInt) : zr_row I1 j s := by
  obtain ⟨a1, a2, a3, a4⟩ := h
  obtain ⟨b1, b2, b3⟩ := h1
  have hx : ∀ (cs : List Int) (p : Nat), (p : Int) + (cs.length : Int) < (I 12 9).toInt → zp_cd (fun j => (I 17 j).toInt) p (cs ++ [-13]) → zp_cd (fun j => (I1 17 j).toInt) p (cs ++ [-13]) := fun cs p hp hq => zp_cd_ex _ _ (fun i i1 i2 => by
    show (I1 17 i).toInt = (I 17 i).toInt
    rw [List.length_append, List.length_cons, List.length_nil] at i2
    rw [hc i (by omega)]) hq
  refine ⟨by rw [b1]; exact a1, fun z => ?_, fun z => by rw [b2]; exact a3 z, ?_⟩
  · obtain ⟨p, c1, c2, c3⟩ := a2 z
    exact ⟨p, by rw [b2]; exact c1, hx _ p c3 c2, by omega⟩
  · rcases a4 with ⟨c1, c2⟩ | ⟨c1, p, c2, c3, c4⟩
    · exact Or.inl ⟨c1, by rw [b3]; exact c2⟩
    · exact Or.inr ⟨c1, p, by rw [b3]; exact c2, hx _ p c4 c3, by omega⟩
section ZRW
variable {I I1 : z_I} {n k1 : Nat} {ce cc : List Int} {hd fi : Int}
theorem zr_rowA (hM : zr_M I I1 k1 (ce ++ [-13])) (hu : 0 ≤ (I 12 9).toInt) (hh : hd ≤ 301) (h1 : (I1 18 n).toInt = hd) (h2 : (I1 19 n).toInt = (I 12 9).toInt) (h3 : (I1 20 n).toInt = -1) : zr_row I1 n (hd, 0, ce, []) := by
  obtain ⟨a1, a2, a3, a4, a5, a6⟩ := hM
  have q := z_clt (x := I 12 9) rfl hu
  rw [List.length_append, List.length_cons, List.length_nil] at a4
  exact ⟨h1, fun _ => ⟨(I 12 9).toNatClampNeg, by omega, a5, by show _ + (ce.length : Int) < _; omega⟩, fun z => absurd z (by show ¬ 303 ≤ hd; omega), Or.inl ⟨rfl, h3⟩⟩
theorem zr_rowB (hM : zr_M I I1 k1 ((ce ++ [-13]) ++ (cc ++ [-13]))) (hu : 0 ≤ (I 12 9).toInt) (hh : hd ≤ 301) (hne : cc ≠ []) (h1 : (I1 18 n).toInt = hd) (h2 : (I1 19 n).toInt = (I 12 9).toInt) (h3 : (I1 20 n).toInt = (I 12 9).toInt + (ce.length : Int) + 1) : zr_row I1 n (hd, 0, ce, cc) := by
  obtain ⟨a1, a2, a3, a4, a5, a6⟩ := hM
  have q := z_clt (x := I 12 9) rfl hu
  rw [zp_cd_ap] at a5
  have e : (ce ++ [-13] : List Int).length = ce.length + 1 := by simp
  rw [e] at a5
  simp only [List.length_append, List.length_cons, List.length_nil] at a4
  refine ⟨h1, fun _ => ⟨(I 12 9).toNatClampNeg, by omega, a5.1, by show _ + (ce.length : Int) < _; omega⟩, fun z => absurd z (by show ¬ 303 ≤ hd; omega), Or.inr ⟨hne, (I 12 9).toNatClampNeg + (ce.length + 1), by omega, a5.2, by show _ + (cc.length : Int) < _; omega⟩⟩
theorem zr_rowC (hM : zr_M I I1 k1 (cc ++ [-13])) (hu : 0 ≤ (I 12 9).toInt) (hne : cc ≠ []) (h1 : (I1 18 n).toInt = 302) (h3 : (I1 20 n).toInt = (I 12 9).toInt) : zr_row I1 n (302, 0, [], cc) := by
  obtain ⟨a1, a2, a3, a4, a5, a6⟩ := hM
  have q := z_clt (x := I 12 9) rfl hu
  rw [List.length_append, List.length_cons, List.length_nil] at a4
  exact ⟨h1, fun z => absurd z (by show ¬ (302 : Int) ≤ 301; decide), fun z => absurd z (by show ¬ (303 : Int) ≤ 302; decide), Or.inr ⟨hne, (I 12 9).toNatClampNeg, by omega, a5, by show _ + (cc.length : Int) < _; omega⟩⟩
theorem zr_rowD (hh : 303 ≤ hd) (h1 : (I1 18 n).toInt = hd) (h2 : (I1 19 n).toInt = fi) (h3 : (I1 20 n).toInt = -1) : zr_row I1 n (hd, fi, [], []) := ⟨h1, fun z => absurd z (by show ¬ hd ≤ 301; omega), fun _ => h2, Or.inl ⟨rfl, h3⟩⟩
end ZRW
noncomputable def L_X9_condition_x : z_L := [(12, 6), (12, 7), (17, 999), (12, 9), (20, 999)]
set_option maxHeartbeats 8000000 in
set_option maxRecDepth 100000 in
theorem sx_X9_condition_x (l : Launch) (G : z_G) (ad : Nat → Nat) (c : z_C) (I : z_I) (hR : z_iR I) (hT : z_iT I) (k : Nat) (a1 : Int32) (hP : zr_P I k) (hn : zr_tk I k ≠ 401) (hk9 : 0 ≤ a1.toInt ∧ a1.toInt ≤ 23) : z_M l yX9_condition wsX9_condition { frames := 85, cells := 0, slots := 0, locals := 1859 } [.ref (ad 12), .int a1] G (shC c, ad, I, JX, PC c ad) (fun r u1 => ∃ I1 : z_I, u1 = (shC c, ad, I1, JX, PC c ad) ∧ z_iR I1 ∧ z_iT I1 ∧ z_fr L_X9_condition_x I1 I ∧ ((r = 1 ∧ ∃ k1 cc, zr_M I I1 k1 (cc ++ [-13]) ∧ k + 1 < k1 ∧ cc.length + (k + 1) ≤ k1 ∧ zp_ok (zr_tk I) (zr_va I) 3 0 (k + 1) k1 cc ∧ (I1 20 a1.toNatClampNeg).toInt = (I 12 9).toInt ∧ ∀ j, j ≠ a1.toNatClampNeg → I1 20 j = I 20 j) ∨ (r = 0 ∧ ∃ f, zr_F I I1 f ∧ zp_no (zr_tk I) (zr_va I) 3 0 (k + 1) f))) 0 0 := by
  intro sz
  refine z_headQ (cc := cX9_condition) (maxL := 2) (ret := (some .boolean)) (by decide) rfl (Nat.le_of_ble_eq_true rfl) ?_
  intro p e s m below meth c0 ls hIn hK hsz hW hl
  obtain ⟨hx, hb, hr, hml, hown, hts, hlocks, hname⟩ := hIn
  subst hsz
  have hown : s.vm.findClass RX9 = some m.cls := hown
  have hA : ∀ q : Nat, s.heap.size ≤ q → z_A (shC c, ad, I, JX, PC c ad) s.heap.size q := fun q h => Or.inr h
  generalize hAe : z_A (shC c, ad, I, JX, PC c ad) s.heap.size = A at *
  have hS : va_S A s.heap s.heap [] := va_S.rf
  have hl : lv_has ls 2 [(0, .ref (ad 12)), (1, .int a1)] := hl
  have hM0 := zr_M_0 hP
  have hP1 := hP.1
  have hP2 := hP.2.1
  have hP3 := hP.2.2.1
  have hP4 := hP.2.2.2.1
  have hP5 := hP.2.2.2.2.1
  have hP6 := hP.2.2.2.2.2.1
  have hlz : ([] : List Int).length = 0 := rfl
  have kT : (I 12 6).toInt ≤ 501 ∧ ((I 12 7).toInt = 401 ∨ (I 12 6).toInt ≤ 500) := hT
  refine lv_iload_n hx hb dX9_condition_0 rfl (lv_at hl 1 rfl) ?_
  refine lv_if_lt (tgt := 10) hx hb dX9_condition_1 (by decide) (fun c1 => (by have g := z_f_lt rfl z_l0 c1; omega)) (fun c1 => ?_)
  have g2 := z_f_nlt rfl z_l0 c1
  refine lv_iload_n hx hb dX9_condition_4 rfl (lv_at hl 1 rfl) ?_
  refine lv_bipush (v := 24) hx hb dX9_condition_5 (by decide) ?_
  refine lv_icmp_lt (tgt := 12) hx hb dX9_condition_7 (by decide) (fun c3 => ?_) (fun c3 => (by have g := z_f_nlt rfl z_l24 c3; omega))
  have g4 := z_f_lt rfl z_l24 c3
  refine lv_aload_n hx hb dX9_condition_12 rfl (lv_at hl 0 rfl) ?_
  have q5 := zr_Q_n (zr_Q_m hP hM0) (by rw [zr_tkS hM0]; omega)
  refine z_cv hW hS hA (va_runV (As := []) (rest := []) ⟨hx, hb, hml, hown, hts⟩ (sx_X9_step_x l G ad c I ⟨(by show 0 ≤ (I 12 1).toInt ∧ (I 12 1).toInt ≤ 500; exact hR.1), (by show 0 ≤ (I 12 5).toInt ∧ (I 12 5).toInt ≤ 501; exact hR.2.1), (by show (-1) ≤ (I 12 6).toInt ∧ (I 12 6).toInt ≤ 1000000; exact hR.2.2.1), (by show 0 ≤ (I 12 9).toInt ∧ (I 12 9).toInt ≤ 500; exact hR.2.2.2.1), (by show 0 ≤ (I 12 13).toInt ∧ (I 12 13).toInt ≤ 24; exact hR.2.2.2.2)⟩ (k + 1) q5 _) (cwV 0 hts gX9_condition_X9_step rfl rfl rfl (by decide +kernel) ⟨Nat.le_of_ble_eq_true rfl, Nat.le_of_ble_eq_true rfl⟩) (z_preV (i := 12) hK hW rfl rfl) rfl rfl hl.1 rfl (lv_room (Nat.le_of_ble_eq_true rfl)) dX9_condition_13 ⟨Nat.le_of_ble_eq_true rfl, Nat.le_of_ble_eq_true rfl⟩) (fun u1 H locs hp hW hS => ?_)
  obtain ⟨I6, e9, hI6R, hI6T, fI6, hp⟩ := hp
  rw [e9] at hW
  have f7 := z_fr_sub (L := L_X9_condition_x) z_fr_0 fI6 (by decide)
  have k8 : (I6 12 6).toInt ≤ 501 ∧ ((I6 12 7).toInt = 401 ∨ (I6 12 6).toInt ≤ 500) := hI6T
  have hM9 := zr_M_s hM0 hp hP.2.2.2.2.1
  have h11 := hM9.1
  have h12 := hM9.2.1
  have h13 := hM9.2.2.1
  have h14 := hM9.2.2.2.1
  have l15 : (([] : List Int) : List Int).length = 0 := rfl
  refine lv_aload_n hx hb dX9_condition_16 rfl (lv_at hl 0 rfl) ?_
  refine z_get (T := TX9) (N := 14) (ci := 9) (i := 12) (v := .ref (ad 20)) hx hb hts zj_X9_condition_X9 hown hK hW rfl rfl 12 (by decide) (hts (.fieldLink RX9 33 "PetrolBoard$Reader" "second" "[I") (me_s (me_l (me_l (List.mem_of_getElem? (i := 0) rfl))))) (fun _ h => h) rfl dX9_condition_17 ?_
  refine lv_iload_n hx hb dX9_condition_20 rfl (lv_at hl 1 rfl) ?_
  refine lv_aload_n hx hb dX9_condition_21 rfl (lv_at hl 0 rfl) ?_
  have r16 : 0 ≤ (I6 12 9).toInt ∧ (I6 12 9).toInt ≤ 500 := hI6R.2.2.2.1
  refine z_get (T := TX9) (N := 14) (ci := 9) (i := 12) (v := .int (I6 12 9)) hx hb hts zj_X9_condition_X9 hown hK hW rfl rfl 9 (by decide) (hts (.fieldLink RX9 50 "PetrolBoard$Reader" "used" "I") (me_s (me_l (me_l (List.mem_of_getElem? (i := 1) rfl))))) (fun _ h => h) rfl dX9_condition_22 ?_
  refine z_iast (i := 20) hx hb hK hW hS rfl (z_ix rfl (by omega) (by omega)) dX9_condition_25 (fun H locs hz1 hW hS => ?_)
  obtain ⟨I17, eI17⟩ : ∃ K : z_I, K = z_up I6 20 a1.toNatClampNeg (I6 12 9) := ⟨_, rfl⟩
  rw [← eI17] at hW
  have f18 := z_fr_a f7 (show z_wa L_X9_condition_x 20 = true by decide) eI17
  have hM19 := zr_M_w hM9 (by decide) eI17
  have h20 := hM19.1
  have h21 := hM19.2.1
  have h22 := hM19.2.2.1
  have h23 := hM19.2.2.2.1
  have l24 : (([] : List Int) : List Int).length = 0 := rfl
  refine lv_aload_n hx hb dX9_condition_26 rfl (lv_at hl 0 rfl) ?_
  refine lv_iconst (v := 0) hx hb dX9_condition_27 (by decide) ?_
  refine z_ci hW hS hA (va_runV (As := [.int 0]) (rest := []) ⟨hx, hb, hml, hown, hts⟩ (sx_X9_either_0x l G ad c I17 ⟨(by show 0 ≤ (I17 12 1).toInt ∧ (I17 12 1).toInt ≤ 500; rw [eI17, z_up_n (by decide)]; exact hI6R.1), (by show 0 ≤ (I17 12 5).toInt ∧ (I17 12 5).toInt ≤ 501; rw [eI17, z_up_n (by decide)]; exact hI6R.2.1), (by show (-1) ≤ (I17 12 6).toInt ∧ (I17 12 6).toInt ≤ 1000000; rw [eI17, z_up_n (by decide)]; exact hI6R.2.2.1), (by show 0 ≤ (I17 12 9).toInt ∧ (I17 12 9).toInt ≤ 500; rw [eI17, z_up_n (by decide)]; exact hI6R.2.2.2.1), (by show 0 ≤ (I17 12 13).toInt ∧ (I17 12 13).toInt ≤ 24; rw [eI17, z_up_n (by decide)]; exact hI6R.2.2.2.2)⟩ (by have q0 : (I17 12 6) = (I6 12 6) := (by rw [eI17, z_up_n (by decide)]); have q1 : (I17 12 7) = (I6 12 7) := (by rw [eI17, z_up_n (by decide)]); show (I17 12 6).toInt ≤ 501 ∧ ((I17 12 7).toInt = 401 ∨ (I17 12 6).toInt ≤ 500); rw [q0, q1]; first | omega | decide) (k + 1) (zr_P_m hP hM19 (by omega)) _) (cwV 1 hts gX9_condition_X9_either rfl rfl rfl (by decide +kernel) ⟨Nat.le_of_ble_eq_true rfl, Nat.le_of_ble_eq_true rfl⟩) (z_preV (i := 12) hK hW rfl rfl) rfl rfl hl.1 rfl (lv_room (Nat.le_of_ble_eq_true rfl)) dX9_condition_28 ⟨Nat.le_of_ble_eq_true rfl, Nat.le_of_ble_eq_true rfl⟩) (fun r u1 H locs hp hW hS => ?_)
  obtain ⟨I25, e9, hI25R, hI25T, fI25, hp⟩ := hp
  rw [e9] at hW
  have f26 := z_fr_sub (L := L_X9_condition_x) f18 fI25 (by decide)
  have k27 : (I25 12 6).toInt ≤ 501 ∧ ((I25 12 7).toInt = 401 ∨ (I25 12 6).toInt ≤ 500) := hI25T
  rcases hp with ⟨rfl, hq⟩ | ⟨rfl, hq⟩
  · obtain ⟨k28, cs29, hm30, h31, h32, h33⟩ := hq
    have ho34 := zr_okS hM19 h33
    have hM35 := (show zr_M I I25 k28 cs29 from zr_M_t hM19 hm30 hP.2.2.2.2.1)
    have h36 := hM35.1
    have h37 := hM35.2.1
    have h38 := hM35.2.2.1
    have h39 := hM35.2.2.2.1
    have l40 : (cs29).length = cs29.length := by first | rfl | (simp only [List.length_append, List.length_cons, List.length_nil] <;> omega)
    refine lv_if_ne (tgt := 36) hx hb dX9_condition_31 (by decide) (fun c41 => ?_) (fun c41 => absurd c41 (by decide))
    refine lv_aload_n hx hb dX9_condition_36 rfl (lv_at hl 0 rfl) ?_
    refine lv_bipush (v := (-13)) hx hb dX9_condition_37 (by decide) ?_
    refine z_cv hW hS hA (va_runV (As := [.int (-13)]) (rest := []) ⟨hx, hb, hml, hown, hts⟩ (sx_X9_emit_x l G ad c I25 ⟨(by show 0 ≤ (I25 12 1).toInt ∧ (I25 12 1).toInt ≤ 500; exact hI25R.1), (by show 0 ≤ (I25 12 5).toInt ∧ (I25 12 5).toInt ≤ 501; exact hI25R.2.1), (by show (-1) ≤ (I25 12 6).toInt ∧ (I25 12 6).toInt ≤ 1000000; exact hI25R.2.2.1), (by show 0 ≤ (I25 12 9).toInt ∧ (I25 12 9).toInt ≤ 500; exact hI25R.2.2.2.1), (by show 0 ≤ (I25 12 13).toInt ∧ (I25 12 13).toInt ≤ 24; exact hI25R.2.2.2.2)⟩ (-13) (by omega) _) (cwV 1 hts gX9_condition_X9_emit rfl rfl rfl (by decide +kernel) ⟨Nat.le_of_ble_eq_true rfl, Nat.le_of_ble_eq_true rfl⟩) (z_preV (i := 12) hK hW rfl rfl) rfl rfl hl.1 rfl (lv_room (Nat.le_of_ble_eq_true rfl)) dX9_condition_39 ⟨Nat.le_of_ble_eq_true rfl, Nat.le_of_ble_eq_true rfl⟩) (fun u1 H locs hp hW hS => ?_)
    obtain ⟨I42, e9, hI42R, fI42, hp⟩ := hp
    rw [e9] at hW
    have f43 := z_fr_sub (L := L_X9_condition_x) f26 fI42 (by decide)
    have k44 : (I42 12 6).toInt ≤ 501 ∧ ((I42 12 7).toInt = 401 ∨ (I42 12 6).toInt ≤ 500) := (by have q0 : (I42 12 6) = (I25 12 6) := (by rw [fI42 12 6 (by decide)]); have q1 : (I42 12 7) = (I25 12 7) := (by rw [fI42 12 7 (by decide)]); show (I42 12 6).toInt ≤ 501 ∧ ((I42 12 7).toInt = 401 ∨ (I42 12 6).toInt ≤ 500); rw [q0, q1]; first | omega | decide)
    have hM45 := zr_M_e hM35 hp (show ((-13) : Int32).toInt = (-13) by decide) hP.2.2.2.2.1
    have h46 := hM45.1
    have h47 := hM45.2.1
    have h48 := hM45.2.2.1
    have h49 := hM45.2.2.2.1
    have l50 : ((cs29 ++ [(-13)])).length = cs29.length + 1 := by first | rfl | (simp only [List.length_append, List.length_cons, List.length_nil] <;> omega)
    refine lv_iconst (v := 1) hx hb dX9_condition_42 (by decide) ?_
    exact z_zret hx hb hr (by decide) hK hS (Nat.le_of_ble_eq_true rfl) (Nat.le_of_ble_eq_true rfl) hlocks dX9_condition_43 (shC c, ad, I42, JX, PC c ad) hW ⟨I42, rfl, ⟨(by show 0 ≤ (I42 12 1).toInt ∧ (I42 12 1).toInt ≤ 500; exact hI42R.1), (by show 0 ≤ (I42 12 5).toInt ∧ (I42 12 5).toInt ≤ 501; exact hI42R.2.1), (by show (-1) ≤ (I42 12 6).toInt ∧ (I42 12 6).toInt ≤ 1000000; exact hI42R.2.2.1), (by show 0 ≤ (I42 12 9).toInt ∧ (I42 12 9).toInt ≤ 500; exact hI42R.2.2.2.1), (by show 0 ≤ (I42 12 13).toInt ∧ (I42 12 13).toInt ≤ 24; exact hI42R.2.2.2.2)⟩, (by show (I42 12 6).toInt ≤ 501 ∧ ((I42 12 7).toInt = 401 ∨ (I42 12 6).toInt ≤ 500); first | omega | decide), f43, (Or.inl ⟨rfl, k28, cs29, hM45, by omega, by omega, ho34, (by rw [show I42 20 a1.toNatClampNeg = (I6 12 9) from (by rw [fI42 20 a1.toNatClampNeg (z_wr_c (by decide)), fI25 20 a1.toNatClampNeg (z_wr_c (by decide)), eI17, z_up_s])] <;> omega), fun j hj => by rw [fI42 20 j (z_wr_c (by decide)), fI25 20 j (z_wr_c (by decide)), eI17, z_up_k hj, fI6 20 j (z_wr_c (by decide))]⟩)⟩
  · obtain ⟨f51, hf52, h53⟩ := hq
    have hb54 := zr_noS hM19 h53
    have hF55 := zr_F_m hM19 hf52
    refine lv_if_ne (tgt := 36) hx hb dX9_condition_31 (by decide) (fun c56 => absurd (by decide) c56) (fun c56 => ?_)
    refine lv_iconst (v := 0) hx hb dX9_condition_34 (by decide) ?_
    exact z_zret hx hb hr (by decide) hK hS (Nat.le_of_ble_eq_true rfl) (Nat.le_of_ble_eq_true rfl) hlocks dX9_condition_35 (shC c, ad, I25, JX, PC c ad) hW ⟨I25, rfl, ⟨(by show 0 ≤ (I25 12 1).toInt ∧ (I25 12 1).toInt ≤ 500; exact hI25R.1), (by show 0 ≤ (I25 12 5).toInt ∧ (I25 12 5).toInt ≤ 501; exact hI25R.2.1), (by show (-1) ≤ (I25 12 6).toInt ∧ (I25 12 6).toInt ≤ 1000000; exact hI25R.2.2.1), (by show 0 ≤ (I25 12 9).toInt ∧ (I25 12 9).toInt ≤ 500; exact hI25R.2.2.2.1), (by show 0 ≤ (I25 12 13).toInt ∧ (I25 12 13).toInt ≤ 24; exact hI25R.2.2.2.2)⟩, (by show (I25 12 6).toInt ≤ 501 ∧ ((I25 12 7).toInt = 401 ∨ (I25 12 6).toInt ≤ 500); first | omega | decide), f26, (Or.inr ⟨rfl, f51, hF55, hb54⟩)⟩
noncomputable def L_X9_amountOf_x : z_L := [(12, 6), (12, 7), (17, 999), (12, 9), (19, 999)]
set_option maxHeartbeats 8000000 in
set_option maxRecDepth 100000 in
theorem sx_X9_amountOf_x (l : Launch) (G : z_G) (ad : Nat → Nat) (c : z_C) (I : z_I) (hR : z_iR I) (hT : z_iT I) (k : Nat) (a1 : Int32) (hP : zr_P I k) (hn : zr_tk I k ≠ 401) (hk9 : 0 ≤ a1.toInt ∧ a1.toInt ≤ 23) (hva : ∀ k, zr_tk I k = 400 → 0 ≤ zr_va I k ∧ zr_va I k ≤ 999999) : z_M l yX9_amountOf wsX9_amountOf { frames := 2, cells := 0, slots := 0, locals := 32 } [.ref (ad 12), .int a1] G (shC c, ad, I, JX, PC c ad) (fun r u1 => ∃ I1 : z_I, u1 = (shC c, ad, I1, JX, PC c ad) ∧ z_iR I1 ∧ z_iT I1 ∧ z_fr L_X9_amountOf_x I1 I ∧ ((r = 1 ∧ zr_tk I (k + 1) = 400 ∧ ((I 18 a1.toNatClampNeg).toInt = 303 → 1 ≤ zr_va I (k + 1)) ∧ zr_M I I1 (k + 2) [] ∧ (I1 19 a1.toNatClampNeg).toInt = zr_va I (k + 1) ∧ ∀ j, j ≠ a1.toNatClampNeg → I1 19 j = I 19 j) ∨ (r = 0 ∧ zr_F I I1 (k + 1) ∧ (zr_tk I (k + 1) ≠ 400 ∨ ((I 18 a1.toNatClampNeg).toInt = 303 ∧ zr_va I (k + 1) < 1))))) 0 0 := by
  intro sz
  refine z_headQ (cc := cX9_amountOf) (maxL := 3) (ret := (some .boolean)) (by decide) rfl (Nat.le_of_ble_eq_true rfl) ?_
  intro p e s m below meth c0 ls hIn hK hsz hW hl
  obtain ⟨hx, hb, hr, hml, hown, hts, hlocks, hname⟩ := hIn
  subst hsz
  have hown : s.vm.findClass RX9 = some m.cls := hown
  have hA : ∀ q : Nat, s.heap.size ≤ q → z_A (shC c, ad, I, JX, PC c ad) s.heap.size q := fun q h => Or.inr h
  generalize hAe : z_A (shC c, ad, I, JX, PC c ad) s.heap.size = A at *
  have hS : va_S A s.heap s.heap [] := va_S.rf
  have hl : lv_has ls 3 [(0, .ref (ad 12)), (1, .int a1)] := hl
  have hM0 := zr_M_0 hP
  have hP1 := hP.1
  have hP2 := hP.2.1
  have hP3 := hP.2.2.1
  have hP4 := hP.2.2.2.1
  have hP5 := hP.2.2.2.2.1
  have hP6 := hP.2.2.2.2.2.1
  have hlz : ([] : List Int).length = 0 := rfl
  have kT : (I 12 6).toInt ≤ 501 ∧ ((I 12 7).toInt = 401 ∨ (I 12 6).toInt ≤ 500) := hT
  refine lv_iload_n hx hb dX9_amountOf_0 rfl (lv_at hl 1 rfl) ?_
  refine lv_if_lt (tgt := 10) hx hb dX9_amountOf_1 (by decide) (fun c1 => (by have g := z_f_lt rfl z_l0 c1; omega)) (fun c1 => ?_)
  have g2 := z_f_nlt rfl z_l0 c1
  refine lv_iload_n hx hb dX9_amountOf_4 rfl (lv_at hl 1 rfl) ?_
  refine lv_bipush (v := 24) hx hb dX9_amountOf_5 (by decide) ?_
  refine lv_icmp_lt (tgt := 12) hx hb dX9_amountOf_7 (by decide) (fun c3 => ?_) (fun c3 => (by have g := z_f_nlt rfl z_l24 c3; omega))
  have g4 := z_f_lt rfl z_l24 c3
  refine lv_aload_n hx hb dX9_amountOf_12 rfl (lv_at hl 0 rfl) ?_
  have q5 := zr_Q_n (zr_Q_m hP hM0) (by rw [zr_tkS hM0]; omega)
  refine z_cv hW hS hA (va_runV (As := []) (rest := []) ⟨hx, hb, hml, hown, hts⟩ (sx_X9_step_x l G ad c I ⟨(by show 0 ≤ (I 12 1).toInt ∧ (I 12 1).toInt ≤ 500; exact hR.1), (by show 0 ≤ (I 12 5).toInt ∧ (I 12 5).toInt ≤ 501; exact hR.2.1), (by show (-1) ≤ (I 12 6).toInt ∧ (I 12 6).toInt ≤ 1000000; exact hR.2.2.1), (by show 0 ≤ (I 12 9).toInt ∧ (I 12 9).toInt ≤ 500; exact hR.2.2.2.1), (by show 0 ≤ (I 12 13).toInt ∧ (I 12 13).toInt ≤ 24; exact hR.2.2.2.2)⟩ (k + 1) q5 _) (cwV 0 hts gX9_amountOf_X9_step rfl rfl rfl (by decide +kernel) ⟨Nat.le_of_ble_eq_true rfl, Nat.le_of_ble_eq_true rfl⟩) (z_preV (i := 12) hK hW rfl rfl) rfl rfl hl.1 rfl (lv_room (Nat.le_of_ble_eq_true rfl)) dX9_amountOf_13 ⟨Nat.le_of_ble_eq_true rfl, Nat.le_of_ble_eq_true rfl⟩) (fun u1 H locs hp hW hS => ?_)
  obtain ⟨I6, e9, hI6R, hI6T, fI6, hp⟩ := hp
  rw [e9] at hW
  have f7 := z_fr_sub (L := L_X9_amountOf_x) z_fr_0 fI6 (by decide)
  have k8 : (I6 12 6).toInt ≤ 501 ∧ ((I6 12 7).toInt = 401 ∨ (I6 12 6).toInt ≤ 500) := hI6T
  have hM9 := zr_M_s hM0 hp hP.2.2.2.2.1
  have h11 := hM9.1
  have h12 := hM9.2.1
  have h13 := hM9.2.2.1
  have h14 := hM9.2.2.2.1
  have l15 : (([] : List Int) : List Int).length = 0 := rfl
  refine lv_aload_n hx hb dX9_amountOf_16 rfl (lv_at hl 0 rfl) ?_
  refine z_get (T := TX9) (N := 14) (ci := 9) (i := 12) (v := .ref (ad 18)) hx hb hts zj_X9_amountOf_X9 hown hK hW rfl rfl 10 (by decide) (hts (.fieldLink RX9 27 "PetrolBoard$Reader" "head" "[I") (me_s (me_l (List.mem_of_getElem? (i := 0) rfl)))) (fun _ h => h) rfl dX9_amountOf_17 ?_
  refine lv_iload_n hx hb dX9_amountOf_20 rfl (lv_at hl 1 rfl) ?_
  refine z_iald (i := 18) hx hb hK hW rfl (z_ix rfl (by omega) (by omega)) dX9_amountOf_21 ?_
  refine lv_topi (fun x16 ex16 => ?_)
  have h17 : x16.toInt = (I 18 a1.toNatClampNeg).toInt := by rw [ex16, fI6 18 a1.toNatClampNeg (z_wr_c (by decide))]
  refine lv_sipush (v := 303) hx hb dX9_amountOf_22 (by decide) ?_
  refine lv_icmp_ne (tgt := 32) hx hb dX9_amountOf_25 (by decide) (fun c18 => ?_) (fun c18 => ?_)
  · have g19 := z_f_ne rfl z_l303 c18
    have b20 := Int32.toInt_lt x16
    refine lv_iconst (v := 0) hx hb dX9_amountOf_32 (by decide) ?_
    refine lv_istore_n (lv' := [(2, .int 0), (0, .ref (ad 12)), (1, .int a1)]) hx hb dX9_amountOf_33 rfl hl (by decide) rfl (fun ls hl => ?_)
    refine lv_aload_n hx hb dX9_amountOf_34 rfl (lv_at hl 1 rfl) ?_
    refine z_get (T := TX9) (N := 14) (ci := 9) (i := 12) (v := .int (I6 12 7)) hx hb hts zj_X9_amountOf_X9 hown hK hW rfl rfl 7 (by decide) (hts (.fieldLink RX9 62 "PetrolBoard$Reader" "token" "I") (me_s (me_l (List.mem_of_getElem? (i := 1) rfl)))) (fun _ h => h) rfl dX9_amountOf_35 ?_
    refine lv_sipush (v := 400) hx hb dX9_amountOf_38 (by decide) ?_
    refine lv_icmp_ne (tgt := 52) hx hb dX9_amountOf_41 (by decide) (fun c21 => ?_) (fun c21 => ?_)
    · have g22 := z_f_ne rfl z_l400 c21
      have b23 := Int32.toInt_lt (I6 12 7)
      refine lv_iconst (v := 0) hx hb dX9_amountOf_52 (by decide) ?_
      exact z_zret hx hb hr (by decide) hK hS (Nat.le_of_ble_eq_true rfl) (Nat.le_of_ble_eq_true rfl) hlocks dX9_amountOf_53 (shC c, ad, I6, JX, PC c ad) hW ⟨I6, rfl, ⟨(by show 0 ≤ (I6 12 1).toInt ∧ (I6 12 1).toInt ≤ 500; exact hI6R.1), (by show 0 ≤ (I6 12 5).toInt ∧ (I6 12 5).toInt ≤ 501; exact hI6R.2.1), (by show (-1) ≤ (I6 12 6).toInt ∧ (I6 12 6).toInt ≤ 1000000; exact hI6R.2.2.1), (by show 0 ≤ (I6 12 9).toInt ∧ (I6 12 9).toInt ≤ 500; exact hI6R.2.2.2.1), (by show 0 ≤ (I6 12 13).toInt ∧ (I6 12 13).toInt ≤ 24; exact hI6R.2.2.2.2)⟩, (by show (I6 12 6).toInt ≤ 501 ∧ ((I6 12 7).toInt = 401 ∨ (I6 12 6).toInt ≤ 500); first | omega | decide), f7, (Or.inr ⟨rfl, zr_F_0 hM9, Or.inl (by omega)⟩)⟩
    · have g24 := z_f_eq rfl z_l400 c21
      have b25 := Int32.toInt_lt (I6 12 7)
      refine lv_aload_n hx hb dX9_amountOf_44 rfl (lv_at hl 1 rfl) ?_
      refine z_ci hW hS hA (va_runV (As := []) (rest := []) ⟨hx, hb, hml, hown, hts⟩ (sx_X9_numberHere_x l G ad c I6 ⟨(by show 0 ≤ (I6 12 1).toInt ∧ (I6 12 1).toInt ≤ 500; exact hI6R.1), (by show 0 ≤ (I6 12 5).toInt ∧ (I6 12 5).toInt ≤ 501; exact hI6R.2.1), (by show (-1) ≤ (I6 12 6).toInt ∧ (I6 12 6).toInt ≤ 1000000; exact hI6R.2.2.1), (by show 0 ≤ (I6 12 9).toInt ∧ (I6 12 9).toInt ≤ 500; exact hI6R.2.2.2.1), (by show 0 ≤ (I6 12 13).toInt ∧ (I6 12 13).toInt ≤ 24; exact hI6R.2.2.2.2)⟩ (k + 1)  (zr_P_m hP hM9 (by omega))  _) (cwV 0 hts gX9_amountOf_X9_numberHere rfl rfl rfl (by decide +kernel) ⟨Nat.le_of_ble_eq_true rfl, Nat.le_of_ble_eq_true rfl⟩) (z_preV (i := 12) hK hW rfl rfl) rfl rfl hl.1 rfl (lv_room (Nat.le_of_ble_eq_true rfl)) dX9_amountOf_45 ⟨Nat.le_of_ble_eq_true rfl, Nat.le_of_ble_eq_true rfl⟩) (fun r u1 H locs hp hW hS => ?_)
      obtain ⟨e9, hp⟩ := hp
      rw [e9] at hW
      refine lv_topi (fun x26 ex26 => ?_)
      have h27 := hp
      rw [← ex26, zr_vaS hM9] at h27
      refine lv_iload_n hx hb dX9_amountOf_48 rfl (lv_at hl 0 rfl) ?_
      refine lv_icmp_ge (tgt := 54) hx hb dX9_amountOf_49 (by decide) (fun c28 => ?_) (fun c28 => ?_)
      · have g29 := z_f_ge rfl z_l0 c28
        have b30 := Int32.toInt_lt x26
        refine lv_aload_n hx hb dX9_amountOf_54 rfl (lv_at hl 1 rfl) ?_
        refine z_get (T := TX9) (N := 14) (ci := 9) (i := 12) (v := .ref (ad 19)) hx hb hts zj_X9_amountOf_X9 hown hK hW rfl rfl 11 (by decide) (hts (.fieldLink RX9 30 "PetrolBoard$Reader" "first" "[I") (me_s (me_l (List.mem_of_getElem? (i := 2) rfl)))) (fun _ h => h) rfl dX9_amountOf_55 ?_
        refine lv_iload_n hx hb dX9_amountOf_58 rfl (lv_at hl 2 rfl) ?_
        refine lv_aload_n hx hb dX9_amountOf_59 rfl (lv_at hl 1 rfl) ?_
        refine z_ci hW hS hA (va_runV (As := []) (rest := [.int a1, .ref (ad 19)]) ⟨hx, hb, hml, hown, hts⟩ (sx_X9_numberHere_x l G ad c I6 ⟨(by show 0 ≤ (I6 12 1).toInt ∧ (I6 12 1).toInt ≤ 500; exact hI6R.1), (by show 0 ≤ (I6 12 5).toInt ∧ (I6 12 5).toInt ≤ 501; exact hI6R.2.1), (by show (-1) ≤ (I6 12 6).toInt ∧ (I6 12 6).toInt ≤ 1000000; exact hI6R.2.2.1), (by show 0 ≤ (I6 12 9).toInt ∧ (I6 12 9).toInt ≤ 500; exact hI6R.2.2.2.1), (by show 0 ≤ (I6 12 13).toInt ∧ (I6 12 13).toInt ≤ 24; exact hI6R.2.2.2.2)⟩ (k + 1)  (zr_P_m hP hM9 (by omega))  _) (cwV 0 hts gX9_amountOf_X9_numberHere rfl rfl rfl (by decide +kernel) ⟨Nat.le_of_ble_eq_true rfl, Nat.le_of_ble_eq_true rfl⟩) (z_preV (i := 12) hK hW rfl rfl) rfl rfl hl.1 rfl (lv_room (Nat.le_of_ble_eq_true rfl)) dX9_amountOf_60 ⟨Nat.le_of_ble_eq_true rfl, Nat.le_of_ble_eq_true rfl⟩) (fun r u1 H locs hp hW hS => ?_)
        obtain ⟨e9, hp⟩ := hp
        rw [e9] at hW
        refine lv_topi (fun x31 ex31 => ?_)
        have h32 := hp
        rw [← ex31, zr_vaS hM9] at h32
        refine z_iast (i := 19) hx hb hK hW hS rfl (z_ix rfl (by omega) (by omega)) dX9_amountOf_63 (fun H locs hz1 hW hS => ?_)
        obtain ⟨I33, eI33⟩ : ∃ K : z_I, K = z_up I6 19 a1.toNatClampNeg x31 := ⟨_, rfl⟩
        rw [← eI33] at hW
        have f34 := z_fr_a f7 (show z_wa L_X9_amountOf_x 19 = true by decide) eI33
        have hM35 := zr_M_w hM9 (by decide) eI33
        have h36 := hM35.1
        have h37 := hM35.2.1
        have h38 := hM35.2.2.1
        have h39 := hM35.2.2.2.1
        have l40 : (([] : List Int) : List Int).length = 0 := rfl
        refine lv_aload_n hx hb dX9_amountOf_64 rfl (lv_at hl 1 rfl) ?_
        have q41 := zr_Q_n (zr_Q_m hP hM35) (by rw [zr_tkS hM35]; omega)
        refine z_cv hW hS hA (va_runV (As := []) (rest := []) ⟨hx, hb, hml, hown, hts⟩ (sx_X9_step_x l G ad c I33 ⟨(by show 0 ≤ (I33 12 1).toInt ∧ (I33 12 1).toInt ≤ 500; rw [eI33, z_up_n (by decide)]; exact hI6R.1), (by show 0 ≤ (I33 12 5).toInt ∧ (I33 12 5).toInt ≤ 501; rw [eI33, z_up_n (by decide)]; exact hI6R.2.1), (by show (-1) ≤ (I33 12 6).toInt ∧ (I33 12 6).toInt ≤ 1000000; rw [eI33, z_up_n (by decide)]; exact hI6R.2.2.1), (by show 0 ≤ (I33 12 9).toInt ∧ (I33 12 9).toInt ≤ 500; rw [eI33, z_up_n (by decide)]; exact hI6R.2.2.2.1), (by show 0 ≤ (I33 12 13).toInt ∧ (I33 12 13).toInt ≤ 24; rw [eI33, z_up_n (by decide)]; exact hI6R.2.2.2.2)⟩ ((k + 1) + 1) q41 _) (cwV 0 hts gX9_amountOf_X9_step rfl rfl rfl (by decide +kernel) ⟨Nat.le_of_ble_eq_true rfl, Nat.le_of_ble_eq_true rfl⟩) (z_preV (i := 12) hK hW rfl rfl) rfl rfl hl.1 rfl (lv_room (Nat.le_of_ble_eq_true rfl)) dX9_amountOf_65 ⟨Nat.le_of_ble_eq_true rfl, Nat.le_of_ble_eq_true rfl⟩) (fun u1 H locs hp hW hS => ?_)
        obtain ⟨I42, e9, hI42R, hI42T, fI42, hp⟩ := hp
        rw [e9] at hW
        have f43 := z_fr_sub (L := L_X9_amountOf_x) f34 fI42 (by decide)
        have k44 : (I42 12 6).toInt ≤ 501 ∧ ((I42 12 7).toInt = 401 ∨ (I42 12 6).toInt ≤ 500) := hI42T
        have hM45 := zr_M_s hM35 hp hP.2.2.2.2.1
        have h46 := hM45.1
        have h47 := hM45.2.1
        have h48 := hM45.2.2.1
        have h49 := hM45.2.2.2.1
        have l50 : (([] : List Int) : List Int).length = 0 := rfl
        refine lv_iconst (v := 1) hx hb dX9_amountOf_68 (by decide) ?_
        exact z_zret hx hb hr (by decide) hK hS (Nat.le_of_ble_eq_true rfl) (Nat.le_of_ble_eq_true rfl) hlocks dX9_amountOf_69 (shC c, ad, I42, JX, PC c ad) hW ⟨I42, rfl, ⟨(by show 0 ≤ (I42 12 1).toInt ∧ (I42 12 1).toInt ≤ 500; exact hI42R.1), (by show 0 ≤ (I42 12 5).toInt ∧ (I42 12 5).toInt ≤ 501; exact hI42R.2.1), (by show (-1) ≤ (I42 12 6).toInt ∧ (I42 12 6).toInt ≤ 1000000; exact hI42R.2.2.1), (by show 0 ≤ (I42 12 9).toInt ∧ (I42 12 9).toInt ≤ 500; exact hI42R.2.2.2.1), (by show 0 ≤ (I42 12 13).toInt ∧ (I42 12 13).toInt ≤ 24; exact hI42R.2.2.2.2)⟩, (by show (I42 12 6).toInt ≤ 501 ∧ ((I42 12 7).toInt = 401 ∨ (I42 12 6).toInt ≤ 500); first | omega | decide), f43, (Or.inl ⟨rfl, by omega, fun z => by omega, hM45, (by rw [show I42 19 a1.toNatClampNeg = x31 from (by rw [fI42 19 a1.toNatClampNeg (z_wr_c (by decide)), eI33, z_up_s])] <;> omega), fun j hj => by rw [fI42 19 j (z_wr_c (by decide)), eI33, z_up_k hj, fI6 19 j (z_wr_c (by decide))]⟩)⟩
      · have g51 := z_f_nge rfl z_l0 c28
        have b52 := Int32.toInt_lt x26
        refine lv_iconst (v := 0) hx hb dX9_amountOf_52 (by decide) ?_
        exact z_zret hx hb hr (by decide) hK hS (Nat.le_of_ble_eq_true rfl) (Nat.le_of_ble_eq_true rfl) hlocks dX9_amountOf_53 (shC c, ad, I6, JX, PC c ad) hW ⟨I6, rfl, ⟨(by show 0 ≤ (I6 12 1).toInt ∧ (I6 12 1).toInt ≤ 500; exact hI6R.1), (by show 0 ≤ (I6 12 5).toInt ∧ (I6 12 5).toInt ≤ 501; exact hI6R.2.1), (by show (-1) ≤ (I6 12 6).toInt ∧ (I6 12 6).toInt ≤ 1000000; exact hI6R.2.2.1), (by show 0 ≤ (I6 12 9).toInt ∧ (I6 12 9).toInt ≤ 500; exact hI6R.2.2.2.1), (by show 0 ≤ (I6 12 13).toInt ∧ (I6 12 13).toInt ≤ 24; exact hI6R.2.2.2.2)⟩, (by show (I6 12 6).toInt ≤ 501 ∧ ((I6 12 7).toInt = 401 ∨ (I6 12 6).toInt ≤ 500); first | omega | decide), f7, (False.elim (by have := hva (k + 1) (by omega); omega))⟩
  · have g53 := z_f_eq rfl z_l303 c18
    have b54 := Int32.toInt_lt x16
    refine lv_iconst (v := 1) hx hb dX9_amountOf_28 (by decide) ?_
    refine lv_goto (tgt := 33) hx hb dX9_amountOf_29 (by decide) ?_
    refine lv_istore_n (lv' := [(2, .int 1), (0, .ref (ad 12)), (1, .int a1)]) hx hb dX9_amountOf_33 rfl hl (by decide) rfl (fun ls hl => ?_)
    refine lv_aload_n hx hb dX9_amountOf_34 rfl (lv_at hl 1 rfl) ?_
    refine z_get (T := TX9) (N := 14) (ci := 9) (i := 12) (v := .int (I6 12 7)) hx hb hts zj_X9_amountOf_X9 hown hK hW rfl rfl 7 (by decide) (hts (.fieldLink RX9 62 "PetrolBoard$Reader" "token" "I") (me_s (me_l (List.mem_of_getElem? (i := 1) rfl)))) (fun _ h => h) rfl dX9_amountOf_35 ?_
    refine lv_sipush (v := 400) hx hb dX9_amountOf_38 (by decide) ?_
    refine lv_icmp_ne (tgt := 52) hx hb dX9_amountOf_41 (by decide) (fun c55 => ?_) (fun c55 => ?_)
    · have g56 := z_f_ne rfl z_l400 c55
      have b57 := Int32.toInt_lt (I6 12 7)
      refine lv_iconst (v := 0) hx hb dX9_amountOf_52 (by decide) ?_
      exact z_zret hx hb hr (by decide) hK hS (Nat.le_of_ble_eq_true rfl) (Nat.le_of_ble_eq_true rfl) hlocks dX9_amountOf_53 (shC c, ad, I6, JX, PC c ad) hW ⟨I6, rfl, ⟨(by show 0 ≤ (I6 12 1).toInt ∧ (I6 12 1).toInt ≤ 500; exact hI6R.1), (by show 0 ≤ (I6 12 5).toInt ∧ (I6 12 5).toInt ≤ 501; exact hI6R.2.1), (by show (-1) ≤ (I6 12 6).toInt ∧ (I6 12 6).toInt ≤ 1000000; exact hI6R.2.2.1), (by show 0 ≤ (I6 12 9).toInt ∧ (I6 12 9).toInt ≤ 500; exact hI6R.2.2.2.1), (by show 0 ≤ (I6 12 13).toInt ∧ (I6 12 13).toInt ≤ 24; exact hI6R.2.2.2.2)⟩, (by show (I6 12 6).toInt ≤ 501 ∧ ((I6 12 7).toInt = 401 ∨ (I6 12 6).toInt ≤ 500); first | omega | decide), f7, (Or.inr ⟨rfl, zr_F_0 hM9, Or.inl (by omega)⟩)⟩
    · have g58 := z_f_eq rfl z_l400 c55
      have b59 := Int32.toInt_lt (I6 12 7)
      refine lv_aload_n hx hb dX9_amountOf_44 rfl (lv_at hl 1 rfl) ?_
      refine z_ci hW hS hA (va_runV (As := []) (rest := []) ⟨hx, hb, hml, hown, hts⟩ (sx_X9_numberHere_x l G ad c I6 ⟨(by show 0 ≤ (I6 12 1).toInt ∧ (I6 12 1).toInt ≤ 500; exact hI6R.1), (by show 0 ≤ (I6 12 5).toInt ∧ (I6 12 5).toInt ≤ 501; exact hI6R.2.1), (by show (-1) ≤ (I6 12 6).toInt ∧ (I6 12 6).toInt ≤ 1000000; exact hI6R.2.2.1), (by show 0 ≤ (I6 12 9).toInt ∧ (I6 12 9).toInt ≤ 500; exact hI6R.2.2.2.1), (by show 0 ≤ (I6 12 13).toInt ∧ (I6 12 13).toInt ≤ 24; exact hI6R.2.2.2.2)⟩ (k + 1)  (zr_P_m hP hM9 (by omega))  _) (cwV 0 hts gX9_amountOf_X9_numberHere rfl rfl rfl (by decide +kernel) ⟨Nat.le_of_ble_eq_true rfl, Nat.le_of_ble_eq_true rfl⟩) (z_preV (i := 12) hK hW rfl rfl) rfl rfl hl.1 rfl (lv_room (Nat.le_of_ble_eq_true rfl)) dX9_amountOf_45 ⟨Nat.le_of_ble_eq_true rfl, Nat.le_of_ble_eq_true rfl⟩) (fun r u1 H locs hp hW hS => ?_)
      obtain ⟨e9, hp⟩ := hp
      rw [e9] at hW
      refine lv_topi (fun x60 ex60 => ?_)
      have h61 := hp
      rw [← ex60, zr_vaS hM9] at h61
      refine lv_iload_n hx hb dX9_amountOf_48 rfl (lv_at hl 0 rfl) ?_
      refine lv_icmp_ge (tgt := 54) hx hb dX9_amountOf_49 (by decide) (fun c62 => ?_) (fun c62 => ?_)
      · have g63 := z_f_ge rfl z_l1 c62
        have b64 := Int32.toInt_lt x60
        refine lv_aload_n hx hb dX9_amountOf_54 rfl (lv_at hl 1 rfl) ?_
        refine z_get (T := TX9) (N := 14) (ci := 9) (i := 12) (v := .ref (ad 19)) hx hb hts zj_X9_amountOf_X9 hown hK hW rfl rfl 11 (by decide) (hts (.fieldLink RX9 30 "PetrolBoard$Reader" "first" "[I") (me_s (me_l (List.mem_of_getElem? (i := 2) rfl)))) (fun _ h => h) rfl dX9_amountOf_55 ?_
        refine lv_iload_n hx hb dX9_amountOf_58 rfl (lv_at hl 2 rfl) ?_
        refine lv_aload_n hx hb dX9_amountOf_59 rfl (lv_at hl 1 rfl) ?_
        refine z_ci hW hS hA (va_runV (As := []) (rest := [.int a1, .ref (ad 19)]) ⟨hx, hb, hml, hown, hts⟩ (sx_X9_numberHere_x l G ad c I6 ⟨(by show 0 ≤ (I6 12 1).toInt ∧ (I6 12 1).toInt ≤ 500; exact hI6R.1), (by show 0 ≤ (I6 12 5).toInt ∧ (I6 12 5).toInt ≤ 501; exact hI6R.2.1), (by show (-1) ≤ (I6 12 6).toInt ∧ (I6 12 6).toInt ≤ 1000000; exact hI6R.2.2.1), (by show 0 ≤ (I6 12 9).toInt ∧ (I6 12 9).toInt ≤ 500; exact hI6R.2.2.2.1), (by show 0 ≤ (I6 12 13).toInt ∧ (I6 12 13).toInt ≤ 24; exact hI6R.2.2.2.2)⟩ (k + 1)  (zr_P_m hP hM9 (by omega))  _) (cwV 0 hts gX9_amountOf_X9_numberHere rfl rfl rfl (by decide +kernel) ⟨Nat.le_of_ble_eq_true rfl, Nat.le_of_ble_eq_true rfl⟩) (z_preV (i := 12) hK hW rfl rfl) rfl rfl hl.1 rfl (lv_room (Nat.le_of_ble_eq_true rfl)) dX9_amountOf_60 ⟨Nat.le_of_ble_eq_true rfl, Nat.le_of_ble_eq_true rfl⟩) (fun r u1 H locs hp hW hS => ?_)
        obtain ⟨e9, hp⟩ := hp
        rw [e9] at hW
        refine lv_topi (fun x65 ex65 => ?_)
        have h66 := hp
        rw [← ex65, zr_vaS hM9] at h66
        refine z_iast (i := 19) hx hb hK hW hS rfl (z_ix rfl (by omega) (by omega)) dX9_amountOf_63 (fun H locs hz1 hW hS => ?_)
        obtain ⟨I67, eI67⟩ : ∃ K : z_I, K = z_up I6 19 a1.toNatClampNeg x65 := ⟨_, rfl⟩
        rw [← eI67] at hW
        have f68 := z_fr_a f7 (show z_wa L_X9_amountOf_x 19 = true by decide) eI67
        have hM69 := zr_M_w hM9 (by decide) eI67
        have h70 := hM69.1
        have h71 := hM69.2.1
        have h72 := hM69.2.2.1
        have h73 := hM69.2.2.2.1
        have l74 : (([] : List Int) : List Int).length = 0 := rfl
        refine lv_aload_n hx hb dX9_amountOf_64 rfl (lv_at hl 1 rfl) ?_
        have q75 := zr_Q_n (zr_Q_m hP hM69) (by rw [zr_tkS hM69]; omega)
        refine z_cv hW hS hA (va_runV (As := []) (rest := []) ⟨hx, hb, hml, hown, hts⟩ (sx_X9_step_x l G ad c I67 ⟨(by show 0 ≤ (I67 12 1).toInt ∧ (I67 12 1).toInt ≤ 500; rw [eI67, z_up_n (by decide)]; exact hI6R.1), (by show 0 ≤ (I67 12 5).toInt ∧ (I67 12 5).toInt ≤ 501; rw [eI67, z_up_n (by decide)]; exact hI6R.2.1), (by show (-1) ≤ (I67 12 6).toInt ∧ (I67 12 6).toInt ≤ 1000000; rw [eI67, z_up_n (by decide)]; exact hI6R.2.2.1), (by show 0 ≤ (I67 12 9).toInt ∧ (I67 12 9).toInt ≤ 500; rw [eI67, z_up_n (by decide)]; exact hI6R.2.2.2.1), (by show 0 ≤ (I67 12 13).toInt ∧ (I67 12 13).toInt ≤ 24; rw [eI67, z_up_n (by decide)]; exact hI6R.2.2.2.2)⟩ ((k + 1) + 1) q75 _) (cwV 0 hts gX9_amountOf_X9_step rfl rfl rfl (by decide +kernel) ⟨Nat.le_of_ble_eq_true rfl, Nat.le_of_ble_eq_true rfl⟩) (z_preV (i := 12) hK hW rfl rfl) rfl rfl hl.1 rfl (lv_room (Nat.le_of_ble_eq_true rfl)) dX9_amountOf_65 ⟨Nat.le_of_ble_eq_true rfl, Nat.le_of_ble_eq_true rfl⟩) (fun u1 H locs hp hW hS => ?_)
        obtain ⟨I76, e9, hI76R, hI76T, fI76, hp⟩ := hp
        rw [e9] at hW
        have f77 := z_fr_sub (L := L_X9_amountOf_x) f68 fI76 (by decide)
        have k78 : (I76 12 6).toInt ≤ 501 ∧ ((I76 12 7).toInt = 401 ∨ (I76 12 6).toInt ≤ 500) := hI76T
        have hM79 := zr_M_s hM69 hp hP.2.2.2.2.1
        have h80 := hM79.1
        have h81 := hM79.2.1
        have h82 := hM79.2.2.1
        have h83 := hM79.2.2.2.1
        have l84 : (([] : List Int) : List Int).length = 0 := rfl
        refine lv_iconst (v := 1) hx hb dX9_amountOf_68 (by decide) ?_
        exact z_zret hx hb hr (by decide) hK hS (Nat.le_of_ble_eq_true rfl) (Nat.le_of_ble_eq_true rfl) hlocks dX9_amountOf_69 (shC c, ad, I76, JX, PC c ad) hW ⟨I76, rfl, ⟨(by show 0 ≤ (I76 12 1).toInt ∧ (I76 12 1).toInt ≤ 500; exact hI76R.1), (by show 0 ≤ (I76 12 5).toInt ∧ (I76 12 5).toInt ≤ 501; exact hI76R.2.1), (by show (-1) ≤ (I76 12 6).toInt ∧ (I76 12 6).toInt ≤ 1000000; exact hI76R.2.2.1), (by show 0 ≤ (I76 12 9).toInt ∧ (I76 12 9).toInt ≤ 500; exact hI76R.2.2.2.1), (by show 0 ≤ (I76 12 13).toInt ∧ (I76 12 13).toInt ≤ 24; exact hI76R.2.2.2.2)⟩, (by show (I76 12 6).toInt ≤ 501 ∧ ((I76 12 7).toInt = 401 ∨ (I76 12 6).toInt ≤ 500); first | omega | decide), f77, (Or.inl ⟨rfl, by omega, fun z => by omega, hM79, (by rw [show I76 19 a1.toNatClampNeg = x65 from (by rw [fI76 19 a1.toNatClampNeg (z_wr_c (by decide)), eI67, z_up_s])] <;> omega), fun j hj => by rw [fI76 19 j (z_wr_c (by decide)), eI67, z_up_k hj, fI6 19 j (z_wr_c (by decide))]⟩)⟩
      · have g85 := z_f_nge rfl z_l1 c62
        have b86 := Int32.toInt_lt x60
        refine lv_iconst (v := 0) hx hb dX9_amountOf_52 (by decide) ?_
        exact z_zret hx hb hr (by decide) hK hS (Nat.le_of_ble_eq_true rfl) (Nat.le_of_ble_eq_true rfl) hlocks dX9_amountOf_53 (shC c, ad, I6, JX, PC c ad) hW ⟨I6, rfl, ⟨(by show 0 ≤ (I6 12 1).toInt ∧ (I6 12 1).toInt ≤ 500; exact hI6R.1), (by show 0 ≤ (I6 12 5).toInt ∧ (I6 12 5).toInt ≤ 501; exact hI6R.2.1), (by show (-1) ≤ (I6 12 6).toInt ∧ (I6 12 6).toInt ≤ 1000000; exact hI6R.2.2.1), (by show 0 ≤ (I6 12 9).toInt ∧ (I6 12 9).toInt ≤ 500; exact hI6R.2.2.2.1), (by show 0 ≤ (I6 12 13).toInt ∧ (I6 12 13).toInt ≤ 24; exact hI6R.2.2.2.2)⟩, (by show (I6 12 6).toInt ≤ 501 ∧ ((I6 12 7).toInt = 401 ∨ (I6 12 6).toInt ≤ 500); first | omega | decide), f7, (Or.inr ⟨rfl, zr_F_0 hM9, Or.inr ⟨by omega, by omega⟩⟩)⟩
noncomputable def L_X9_statement_x : z_L := [(12, 6), (12, 7), (17, 999), (12, 9), (20, 999), (19, 999), (18, 999)]
set_option maxHeartbeats 8000000 in
set_option maxRecDepth 100000 in
theorem sx_X9_statement_x (l : Launch) (G : z_G) (ad : Nat → Nat) (c : z_C) (I : z_I) (hR : z_iR I) (hT : z_iT I) (k : Nat) (a1 : Int32) (hP : zr_P I k) (hk9 : 0 ≤ a1.toInt ∧ a1.toInt ≤ 23) (hva : ∀ k, zr_tk I k = 400 → 0 ≤ zr_va I k ∧ zr_va I k ≤ 999999) : z_M l yX9_statement wsX9_statement { frames := 86, cells := 0, slots := 0, locals := 1880 } [.ref (ad 12), .int a1] G (shC c, ad, I, JX, PC c ad) (fun r u1 => ∃ I1 : z_I, u1 = (shC c, ad, I1, JX, PC c ad) ∧ z_iR I1 ∧ z_iT I1 ∧ z_fr L_X9_statement_x I1 I ∧ ((r = 1 ∧ ∃ (k1 : Nat) (s : zp_T) (cs : List Int), zr_M I I1 k1 cs ∧ k < k1 ∧ cs.length + k ≤ k1 ∧ zp_sm (zr_tk I) (zr_va I) k k1 s ∧ zr_row I1 a1.toNatClampNeg s ∧ zr_os I I1 a1.toNatClampNeg) ∨ (r = 0 ∧ ∃ f, zr_F I I1 f ∧ zp_sn (zr_tk I) (zr_va I) k f))) 0 0 := by
  intro sz
  refine z_headQ (cc := cX9_statement) (maxL := 2) (ret := (some .boolean)) (by decide) rfl (Nat.le_of_ble_eq_true rfl) ?_
  intro p e s m below meth c0 ls hIn hK hsz hW hl
  obtain ⟨hx, hb, hr, hml, hown, hts, hlocks, hname⟩ := hIn
  subst hsz
  have hown : s.vm.findClass RX9 = some m.cls := hown
  have hA : ∀ q : Nat, s.heap.size ≤ q → z_A (shC c, ad, I, JX, PC c ad) s.heap.size q := fun q h => Or.inr h
  generalize hAe : z_A (shC c, ad, I, JX, PC c ad) s.heap.size = A at *
  have hS : va_S A s.heap s.heap [] := va_S.rf
  have hl : lv_has ls 2 [(0, .ref (ad 12)), (1, .int a1)] := hl
  have hM0 := zr_M_0 hP
  have hP1 := hP.1
  have hP2 := hP.2.1
  have hP3 := hP.2.2.1
  have hP4 := hP.2.2.2.1
  have hP5 := hP.2.2.2.2.1
  have hP6 := hP.2.2.2.2.2.1
  have hlz : ([] : List Int).length = 0 := rfl
  have kT : (I 12 6).toInt ≤ 501 ∧ ((I 12 7).toInt = 401 ∨ (I 12 6).toInt ≤ 500) := hT
  refine lv_iload_n hx hb dX9_statement_0 rfl (lv_at hl 1 rfl) ?_
  refine lv_if_lt (tgt := 10) hx hb dX9_statement_1 (by decide) (fun c1 => (by have g := z_f_lt rfl z_l0 c1; omega)) (fun c1 => ?_)
  have g2 := z_f_nlt rfl z_l0 c1
  refine lv_iload_n hx hb dX9_statement_4 rfl (lv_at hl 1 rfl) ?_
  refine lv_bipush (v := 24) hx hb dX9_statement_5 (by decide) ?_
  refine lv_icmp_lt (tgt := 12) hx hb dX9_statement_7 (by decide) (fun c3 => ?_) (fun c3 => (by have g := z_f_nlt rfl z_l24 c3; omega))
  have g4 := z_f_lt rfl z_l24 c3
  refine lv_aload_n hx hb dX9_statement_12 rfl (lv_at hl 0 rfl) ?_
  refine z_get (T := TX9) (N := 14) (ci := 9) (i := 12) (v := .ref (ad 18)) hx hb hts zj_X9_statement_X9 hown hK hW rfl rfl 10 (by decide) (hts (.fieldLink RX9 27 "PetrolBoard$Reader" "head" "[I") (me_s (me_l (me_l (List.mem_of_getElem? (i := 0) rfl))))) (fun _ h => h) rfl dX9_statement_13 ?_
  refine lv_iload_n hx hb dX9_statement_16 rfl (lv_at hl 1 rfl) ?_
  refine lv_aload_n hx hb dX9_statement_17 rfl (lv_at hl 0 rfl) ?_
  refine z_get (T := TX9) (N := 14) (ci := 9) (i := 12) (v := .int (I 12 7)) hx hb hts zj_X9_statement_X9 hown hK hW rfl rfl 7 (by decide) (hts (.fieldLink RX9 62 "PetrolBoard$Reader" "token" "I") (me_s (me_l (me_l (List.mem_of_getElem? (i := 1) rfl))))) (fun _ h => h) rfl dX9_statement_18 ?_
  refine z_iast (i := 18) hx hb hK hW hS rfl (z_ix rfl (by omega) (by omega)) dX9_statement_21 (fun H locs hz1 hW hS => ?_)
  obtain ⟨I5, eI5⟩ : ∃ K : z_I, K = z_up I 18 a1.toNatClampNeg (I 12 7) := ⟨_, rfl⟩
  rw [← eI5] at hW
  have f6 := z_fr_a z_fr_0 (show z_wa L_X9_statement_x 18 = true by decide) eI5
  have hM7 := zr_M_w hM0 (by decide) eI5
  have h8 := hM7.1
  have h9 := hM7.2.1
  have h11 := hM7.2.2.1
  have h12 := hM7.2.2.2.1
  have l13 : (([] : List Int) : List Int).length = 0 := rfl
  refine lv_aload_n hx hb dX9_statement_22 rfl (lv_at hl 0 rfl) ?_
  refine z_get (T := TX9) (N := 14) (ci := 9) (i := 12) (v := .ref (ad 19)) hx hb hts zj_X9_statement_X9 hown hK hW rfl rfl 11 (by decide) (hts (.fieldLink RX9 30 "PetrolBoard$Reader" "first" "[I") (me_s (me_l (me_l (List.mem_of_getElem? (i := 2) rfl))))) (fun _ h => h) rfl dX9_statement_23 ?_
  refine lv_iload_n hx hb dX9_statement_26 rfl (lv_at hl 1 rfl) ?_
  refine lv_aload_n hx hb dX9_statement_27 rfl (lv_at hl 0 rfl) ?_
  have r14 : 0 ≤ (I 12 9).toInt ∧ (I 12 9).toInt ≤ 500 := hR.2.2.2.1
  refine z_get (T := TX9) (N := 14) (ci := 9) (i := 12) (v := .int (I 12 9)) hx hb hts zj_X9_statement_X9 hown hK hW rfl rfl 9 (by decide) (hts (.fieldLink RX9 50 "PetrolBoard$Reader" "used" "I") (me_s (me_l (me_l (List.mem_of_getElem? (i := 3) rfl))))) (fun _ h => h) (congrArg Value.int (by rw [eI5, z_up_n (by decide)])) dX9_statement_28 ?_
  refine z_iast (i := 19) hx hb hK hW hS rfl (z_ix rfl (by omega) (by omega)) dX9_statement_31 (fun H locs hz1 hW hS => ?_)
  obtain ⟨I15, eI15⟩ : ∃ K : z_I, K = z_up I5 19 a1.toNatClampNeg (I 12 9) := ⟨_, rfl⟩
  rw [← eI15] at hW
  have f16 := z_fr_a f6 (show z_wa L_X9_statement_x 19 = true by decide) eI15
  have hM17 := zr_M_w hM7 (by decide) eI15
  have h18 := hM17.1
  have h19 := hM17.2.1
  have h20 := hM17.2.2.1
  have h21 := hM17.2.2.2.1
  have l22 : (([] : List Int) : List Int).length = 0 := rfl
  refine lv_aload_n hx hb dX9_statement_32 rfl (lv_at hl 0 rfl) ?_
  refine z_get (T := TX9) (N := 14) (ci := 9) (i := 12) (v := .ref (ad 20)) hx hb hts zj_X9_statement_X9 hown hK hW rfl rfl 12 (by decide) (hts (.fieldLink RX9 33 "PetrolBoard$Reader" "second" "[I") (me_s (me_l (me_l (List.mem_of_getElem? (i := 4) rfl))))) (fun _ h => h) rfl dX9_statement_33 ?_
  refine lv_iload_n hx hb dX9_statement_36 rfl (lv_at hl 1 rfl) ?_
  refine lv_iconst (v := (-1)) hx hb dX9_statement_37 (by decide) ?_
  refine z_iast (i := 20) hx hb hK hW hS rfl (z_ix rfl (by omega) (by omega)) dX9_statement_38 (fun H locs hz1 hW hS => ?_)
  obtain ⟨I23, eI23⟩ : ∃ K : z_I, K = z_up I15 20 a1.toNatClampNeg (-1) := ⟨_, rfl⟩
  rw [← eI23] at hW
  have f24 := z_fr_a f16 (show z_wa L_X9_statement_x 20 = true by decide) eI23
  have hM25 := zr_M_w hM17 (by decide) eI23
  have h26 := hM25.1
  have h27 := hM25.2.1
  have h28 := hM25.2.2.1
  have h29 := hM25.2.2.2.1
  have l30 : (([] : List Int) : List Int).length = 0 := rfl
  refine lv_aload_n hx hb dX9_statement_39 rfl (lv_at hl 0 rfl) ?_
  refine z_get (T := TX9) (N := 14) (ci := 9) (i := 12) (v := .int (I 12 7)) hx hb hts zj_X9_statement_X9 hown hK hW rfl rfl 7 (by decide) (hts (.fieldLink RX9 62 "PetrolBoard$Reader" "token" "I") (me_s (me_l (me_l (List.mem_of_getElem? (i := 1) rfl))))) (fun _ h => h) (congrArg Value.int (by rw [eI23, z_up_n (by decide), eI15, z_up_n (by decide), eI5, z_up_n (by decide)])) dX9_statement_40 ?_
  refine lv_sipush (v := 300) hx hb dX9_statement_43 (by decide) ?_
  refine lv_icmp_eq (tgt := 59) hx hb dX9_statement_46 (by decide) (fun c31 => ?_) (fun c31 => ?_)
  · have g32 := z_f_eq rfl z_l300 c31
    have b33 := Int32.toInt_lt (I 12 7)
    refine lv_aload_n hx hb dX9_statement_59 rfl (lv_at hl 0 rfl) ?_
    have q34 := zr_Q_n (zr_Q_m hP hM25) (by rw [zr_tkS hM25]; omega)
    refine z_cv hW hS hA (va_runV (As := []) (rest := []) ⟨hx, hb, hml, hown, hts⟩ (sx_X9_step_x l G ad c I23 ⟨(by show 0 ≤ (I23 12 1).toInt ∧ (I23 12 1).toInt ≤ 500; rw [eI23, z_up_n (by decide), eI15, z_up_n (by decide), eI5, z_up_n (by decide)]; exact hR.1), (by show 0 ≤ (I23 12 5).toInt ∧ (I23 12 5).toInt ≤ 501; rw [eI23, z_up_n (by decide), eI15, z_up_n (by decide), eI5, z_up_n (by decide)]; exact hR.2.1), (by show (-1) ≤ (I23 12 6).toInt ∧ (I23 12 6).toInt ≤ 1000000; rw [eI23, z_up_n (by decide), eI15, z_up_n (by decide), eI5, z_up_n (by decide)]; exact hR.2.2.1), (by show 0 ≤ (I23 12 9).toInt ∧ (I23 12 9).toInt ≤ 500; rw [eI23, z_up_n (by decide), eI15, z_up_n (by decide), eI5, z_up_n (by decide)]; exact hR.2.2.2.1), (by show 0 ≤ (I23 12 13).toInt ∧ (I23 12 13).toInt ≤ 24; rw [eI23, z_up_n (by decide), eI15, z_up_n (by decide), eI5, z_up_n (by decide)]; exact hR.2.2.2.2)⟩ (k + 1) q34 _) (cwV 0 hts gX9_statement_X9_step rfl rfl rfl (by decide +kernel) ⟨Nat.le_of_ble_eq_true rfl, Nat.le_of_ble_eq_true rfl⟩) (z_preV (i := 12) hK hW rfl rfl) rfl rfl hl.1 rfl (lv_room (Nat.le_of_ble_eq_true rfl)) dX9_statement_60 ⟨Nat.le_of_ble_eq_true rfl, Nat.le_of_ble_eq_true rfl⟩) (fun u1 H locs hp hW hS => ?_)
    obtain ⟨I35, e9, hI35R, hI35T, fI35, hp⟩ := hp
    rw [e9] at hW
    have f36 := z_fr_sub (L := L_X9_statement_x) f24 fI35 (by decide)
    have k37 : (I35 12 6).toInt ≤ 501 ∧ ((I35 12 7).toInt = 401 ∨ (I35 12 6).toInt ≤ 500) := hI35T
    have hM38 := zr_M_s hM25 hp hP.2.2.2.2.1
    have h39 := hM38.1
    have h40 := hM38.2.1
    have h41 := hM38.2.2.1
    have h42 := hM38.2.2.2.1
    have l43 : (([] : List Int) : List Int).length = 0 := rfl
    refine lv_aload_n hx hb dX9_statement_63 rfl (lv_at hl 0 rfl) ?_
    refine lv_iconst (v := 0) hx hb dX9_statement_64 (by decide) ?_
    refine z_ci hW hS hA (va_runV (As := [.int 0]) (rest := []) ⟨hx, hb, hml, hown, hts⟩ (sx_X9_sum_0x l G ad c I35 ⟨(by show 0 ≤ (I35 12 1).toInt ∧ (I35 12 1).toInt ≤ 500; exact hI35R.1), (by show 0 ≤ (I35 12 5).toInt ∧ (I35 12 5).toInt ≤ 501; exact hI35R.2.1), (by show (-1) ≤ (I35 12 6).toInt ∧ (I35 12 6).toInt ≤ 1000000; exact hI35R.2.2.1), (by show 0 ≤ (I35 12 9).toInt ∧ (I35 12 9).toInt ≤ 500; exact hI35R.2.2.2.1), (by show 0 ≤ (I35 12 13).toInt ∧ (I35 12 13).toInt ≤ 24; exact hI35R.2.2.2.2)⟩ (by show (I35 12 6).toInt ≤ 501 ∧ ((I35 12 7).toInt = 401 ∨ (I35 12 6).toInt ≤ 500); first | omega | decide) (k + 1) (zr_P_m hP hM38 (by omega)) _) (cwV 1 hts gX9_statement_X9_sum rfl rfl rfl (by decide +kernel) ⟨Nat.le_of_ble_eq_true rfl, Nat.le_of_ble_eq_true rfl⟩) (z_preV (i := 12) hK hW rfl rfl) rfl rfl hl.1 rfl (lv_room (Nat.le_of_ble_eq_true rfl)) dX9_statement_65 ⟨Nat.le_of_ble_eq_true rfl, Nat.le_of_ble_eq_true rfl⟩) (fun r u1 H locs hp hW hS => ?_)
    obtain ⟨I44, e9, hI44R, hI44T, fI44, hp⟩ := hp
    rw [e9] at hW
    have f45 := z_fr_sub (L := L_X9_statement_x) f36 fI44 (by decide)
    have k46 : (I44 12 6).toInt ≤ 501 ∧ ((I44 12 7).toInt = 401 ∨ (I44 12 6).toInt ≤ 500) := hI44T
    rcases hp with ⟨rfl, hq⟩ | ⟨rfl, hq⟩
    · obtain ⟨k47, cs48, hm49, h50, h51, h52⟩ := hq
      have ho53 := zr_okS hM38 h52
      have hM54 := (show zr_M I I44 k47 cs48 from zr_M_t hM38 hm49 hP.2.2.2.2.1)
      have h55 := hM54.1
      have h56 := hM54.2.1
      have h57 := hM54.2.2.1
      have h58 := hM54.2.2.2.1
      have l59 : (cs48).length = cs48.length := by first | rfl | (simp only [List.length_append, List.length_cons, List.length_nil] <;> omega)
      refine lv_if_ne (tgt := 73) hx hb dX9_statement_68 (by decide) (fun c60 => ?_) (fun c60 => absurd c60 (by decide))
      refine lv_aload_n hx hb dX9_statement_73 rfl (lv_at hl 0 rfl) ?_
      refine lv_bipush (v := (-13)) hx hb dX9_statement_74 (by decide) ?_
      refine z_cv hW hS hA (va_runV (As := [.int (-13)]) (rest := []) ⟨hx, hb, hml, hown, hts⟩ (sx_X9_emit_x l G ad c I44 ⟨(by show 0 ≤ (I44 12 1).toInt ∧ (I44 12 1).toInt ≤ 500; exact hI44R.1), (by show 0 ≤ (I44 12 5).toInt ∧ (I44 12 5).toInt ≤ 501; exact hI44R.2.1), (by show (-1) ≤ (I44 12 6).toInt ∧ (I44 12 6).toInt ≤ 1000000; exact hI44R.2.2.1), (by show 0 ≤ (I44 12 9).toInt ∧ (I44 12 9).toInt ≤ 500; exact hI44R.2.2.2.1), (by show 0 ≤ (I44 12 13).toInt ∧ (I44 12 13).toInt ≤ 24; exact hI44R.2.2.2.2)⟩ (-13) (by omega) _) (cwV 1 hts gX9_statement_X9_emit rfl rfl rfl (by decide +kernel) ⟨Nat.le_of_ble_eq_true rfl, Nat.le_of_ble_eq_true rfl⟩) (z_preV (i := 12) hK hW rfl rfl) rfl rfl hl.1 rfl (lv_room (Nat.le_of_ble_eq_true rfl)) dX9_statement_76 ⟨Nat.le_of_ble_eq_true rfl, Nat.le_of_ble_eq_true rfl⟩) (fun u1 H locs hp hW hS => ?_)
      obtain ⟨I61, e9, hI61R, fI61, hp⟩ := hp
      rw [e9] at hW
      have f62 := z_fr_sub (L := L_X9_statement_x) f45 fI61 (by decide)
      have k63 : (I61 12 6).toInt ≤ 501 ∧ ((I61 12 7).toInt = 401 ∨ (I61 12 6).toInt ≤ 500) := (by have q0 : (I61 12 6) = (I44 12 6) := (by rw [fI61 12 6 (by decide)]); have q1 : (I61 12 7) = (I44 12 7) := (by rw [fI61 12 7 (by decide)]); show (I61 12 6).toInt ≤ 501 ∧ ((I61 12 7).toInt = 401 ∨ (I61 12 6).toInt ≤ 500); rw [q0, q1]; first | omega | decide)
      have hM64 := zr_M_e hM54 hp (show ((-13) : Int32).toInt = (-13) by decide) hP.2.2.2.2.1
      have h65 := hM64.1
      have h66 := hM64.2.1
      have h67 := hM64.2.2.1
      have h68 := hM64.2.2.2.1
      have l69 : ((cs48 ++ [(-13)])).length = cs48.length + 1 := by first | rfl | (simp only [List.length_append, List.length_cons, List.length_nil] <;> omega)
      refine lv_aload_n hx hb dX9_statement_79 rfl (lv_at hl 0 rfl) ?_
      refine z_get (T := TX9) (N := 14) (ci := 9) (i := 12) (v := .int (I61 12 7)) hx hb hts zj_X9_statement_X9 hown hK hW rfl rfl 7 (by decide) (hts (.fieldLink RX9 62 "PetrolBoard$Reader" "token" "I") (me_s (me_l (me_l (List.mem_of_getElem? (i := 1) rfl))))) (fun _ h => h) rfl dX9_statement_80 ?_
      refine lv_sipush (v := 308) hx hb dX9_statement_83 (by decide) ?_
      refine lv_icmp_ne (tgt := 97) hx hb dX9_statement_86 (by decide) (fun c70 => ?_) (fun c70 => ?_)
      · have g71 := z_f_ne rfl z_l308 c70
        have b72 := Int32.toInt_lt (I61 12 7)
        refine lv_iconst (v := 1) hx hb dX9_statement_97 (by decide) ?_
        refine lv_goto (tgt := 102) hx hb dX9_statement_98 (by decide) ?_
        exact z_zret hx hb hr (by decide) hK hS (Nat.le_of_ble_eq_true rfl) (Nat.le_of_ble_eq_true rfl) hlocks dX9_statement_102 (shC c, ad, I61, JX, PC c ad) hW ⟨I61, rfl, ⟨(by show 0 ≤ (I61 12 1).toInt ∧ (I61 12 1).toInt ≤ 500; exact hI61R.1), (by show 0 ≤ (I61 12 5).toInt ∧ (I61 12 5).toInt ≤ 501; exact hI61R.2.1), (by show (-1) ≤ (I61 12 6).toInt ∧ (I61 12 6).toInt ≤ 1000000; exact hI61R.2.2.1), (by show 0 ≤ (I61 12 9).toInt ∧ (I61 12 9).toInt ≤ 500; exact hI61R.2.2.2.1), (by show 0 ≤ (I61 12 13).toInt ∧ (I61 12 13).toInt ≤ 24; exact hI61R.2.2.2.2)⟩, (by show (I61 12 6).toInt ≤ 501 ∧ ((I61 12 7).toInt = 401 ∨ (I61 12 6).toInt ≤ 500); first | omega | decide), f62, (Or.inl ⟨rfl, k47, (zr_tk I k, 0, cs48, []), (cs48 ++ [(-13)]), hM64, by omega, by omega, ⟨by show zr_tk I k = zr_tk I k; rfl, Or.inl ⟨by show zr_tk I k = 300 ∨ zr_tk I k = 301; omega, _, ho53, Or.inr ⟨by omega, rfl, rfl⟩⟩⟩, (zr_rowA hM64 hP.2.2.2.2.1 (by omega) (by rw [show I61 18 a1.toNatClampNeg = (I 12 7) from (by rw [fI61 18 a1.toNatClampNeg (z_wr_c (by decide)), fI44 18 a1.toNatClampNeg (z_wr_c (by decide)), fI35 18 a1.toNatClampNeg (z_wr_c (by decide)), eI23, z_up_n (by decide), eI15, z_up_n (by decide), eI5, z_up_s])] <;> omega) (by rw [show I61 19 a1.toNatClampNeg = (I 12 9) from (by rw [fI61 19 a1.toNatClampNeg (z_wr_c (by decide)), fI44 19 a1.toNatClampNeg (z_wr_c (by decide)), fI35 19 a1.toNatClampNeg (z_wr_c (by decide)), eI23, z_up_n (by decide), eI15, z_up_s])] <;> omega) (by have := z_lm1; rw [show I61 20 a1.toNatClampNeg = (-1) from (by rw [fI61 20 a1.toNatClampNeg (z_wr_c (by decide)), fI44 20 a1.toNatClampNeg (z_wr_c (by decide)), fI35 20 a1.toNatClampNeg (z_wr_c (by decide)), eI23, z_up_s])] <;> omega)), (fun j hj => ⟨by rw [fI61 18 j (z_wr_c (by decide)), fI44 18 j (z_wr_c (by decide)), fI35 18 j (z_wr_c (by decide)), eI23, z_up_n (by decide), eI15, z_up_n (by decide), eI5, z_up_k hj], by rw [fI61 19 j (z_wr_c (by decide)), fI44 19 j (z_wr_c (by decide)), fI35 19 j (z_wr_c (by decide)), eI23, z_up_n (by decide), eI15, z_up_k hj, eI5, z_up_n (by decide)], by rw [fI61 20 j (z_wr_c (by decide)), fI44 20 j (z_wr_c (by decide)), fI35 20 j (z_wr_c (by decide)), eI23, z_up_k hj, eI15, z_up_n (by decide), eI5, z_up_n (by decide)]⟩)⟩)⟩
      · have g73 := z_f_eq rfl z_l308 c70
        have b74 := Int32.toInt_lt (I61 12 7)
        refine lv_aload_n hx hb dX9_statement_89 rfl (lv_at hl 0 rfl) ?_
        refine lv_iload_n hx hb dX9_statement_90 rfl (lv_at hl 1 rfl) ?_
        refine z_ci hW hS hA (va_runV (As := [.int a1]) (rest := []) ⟨hx, hb, hml, hown, hts⟩ (sx_X9_condition_x l G ad c I61 ⟨(by show 0 ≤ (I61 12 1).toInt ∧ (I61 12 1).toInt ≤ 500; exact hI61R.1), (by show 0 ≤ (I61 12 5).toInt ∧ (I61 12 5).toInt ≤ 501; exact hI61R.2.1), (by show (-1) ≤ (I61 12 6).toInt ∧ (I61 12 6).toInt ≤ 1000000; exact hI61R.2.2.1), (by show 0 ≤ (I61 12 9).toInt ∧ (I61 12 9).toInt ≤ 500; exact hI61R.2.2.2.1), (by show 0 ≤ (I61 12 13).toInt ∧ (I61 12 13).toInt ≤ 24; exact hI61R.2.2.2.2)⟩ (by show (I61 12 6).toInt ≤ 501 ∧ ((I61 12 7).toInt = 401 ∨ (I61 12 6).toInt ≤ 500); first | omega | decide) k47 a1 (zr_P_m hP hM64 (by omega)) (by rw [zr_tkS hM64]; omega) (by omega) _) (cwV 1 hts gX9_statement_X9_condition rfl rfl rfl (by decide +kernel) ⟨Nat.le_of_ble_eq_true rfl, Nat.le_of_ble_eq_true rfl⟩) (z_preV (i := 12) hK hW rfl rfl) rfl rfl hl.1 rfl (lv_room (Nat.le_of_ble_eq_true rfl)) dX9_statement_91 ⟨Nat.le_of_ble_eq_true rfl, Nat.le_of_ble_eq_true rfl⟩) (fun r u1 H locs hp hW hS => ?_)
        obtain ⟨I75, e9, hI75R, hI75T, fI75, hp⟩ := hp
        rw [e9] at hW
        have f76 := z_fr_sub (L := L_X9_statement_x) f62 fI75 (by decide)
        have k77 : (I75 12 6).toInt ≤ 501 ∧ ((I75 12 7).toInt = 401 ∨ (I75 12 6).toInt ≤ 500) := hI75T
        rcases hp with ⟨rfl, hq⟩ | ⟨rfl, hq⟩
        · obtain ⟨k78, cs79, hm80, h81, h82, h83, hs85, hs86⟩ := hq
          have ho84 := zr_okS hM64 h83
          have hM87 := zr_M_t hM64 hm80 hP.2.2.2.2.1
          have h88 := hM87.1
          have h89 := hM87.2.1
          have h90 := hM87.2.2.1
          have h91 := hM87.2.2.2.1
          have l92 : (((cs48 ++ [(-13)]) ++ (cs79 ++ [-13]))).length = cs48.length + 1 + (cs79.length + 1) := by first | rfl | (simp only [List.length_append, List.length_cons, List.length_nil] <;> omega)
          refine lv_if_eq (tgt := 101) hx hb dX9_statement_94 (by decide) (fun c93 => absurd c93 (by decide)) (fun c93 => ?_)
          refine lv_iconst (v := 1) hx hb dX9_statement_97 (by decide) ?_
          refine lv_goto (tgt := 102) hx hb dX9_statement_98 (by decide) ?_
          exact z_zret hx hb hr (by decide) hK hS (Nat.le_of_ble_eq_true rfl) (Nat.le_of_ble_eq_true rfl) hlocks dX9_statement_102 (shC c, ad, I75, JX, PC c ad) hW ⟨I75, rfl, ⟨(by show 0 ≤ (I75 12 1).toInt ∧ (I75 12 1).toInt ≤ 500; exact hI75R.1), (by show 0 ≤ (I75 12 5).toInt ∧ (I75 12 5).toInt ≤ 501; exact hI75R.2.1), (by show (-1) ≤ (I75 12 6).toInt ∧ (I75 12 6).toInt ≤ 1000000; exact hI75R.2.2.1), (by show 0 ≤ (I75 12 9).toInt ∧ (I75 12 9).toInt ≤ 500; exact hI75R.2.2.2.1), (by show 0 ≤ (I75 12 13).toInt ∧ (I75 12 13).toInt ≤ 24; exact hI75R.2.2.2.2)⟩, (by show (I75 12 6).toInt ≤ 501 ∧ ((I75 12 7).toInt = 401 ∨ (I75 12 6).toInt ≤ 500); first | omega | decide), f76, (Or.inl ⟨rfl, k78, (zr_tk I k, 0, cs48, cs79), ((cs48 ++ [(-13)]) ++ (cs79 ++ [-13])), hM87, by omega, by omega, ⟨by show zr_tk I k = zr_tk I k; rfl, Or.inl ⟨by show zr_tk I k = 300 ∨ zr_tk I k = 301; omega, _, ho53, Or.inl ⟨by omega, ho84, zp_ok_ne hva (Or.inr rfl) ho84⟩⟩⟩, (zr_rowB hM87 hP.2.2.2.2.1 (by omega) (zp_ok_ne hva (Or.inr rfl) ho84) (by rw [show I75 18 a1.toNatClampNeg = (I 12 7) from (by rw [fI75 18 a1.toNatClampNeg (z_wr_c (by decide)), fI61 18 a1.toNatClampNeg (z_wr_c (by decide)), fI44 18 a1.toNatClampNeg (z_wr_c (by decide)), fI35 18 a1.toNatClampNeg (z_wr_c (by decide)), eI23, z_up_n (by decide), eI15, z_up_n (by decide), eI5, z_up_s])] <;> omega) (by rw [show I75 19 a1.toNatClampNeg = (I 12 9) from (by rw [fI75 19 a1.toNatClampNeg (z_wr_c (by decide)), fI61 19 a1.toNatClampNeg (z_wr_c (by decide)), fI44 19 a1.toNatClampNeg (z_wr_c (by decide)), fI35 19 a1.toNatClampNeg (z_wr_c (by decide)), eI23, z_up_n (by decide), eI15, z_up_s])] <;> omega) (by rw [hs85]; omega)), (fun j hj => ⟨by rw [fI75 18 j (z_wr_c (by decide)), fI61 18 j (z_wr_c (by decide)), fI44 18 j (z_wr_c (by decide)), fI35 18 j (z_wr_c (by decide)), eI23, z_up_n (by decide), eI15, z_up_n (by decide), eI5, z_up_k hj], by rw [fI75 19 j (z_wr_c (by decide)), fI61 19 j (z_wr_c (by decide)), fI44 19 j (z_wr_c (by decide)), fI35 19 j (z_wr_c (by decide)), eI23, z_up_n (by decide), eI15, z_up_k hj, eI5, z_up_n (by decide)], by rw [hs86 j hj, fI61 20 j (z_wr_c (by decide)), fI44 20 j (z_wr_c (by decide)), fI35 20 j (z_wr_c (by decide)), eI23, z_up_k hj, eI15, z_up_n (by decide), eI5, z_up_n (by decide)]⟩)⟩)⟩
        · obtain ⟨f94, hf95, h96⟩ := hq
          have hb97 := zr_noS hM64 h96
          have hF98 := zr_F_m hM64 hf95
          refine lv_if_eq (tgt := 101) hx hb dX9_statement_94 (by decide) (fun c99 => ?_) (fun c99 => absurd (by decide) c99)
          refine lv_iconst (v := 0) hx hb dX9_statement_101 (by decide) ?_
          exact z_zret hx hb hr (by decide) hK hS (Nat.le_of_ble_eq_true rfl) (Nat.le_of_ble_eq_true rfl) hlocks dX9_statement_102 (shC c, ad, I75, JX, PC c ad) hW ⟨I75, rfl, ⟨(by show 0 ≤ (I75 12 1).toInt ∧ (I75 12 1).toInt ≤ 500; exact hI75R.1), (by show 0 ≤ (I75 12 5).toInt ∧ (I75 12 5).toInt ≤ 501; exact hI75R.2.1), (by show (-1) ≤ (I75 12 6).toInt ∧ (I75 12 6).toInt ≤ 1000000; exact hI75R.2.2.1), (by show 0 ≤ (I75 12 9).toInt ∧ (I75 12 9).toInt ≤ 500; exact hI75R.2.2.2.1), (by show 0 ≤ (I75 12 13).toInt ∧ (I75 12 13).toInt ≤ 24; exact hI75R.2.2.2.2)⟩, (by show (I75 12 6).toInt ≤ 501 ∧ ((I75 12 7).toInt = 401 ∨ (I75 12 6).toInt ≤ 500); first | omega | decide), f76, (Or.inr ⟨rfl, f94, hF98, (Or.inl ⟨by omega, Or.inr ⟨_, _, ho53, by omega, hb97⟩⟩)⟩)⟩
    · obtain ⟨f100, hf101, h102⟩ := hq
      have hb103 := zr_noS hM38 h102
      have hF104 := zr_F_m hM38 hf101
      refine lv_if_ne (tgt := 73) hx hb dX9_statement_68 (by decide) (fun c105 => absurd (by decide) c105) (fun c105 => ?_)
      refine lv_iconst (v := 0) hx hb dX9_statement_71 (by decide) ?_
      exact z_zret hx hb hr (by decide) hK hS (Nat.le_of_ble_eq_true rfl) (Nat.le_of_ble_eq_true rfl) hlocks dX9_statement_72 (shC c, ad, I44, JX, PC c ad) hW ⟨I44, rfl, ⟨(by show 0 ≤ (I44 12 1).toInt ∧ (I44 12 1).toInt ≤ 500; exact hI44R.1), (by show 0 ≤ (I44 12 5).toInt ∧ (I44 12 5).toInt ≤ 501; exact hI44R.2.1), (by show (-1) ≤ (I44 12 6).toInt ∧ (I44 12 6).toInt ≤ 1000000; exact hI44R.2.2.1), (by show 0 ≤ (I44 12 9).toInt ∧ (I44 12 9).toInt ≤ 500; exact hI44R.2.2.2.1), (by show 0 ≤ (I44 12 13).toInt ∧ (I44 12 13).toInt ≤ 24; exact hI44R.2.2.2.2)⟩, (by show (I44 12 6).toInt ≤ 501 ∧ ((I44 12 7).toInt = 401 ∨ (I44 12 6).toInt ≤ 500); first | omega | decide), f45, (Or.inr ⟨rfl, f100, hF104, (Or.inl ⟨by omega, Or.inl hb103⟩)⟩)⟩
  · have g106 := z_f_ne rfl z_l300 c31
    have b107 := Int32.toInt_lt (I 12 7)
    refine lv_aload_n hx hb dX9_statement_49 rfl (lv_at hl 0 rfl) ?_
    refine z_get (T := TX9) (N := 14) (ci := 9) (i := 12) (v := .int (I 12 7)) hx hb hts zj_X9_statement_X9 hown hK hW rfl rfl 7 (by decide) (hts (.fieldLink RX9 62 "PetrolBoard$Reader" "token" "I") (me_s (me_l (me_l (List.mem_of_getElem? (i := 1) rfl))))) (fun _ h => h) (congrArg Value.int (by rw [eI23, z_up_n (by decide), eI15, z_up_n (by decide), eI5, z_up_n (by decide)])) dX9_statement_50 ?_
    refine lv_sipush (v := 301) hx hb dX9_statement_53 (by decide) ?_
    refine lv_icmp_ne (tgt := 103) hx hb dX9_statement_56 (by decide) (fun c108 => ?_) (fun c108 => ?_)
    · have g109 := z_f_ne rfl z_l301 c108
      refine lv_aload_n hx hb dX9_statement_103 rfl (lv_at hl 0 rfl) ?_
      refine z_get (T := TX9) (N := 14) (ci := 9) (i := 12) (v := .int (I 12 7)) hx hb hts zj_X9_statement_X9 hown hK hW rfl rfl 7 (by decide) (hts (.fieldLink RX9 62 "PetrolBoard$Reader" "token" "I") (me_s (me_l (me_l (List.mem_of_getElem? (i := 1) rfl))))) (fun _ h => h) (congrArg Value.int (by rw [eI23, z_up_n (by decide), eI15, z_up_n (by decide), eI5, z_up_n (by decide)])) dX9_statement_104 ?_
      refine lv_sipush (v := 302) hx hb dX9_statement_107 (by decide) ?_
      refine lv_icmp_ne (tgt := 119) hx hb dX9_statement_110 (by decide) (fun c110 => ?_) (fun c110 => ?_)
      · have g111 := z_f_ne rfl z_l302 c110
        refine lv_aload_n hx hb dX9_statement_119 rfl (lv_at hl 0 rfl) ?_
        refine z_get (T := TX9) (N := 14) (ci := 9) (i := 12) (v := .int (I 12 7)) hx hb hts zj_X9_statement_X9 hown hK hW rfl rfl 7 (by decide) (hts (.fieldLink RX9 62 "PetrolBoard$Reader" "token" "I") (me_s (me_l (me_l (List.mem_of_getElem? (i := 1) rfl))))) (fun _ h => h) (congrArg Value.int (by rw [eI23, z_up_n (by decide), eI15, z_up_n (by decide), eI5, z_up_n (by decide)])) dX9_statement_120 ?_
        refine lv_sipush (v := 303) hx hb dX9_statement_123 (by decide) ?_
        refine lv_icmp_lt (tgt := 151) hx hb dX9_statement_126 (by decide) (fun c112 => ?_) (fun c112 => ?_)
        · have g113 := z_f_lt rfl z_l303 c112
          refine lv_iconst (v := 0) hx hb dX9_statement_151 (by decide) ?_
          exact z_zret hx hb hr (by decide) hK hS (Nat.le_of_ble_eq_true rfl) (Nat.le_of_ble_eq_true rfl) hlocks dX9_statement_152 (shC c, ad, I23, JX, PC c ad) hW ⟨I23, rfl, ⟨(by show 0 ≤ (I23 12 1).toInt ∧ (I23 12 1).toInt ≤ 500; rw [eI23, z_up_n (by decide), eI15, z_up_n (by decide), eI5, z_up_n (by decide)]; exact hR.1), (by show 0 ≤ (I23 12 5).toInt ∧ (I23 12 5).toInt ≤ 501; rw [eI23, z_up_n (by decide), eI15, z_up_n (by decide), eI5, z_up_n (by decide)]; exact hR.2.1), (by show (-1) ≤ (I23 12 6).toInt ∧ (I23 12 6).toInt ≤ 1000000; rw [eI23, z_up_n (by decide), eI15, z_up_n (by decide), eI5, z_up_n (by decide)]; exact hR.2.2.1), (by show 0 ≤ (I23 12 9).toInt ∧ (I23 12 9).toInt ≤ 500; rw [eI23, z_up_n (by decide), eI15, z_up_n (by decide), eI5, z_up_n (by decide)]; exact hR.2.2.2.1), (by show 0 ≤ (I23 12 13).toInt ∧ (I23 12 13).toInt ≤ 24; rw [eI23, z_up_n (by decide), eI15, z_up_n (by decide), eI5, z_up_n (by decide)]; exact hR.2.2.2.2)⟩, (by have q0 : (I23 12 6) = (I 12 6) := (by rw [eI23, z_up_n (by decide), eI15, z_up_n (by decide), eI5, z_up_n (by decide)]); have q1 : (I23 12 7) = (I 12 7) := (by rw [eI23, z_up_n (by decide), eI15, z_up_n (by decide), eI5, z_up_n (by decide)]); show (I23 12 6).toInt ≤ 501 ∧ ((I23 12 7).toInt = 401 ∨ (I23 12 6).toInt ≤ 500); rw [q0, q1]; first | omega | decide), f24, (Or.inr ⟨rfl, k, (zr_F_0 hM25), (Or.inr (Or.inr (Or.inr ⟨by omega, rfl⟩)))⟩)⟩
        · have g114 := z_f_nlt rfl z_l303 c112
          refine lv_aload_n hx hb dX9_statement_129 rfl (lv_at hl 0 rfl) ?_
          refine z_get (T := TX9) (N := 14) (ci := 9) (i := 12) (v := .int (I 12 7)) hx hb hts zj_X9_statement_X9 hown hK hW rfl rfl 7 (by decide) (hts (.fieldLink RX9 62 "PetrolBoard$Reader" "token" "I") (me_s (me_l (me_l (List.mem_of_getElem? (i := 1) rfl))))) (fun _ h => h) (congrArg Value.int (by rw [eI23, z_up_n (by decide), eI15, z_up_n (by decide), eI5, z_up_n (by decide)])) dX9_statement_130 ?_
          refine lv_sipush (v := 307) hx hb dX9_statement_133 (by decide) ?_
          refine lv_icmp_gt (tgt := 151) hx hb dX9_statement_136 (by decide) (fun c115 => ?_) (fun c115 => ?_)
          · have g116 := z_f_gt rfl z_l307 c115
            refine lv_iconst (v := 0) hx hb dX9_statement_151 (by decide) ?_
            exact z_zret hx hb hr (by decide) hK hS (Nat.le_of_ble_eq_true rfl) (Nat.le_of_ble_eq_true rfl) hlocks dX9_statement_152 (shC c, ad, I23, JX, PC c ad) hW ⟨I23, rfl, ⟨(by show 0 ≤ (I23 12 1).toInt ∧ (I23 12 1).toInt ≤ 500; rw [eI23, z_up_n (by decide), eI15, z_up_n (by decide), eI5, z_up_n (by decide)]; exact hR.1), (by show 0 ≤ (I23 12 5).toInt ∧ (I23 12 5).toInt ≤ 501; rw [eI23, z_up_n (by decide), eI15, z_up_n (by decide), eI5, z_up_n (by decide)]; exact hR.2.1), (by show (-1) ≤ (I23 12 6).toInt ∧ (I23 12 6).toInt ≤ 1000000; rw [eI23, z_up_n (by decide), eI15, z_up_n (by decide), eI5, z_up_n (by decide)]; exact hR.2.2.1), (by show 0 ≤ (I23 12 9).toInt ∧ (I23 12 9).toInt ≤ 500; rw [eI23, z_up_n (by decide), eI15, z_up_n (by decide), eI5, z_up_n (by decide)]; exact hR.2.2.2.1), (by show 0 ≤ (I23 12 13).toInt ∧ (I23 12 13).toInt ≤ 24; rw [eI23, z_up_n (by decide), eI15, z_up_n (by decide), eI5, z_up_n (by decide)]; exact hR.2.2.2.2)⟩, (by have q0 : (I23 12 6) = (I 12 6) := (by rw [eI23, z_up_n (by decide), eI15, z_up_n (by decide), eI5, z_up_n (by decide)]); have q1 : (I23 12 7) = (I 12 7) := (by rw [eI23, z_up_n (by decide), eI15, z_up_n (by decide), eI5, z_up_n (by decide)]); show (I23 12 6).toInt ≤ 501 ∧ ((I23 12 7).toInt = 401 ∨ (I23 12 6).toInt ≤ 500); rw [q0, q1]; first | omega | decide), f24, (Or.inr ⟨rfl, k, (zr_F_0 hM25), (Or.inr (Or.inr (Or.inr ⟨by omega, rfl⟩)))⟩)⟩
          · have g117 := z_f_ngt rfl z_l307 c115
            refine lv_aload_n hx hb dX9_statement_139 rfl (lv_at hl 0 rfl) ?_
            refine lv_iload_n hx hb dX9_statement_140 rfl (lv_at hl 1 rfl) ?_
            refine z_ci hW hS hA (va_runV (As := [.int a1]) (rest := []) ⟨hx, hb, hml, hown, hts⟩ (sx_X9_amountOf_x l G ad c I23 ⟨(by show 0 ≤ (I23 12 1).toInt ∧ (I23 12 1).toInt ≤ 500; rw [eI23, z_up_n (by decide), eI15, z_up_n (by decide), eI5, z_up_n (by decide)]; exact hR.1), (by show 0 ≤ (I23 12 5).toInt ∧ (I23 12 5).toInt ≤ 501; rw [eI23, z_up_n (by decide), eI15, z_up_n (by decide), eI5, z_up_n (by decide)]; exact hR.2.1), (by show (-1) ≤ (I23 12 6).toInt ∧ (I23 12 6).toInt ≤ 1000000; rw [eI23, z_up_n (by decide), eI15, z_up_n (by decide), eI5, z_up_n (by decide)]; exact hR.2.2.1), (by show 0 ≤ (I23 12 9).toInt ∧ (I23 12 9).toInt ≤ 500; rw [eI23, z_up_n (by decide), eI15, z_up_n (by decide), eI5, z_up_n (by decide)]; exact hR.2.2.2.1), (by show 0 ≤ (I23 12 13).toInt ∧ (I23 12 13).toInt ≤ 24; rw [eI23, z_up_n (by decide), eI15, z_up_n (by decide), eI5, z_up_n (by decide)]; exact hR.2.2.2.2)⟩ (by have q0 : (I23 12 6) = (I 12 6) := (by rw [eI23, z_up_n (by decide), eI15, z_up_n (by decide), eI5, z_up_n (by decide)]); have q1 : (I23 12 7) = (I 12 7) := (by rw [eI23, z_up_n (by decide), eI15, z_up_n (by decide), eI5, z_up_n (by decide)]); show (I23 12 6).toInt ≤ 501 ∧ ((I23 12 7).toInt = 401 ∨ (I23 12 6).toInt ≤ 500); rw [q0, q1]; first | omega | decide) k a1 (zr_P_m hP hM25 (by omega)) (by rw [zr_tkS hM25]; omega) (by omega) (fun k hk => by rw [zr_tkS hM25] at hk; rw [zr_vaS hM25]; exact hva k hk) _) (cwV 1 hts gX9_statement_X9_amountOf rfl rfl rfl (by decide +kernel) ⟨Nat.le_of_ble_eq_true rfl, Nat.le_of_ble_eq_true rfl⟩) (z_preV (i := 12) hK hW rfl rfl) rfl rfl hl.1 rfl (lv_room (Nat.le_of_ble_eq_true rfl)) dX9_statement_141 ⟨Nat.le_of_ble_eq_true rfl, Nat.le_of_ble_eq_true rfl⟩) (fun r u1 H locs hp hW hS => ?_)
            obtain ⟨I118, e9, hI118R, hI118T, fI118, hp⟩ := hp
            rw [e9] at hW
            have f119 := z_fr_sub (L := L_X9_statement_x) f24 fI118 (by decide)
            have k120 : (I118 12 6).toInt ≤ 501 ∧ ((I118 12 7).toInt = 401 ∨ (I118 12 6).toInt ≤ 500) := hI118T
            rcases hp with ⟨rfl, hq⟩ | ⟨rfl, hq⟩
            · obtain ⟨h121, h122, hm123, hs124, hs125⟩ := hq
              rw [zr_tkS hM25] at h121
              rw [zr_vaS hM25] at h122 hs124
              have hM126 := zr_M_s hM25 hm123 hP.2.2.2.2.1
              have h127 := hM126.1
              have h128 := hM126.2.1
              have h129 := hM126.2.2.1
              have h130 := hM126.2.2.2.1
              have l131 : (([] : List Int) : List Int).length = 0 := rfl
              refine lv_if_eq (tgt := 151) hx hb dX9_statement_144 (by decide) (fun c132 => absurd c132 (by decide)) (fun c132 => ?_)
              refine lv_iconst (v := 1) hx hb dX9_statement_147 (by decide) ?_
              refine lv_goto (tgt := 152) hx hb dX9_statement_148 (by decide) ?_
              exact z_zret hx hb hr (by decide) hK hS (Nat.le_of_ble_eq_true rfl) (Nat.le_of_ble_eq_true rfl) hlocks dX9_statement_152 (shC c, ad, I118, JX, PC c ad) hW ⟨I118, rfl, ⟨(by show 0 ≤ (I118 12 1).toInt ∧ (I118 12 1).toInt ≤ 500; exact hI118R.1), (by show 0 ≤ (I118 12 5).toInt ∧ (I118 12 5).toInt ≤ 501; exact hI118R.2.1), (by show (-1) ≤ (I118 12 6).toInt ∧ (I118 12 6).toInt ≤ 1000000; exact hI118R.2.2.1), (by show 0 ≤ (I118 12 9).toInt ∧ (I118 12 9).toInt ≤ 500; exact hI118R.2.2.2.1), (by show 0 ≤ (I118 12 13).toInt ∧ (I118 12 13).toInt ≤ 24; exact hI118R.2.2.2.2)⟩, (by show (I118 12 6).toInt ≤ 501 ∧ ((I118 12 7).toInt = 401 ∨ (I118 12 6).toInt ≤ 500); first | omega | decide), f119, (Or.inl ⟨rfl, (k + 2), (zr_tk I k, zr_va I (k + 1), [], []), ([] : List Int), hM126, by omega, by omega, ⟨by show zr_tk I k = zr_tk I k; rfl, Or.inr (Or.inr ⟨by show 303 ≤ zr_tk I k; omega, by show zr_tk I k ≤ 307; omega, rfl, rfl, h121, fun z => h122 (by rw [show I23 18 a1.toNatClampNeg = (I 12 7) from (by rw [eI23, z_up_n (by decide), eI15, z_up_n (by decide), eI5, z_up_s])]; have z2 : zr_tk I k = 303 := z; omega), rfl, rfl⟩)⟩, (zr_rowD (by omega) (by rw [show I118 18 a1.toNatClampNeg = (I 12 7) from (by rw [fI118 18 a1.toNatClampNeg (z_wr_c (by decide)), eI23, z_up_n (by decide), eI15, z_up_n (by decide), eI5, z_up_s])] <;> omega) hs124 (by have := z_lm1; rw [show I118 20 a1.toNatClampNeg = (-1) from (by rw [fI118 20 a1.toNatClampNeg (z_wr_c (by decide)), eI23, z_up_s])] <;> omega)), (fun j hj => ⟨by rw [fI118 18 j (z_wr_c (by decide)), eI23, z_up_n (by decide), eI15, z_up_n (by decide), eI5, z_up_k hj], by rw [hs125 j hj, eI23, z_up_n (by decide), eI15, z_up_k hj, eI5, z_up_n (by decide)], by rw [fI118 20 j (z_wr_c (by decide)), eI23, z_up_k hj, eI15, z_up_n (by decide), eI5, z_up_n (by decide)]⟩)⟩)⟩
            · obtain ⟨hf133, h134⟩ := hq
              rw [zr_tkS hM25, zr_vaS hM25] at h134
              have hF135 := zr_F_m hM25 hf133
              refine lv_if_eq (tgt := 151) hx hb dX9_statement_144 (by decide) (fun c136 => ?_) (fun c136 => absurd (by decide) c136)
              refine lv_iconst (v := 0) hx hb dX9_statement_151 (by decide) ?_
              exact z_zret hx hb hr (by decide) hK hS (Nat.le_of_ble_eq_true rfl) (Nat.le_of_ble_eq_true rfl) hlocks dX9_statement_152 (shC c, ad, I118, JX, PC c ad) hW ⟨I118, rfl, ⟨(by show 0 ≤ (I118 12 1).toInt ∧ (I118 12 1).toInt ≤ 500; exact hI118R.1), (by show 0 ≤ (I118 12 5).toInt ∧ (I118 12 5).toInt ≤ 501; exact hI118R.2.1), (by show (-1) ≤ (I118 12 6).toInt ∧ (I118 12 6).toInt ≤ 1000000; exact hI118R.2.2.1), (by show 0 ≤ (I118 12 9).toInt ∧ (I118 12 9).toInt ≤ 500; exact hI118R.2.2.2.1), (by show 0 ≤ (I118 12 13).toInt ∧ (I118 12 13).toInt ≤ 24; exact hI118R.2.2.2.2)⟩, (by show (I118 12 6).toInt ≤ 501 ∧ ((I118 12 7).toInt = 401 ∨ (I118 12 6).toInt ≤ 500); first | omega | decide), f119, (Or.inr ⟨rfl, (k + 1), hF135, (Or.inr (Or.inr (Or.inl ⟨by omega, by omega, h134.imp id (fun q => ⟨by have := q.1; rw [show I23 18 a1.toNatClampNeg = (I 12 7) from (by rw [eI23, z_up_n (by decide), eI15, z_up_n (by decide), eI5, z_up_s])] at this; omega, q.2⟩), rfl⟩)))⟩)⟩
      · have g137 := z_f_eq rfl z_l302 c110
        refine lv_aload_n hx hb dX9_statement_113 rfl (lv_at hl 0 rfl) ?_
        refine lv_iload_n hx hb dX9_statement_114 rfl (lv_at hl 1 rfl) ?_
        refine z_ci hW hS hA (va_runV (As := [.int a1]) (rest := []) ⟨hx, hb, hml, hown, hts⟩ (sx_X9_condition_x l G ad c I23 ⟨(by show 0 ≤ (I23 12 1).toInt ∧ (I23 12 1).toInt ≤ 500; rw [eI23, z_up_n (by decide), eI15, z_up_n (by decide), eI5, z_up_n (by decide)]; exact hR.1), (by show 0 ≤ (I23 12 5).toInt ∧ (I23 12 5).toInt ≤ 501; rw [eI23, z_up_n (by decide), eI15, z_up_n (by decide), eI5, z_up_n (by decide)]; exact hR.2.1), (by show (-1) ≤ (I23 12 6).toInt ∧ (I23 12 6).toInt ≤ 1000000; rw [eI23, z_up_n (by decide), eI15, z_up_n (by decide), eI5, z_up_n (by decide)]; exact hR.2.2.1), (by show 0 ≤ (I23 12 9).toInt ∧ (I23 12 9).toInt ≤ 500; rw [eI23, z_up_n (by decide), eI15, z_up_n (by decide), eI5, z_up_n (by decide)]; exact hR.2.2.2.1), (by show 0 ≤ (I23 12 13).toInt ∧ (I23 12 13).toInt ≤ 24; rw [eI23, z_up_n (by decide), eI15, z_up_n (by decide), eI5, z_up_n (by decide)]; exact hR.2.2.2.2)⟩ (by have q0 : (I23 12 6) = (I 12 6) := (by rw [eI23, z_up_n (by decide), eI15, z_up_n (by decide), eI5, z_up_n (by decide)]); have q1 : (I23 12 7) = (I 12 7) := (by rw [eI23, z_up_n (by decide), eI15, z_up_n (by decide), eI5, z_up_n (by decide)]); show (I23 12 6).toInt ≤ 501 ∧ ((I23 12 7).toInt = 401 ∨ (I23 12 6).toInt ≤ 500); rw [q0, q1]; first | omega | decide) k a1 (zr_P_m hP hM25 (by omega)) (by rw [zr_tkS hM25]; omega) (by omega) _) (cwV 1 hts gX9_statement_X9_condition rfl rfl rfl (by decide +kernel) ⟨Nat.le_of_ble_eq_true rfl, Nat.le_of_ble_eq_true rfl⟩) (z_preV (i := 12) hK hW rfl rfl) rfl rfl hl.1 rfl (lv_room (Nat.le_of_ble_eq_true rfl)) dX9_statement_115 ⟨Nat.le_of_ble_eq_true rfl, Nat.le_of_ble_eq_true rfl⟩) (fun r u1 H locs hp hW hS => ?_)
        obtain ⟨I138, e9, hI138R, hI138T, fI138, hp⟩ := hp
        rw [e9] at hW
        have f139 := z_fr_sub (L := L_X9_statement_x) f24 fI138 (by decide)
        have k140 : (I138 12 6).toInt ≤ 501 ∧ ((I138 12 7).toInt = 401 ∨ (I138 12 6).toInt ≤ 500) := hI138T
        rcases hp with ⟨rfl, hq⟩ | ⟨rfl, hq⟩
        · obtain ⟨k141, cs142, hm143, h144, h145, h146, hs148, hs149⟩ := hq
          have ho147 := zr_okS hM25 h146
          have hM150 := zr_M_t0 hM25 hm143 hP.2.2.2.2.1
          have h151 := hM150.1
          have h152 := hM150.2.1
          have h153 := hM150.2.2.1
          have h154 := hM150.2.2.2.1
          have l155 : ((cs142 ++ [-13])).length = (cs142.length + 1) := by first | rfl | (simp only [List.length_append, List.length_cons, List.length_nil] <;> omega)
          exact z_zret hx hb hr (by decide) hK hS (Nat.le_of_ble_eq_true rfl) (Nat.le_of_ble_eq_true rfl) hlocks dX9_statement_118 (shC c, ad, I138, JX, PC c ad) hW ⟨I138, rfl, ⟨(by show 0 ≤ (I138 12 1).toInt ∧ (I138 12 1).toInt ≤ 500; exact hI138R.1), (by show 0 ≤ (I138 12 5).toInt ∧ (I138 12 5).toInt ≤ 501; exact hI138R.2.1), (by show (-1) ≤ (I138 12 6).toInt ∧ (I138 12 6).toInt ≤ 1000000; exact hI138R.2.2.1), (by show 0 ≤ (I138 12 9).toInt ∧ (I138 12 9).toInt ≤ 500; exact hI138R.2.2.2.1), (by show 0 ≤ (I138 12 13).toInt ∧ (I138 12 13).toInt ≤ 24; exact hI138R.2.2.2.2)⟩, (by show (I138 12 6).toInt ≤ 501 ∧ ((I138 12 7).toInt = 401 ∨ (I138 12 6).toInt ≤ 500); first | omega | decide), f139, (Or.inl ⟨rfl, k141, (302, 0, [], cs142), (cs142 ++ [-13]), hM150, by omega, by omega, ⟨by show 302 = zr_tk I k; omega, Or.inr (Or.inl ⟨rfl, rfl, ho147, zp_ok_ne hva (Or.inr rfl) ho147⟩)⟩, (zr_rowC hM150 hP.2.2.2.2.1 (zp_ok_ne hva (Or.inr rfl) ho147) (by rw [show I138 18 a1.toNatClampNeg = (I 12 7) from (by rw [fI138 18 a1.toNatClampNeg (z_wr_c (by decide)), eI23, z_up_n (by decide), eI15, z_up_n (by decide), eI5, z_up_s])] <;> omega) (by rw [hs148]; omega)), (fun j hj => ⟨by rw [fI138 18 j (z_wr_c (by decide)), eI23, z_up_n (by decide), eI15, z_up_n (by decide), eI5, z_up_k hj], by rw [fI138 19 j (z_wr_c (by decide)), eI23, z_up_n (by decide), eI15, z_up_k hj, eI5, z_up_n (by decide)], by rw [hs149 j hj, eI23, z_up_k hj, eI15, z_up_n (by decide), eI5, z_up_n (by decide)]⟩)⟩)⟩
        · obtain ⟨f156, hf157, h158⟩ := hq
          have hb159 := zr_noS hM25 h158
          have hF160 := zr_F_m hM25 hf157
          exact z_zret hx hb hr (by decide) hK hS (Nat.le_of_ble_eq_true rfl) (Nat.le_of_ble_eq_true rfl) hlocks dX9_statement_118 (shC c, ad, I138, JX, PC c ad) hW ⟨I138, rfl, ⟨(by show 0 ≤ (I138 12 1).toInt ∧ (I138 12 1).toInt ≤ 500; exact hI138R.1), (by show 0 ≤ (I138 12 5).toInt ∧ (I138 12 5).toInt ≤ 501; exact hI138R.2.1), (by show (-1) ≤ (I138 12 6).toInt ∧ (I138 12 6).toInt ≤ 1000000; exact hI138R.2.2.1), (by show 0 ≤ (I138 12 9).toInt ∧ (I138 12 9).toInt ≤ 500; exact hI138R.2.2.2.1), (by show 0 ≤ (I138 12 13).toInt ∧ (I138 12 13).toInt ≤ 24; exact hI138R.2.2.2.2)⟩, (by show (I138 12 6).toInt ≤ 501 ∧ ((I138 12 7).toInt = 401 ∨ (I138 12 6).toInt ≤ 500); first | omega | decide), f139, (Or.inr ⟨rfl, f156, hF160, (Or.inr (Or.inl ⟨by omega, hb159⟩))⟩)⟩
    · have g161 := z_f_eq rfl z_l301 c108
      refine lv_aload_n hx hb dX9_statement_59 rfl (lv_at hl 0 rfl) ?_
      have q162 := zr_Q_n (zr_Q_m hP hM25) (by rw [zr_tkS hM25]; omega)
      refine z_cv hW hS hA (va_runV (As := []) (rest := []) ⟨hx, hb, hml, hown, hts⟩ (sx_X9_step_x l G ad c I23 ⟨(by show 0 ≤ (I23 12 1).toInt ∧ (I23 12 1).toInt ≤ 500; rw [eI23, z_up_n (by decide), eI15, z_up_n (by decide), eI5, z_up_n (by decide)]; exact hR.1), (by show 0 ≤ (I23 12 5).toInt ∧ (I23 12 5).toInt ≤ 501; rw [eI23, z_up_n (by decide), eI15, z_up_n (by decide), eI5, z_up_n (by decide)]; exact hR.2.1), (by show (-1) ≤ (I23 12 6).toInt ∧ (I23 12 6).toInt ≤ 1000000; rw [eI23, z_up_n (by decide), eI15, z_up_n (by decide), eI5, z_up_n (by decide)]; exact hR.2.2.1), (by show 0 ≤ (I23 12 9).toInt ∧ (I23 12 9).toInt ≤ 500; rw [eI23, z_up_n (by decide), eI15, z_up_n (by decide), eI5, z_up_n (by decide)]; exact hR.2.2.2.1), (by show 0 ≤ (I23 12 13).toInt ∧ (I23 12 13).toInt ≤ 24; rw [eI23, z_up_n (by decide), eI15, z_up_n (by decide), eI5, z_up_n (by decide)]; exact hR.2.2.2.2)⟩ (k + 1) q162 _) (cwV 0 hts gX9_statement_X9_step rfl rfl rfl (by decide +kernel) ⟨Nat.le_of_ble_eq_true rfl, Nat.le_of_ble_eq_true rfl⟩) (z_preV (i := 12) hK hW rfl rfl) rfl rfl hl.1 rfl (lv_room (Nat.le_of_ble_eq_true rfl)) dX9_statement_60 ⟨Nat.le_of_ble_eq_true rfl, Nat.le_of_ble_eq_true rfl⟩) (fun u1 H locs hp hW hS => ?_)
      obtain ⟨I163, e9, hI163R, hI163T, fI163, hp⟩ := hp
      rw [e9] at hW
      have f164 := z_fr_sub (L := L_X9_statement_x) f24 fI163 (by decide)
      have k165 : (I163 12 6).toInt ≤ 501 ∧ ((I163 12 7).toInt = 401 ∨ (I163 12 6).toInt ≤ 500) := hI163T
      have hM166 := zr_M_s hM25 hp hP.2.2.2.2.1
      have h167 := hM166.1
      have h168 := hM166.2.1
      have h169 := hM166.2.2.1
      have h170 := hM166.2.2.2.1
      have l171 : (([] : List Int) : List Int).length = 0 := rfl
      refine lv_aload_n hx hb dX9_statement_63 rfl (lv_at hl 0 rfl) ?_
      refine lv_iconst (v := 0) hx hb dX9_statement_64 (by decide) ?_
      refine z_ci hW hS hA (va_runV (As := [.int 0]) (rest := []) ⟨hx, hb, hml, hown, hts⟩ (sx_X9_sum_0x l G ad c I163 ⟨(by show 0 ≤ (I163 12 1).toInt ∧ (I163 12 1).toInt ≤ 500; exact hI163R.1), (by show 0 ≤ (I163 12 5).toInt ∧ (I163 12 5).toInt ≤ 501; exact hI163R.2.1), (by show (-1) ≤ (I163 12 6).toInt ∧ (I163 12 6).toInt ≤ 1000000; exact hI163R.2.2.1), (by show 0 ≤ (I163 12 9).toInt ∧ (I163 12 9).toInt ≤ 500; exact hI163R.2.2.2.1), (by show 0 ≤ (I163 12 13).toInt ∧ (I163 12 13).toInt ≤ 24; exact hI163R.2.2.2.2)⟩ (by show (I163 12 6).toInt ≤ 501 ∧ ((I163 12 7).toInt = 401 ∨ (I163 12 6).toInt ≤ 500); first | omega | decide) (k + 1) (zr_P_m hP hM166 (by omega)) _) (cwV 1 hts gX9_statement_X9_sum rfl rfl rfl (by decide +kernel) ⟨Nat.le_of_ble_eq_true rfl, Nat.le_of_ble_eq_true rfl⟩) (z_preV (i := 12) hK hW rfl rfl) rfl rfl hl.1 rfl (lv_room (Nat.le_of_ble_eq_true rfl)) dX9_statement_65 ⟨Nat.le_of_ble_eq_true rfl, Nat.le_of_ble_eq_true rfl⟩) (fun r u1 H locs hp hW hS => ?_)
      obtain ⟨I172, e9, hI172R, hI172T, fI172, hp⟩ := hp
      rw [e9] at hW
      have f173 := z_fr_sub (L := L_X9_statement_x) f164 fI172 (by decide)
      have k174 : (I172 12 6).toInt ≤ 501 ∧ ((I172 12 7).toInt = 401 ∨ (I172 12 6).toInt ≤ 500) := hI172T
      rcases hp with ⟨rfl, hq⟩ | ⟨rfl, hq⟩
      · obtain ⟨k175, cs176, hm177, h178, h179, h180⟩ := hq
        have ho181 := zr_okS hM166 h180
        have hM182 := (show zr_M I I172 k175 cs176 from zr_M_t hM166 hm177 hP.2.2.2.2.1)
        have h183 := hM182.1
        have h184 := hM182.2.1
        have h185 := hM182.2.2.1
        have h186 := hM182.2.2.2.1
        have l187 : (cs176).length = cs176.length := by first | rfl | (simp only [List.length_append, List.length_cons, List.length_nil] <;> omega)
        refine lv_if_ne (tgt := 73) hx hb dX9_statement_68 (by decide) (fun c188 => ?_) (fun c188 => absurd c188 (by decide))
        refine lv_aload_n hx hb dX9_statement_73 rfl (lv_at hl 0 rfl) ?_
        refine lv_bipush (v := (-13)) hx hb dX9_statement_74 (by decide) ?_
        refine z_cv hW hS hA (va_runV (As := [.int (-13)]) (rest := []) ⟨hx, hb, hml, hown, hts⟩ (sx_X9_emit_x l G ad c I172 ⟨(by show 0 ≤ (I172 12 1).toInt ∧ (I172 12 1).toInt ≤ 500; exact hI172R.1), (by show 0 ≤ (I172 12 5).toInt ∧ (I172 12 5).toInt ≤ 501; exact hI172R.2.1), (by show (-1) ≤ (I172 12 6).toInt ∧ (I172 12 6).toInt ≤ 1000000; exact hI172R.2.2.1), (by show 0 ≤ (I172 12 9).toInt ∧ (I172 12 9).toInt ≤ 500; exact hI172R.2.2.2.1), (by show 0 ≤ (I172 12 13).toInt ∧ (I172 12 13).toInt ≤ 24; exact hI172R.2.2.2.2)⟩ (-13) (by omega) _) (cwV 1 hts gX9_statement_X9_emit rfl rfl rfl (by decide +kernel) ⟨Nat.le_of_ble_eq_true rfl, Nat.le_of_ble_eq_true rfl⟩) (z_preV (i := 12) hK hW rfl rfl) rfl rfl hl.1 rfl (lv_room (Nat.le_of_ble_eq_true rfl)) dX9_statement_76 ⟨Nat.le_of_ble_eq_true rfl, Nat.le_of_ble_eq_true rfl⟩) (fun u1 H locs hp hW hS => ?_)
        obtain ⟨I189, e9, hI189R, fI189, hp⟩ := hp
        rw [e9] at hW
        have f190 := z_fr_sub (L := L_X9_statement_x) f173 fI189 (by decide)
        have k191 : (I189 12 6).toInt ≤ 501 ∧ ((I189 12 7).toInt = 401 ∨ (I189 12 6).toInt ≤ 500) := (by have q0 : (I189 12 6) = (I172 12 6) := (by rw [fI189 12 6 (by decide)]); have q1 : (I189 12 7) = (I172 12 7) := (by rw [fI189 12 7 (by decide)]); show (I189 12 6).toInt ≤ 501 ∧ ((I189 12 7).toInt = 401 ∨ (I189 12 6).toInt ≤ 500); rw [q0, q1]; first | omega | decide)
        have hM192 := zr_M_e hM182 hp (show ((-13) : Int32).toInt = (-13) by decide) hP.2.2.2.2.1
        have h193 := hM192.1
        have h194 := hM192.2.1
        have h195 := hM192.2.2.1
        have h196 := hM192.2.2.2.1
        have l197 : ((cs176 ++ [(-13)])).length = cs176.length + 1 := by first | rfl | (simp only [List.length_append, List.length_cons, List.length_nil] <;> omega)
        refine lv_aload_n hx hb dX9_statement_79 rfl (lv_at hl 0 rfl) ?_
        refine z_get (T := TX9) (N := 14) (ci := 9) (i := 12) (v := .int (I189 12 7)) hx hb hts zj_X9_statement_X9 hown hK hW rfl rfl 7 (by decide) (hts (.fieldLink RX9 62 "PetrolBoard$Reader" "token" "I") (me_s (me_l (me_l (List.mem_of_getElem? (i := 1) rfl))))) (fun _ h => h) rfl dX9_statement_80 ?_
        refine lv_sipush (v := 308) hx hb dX9_statement_83 (by decide) ?_
        refine lv_icmp_ne (tgt := 97) hx hb dX9_statement_86 (by decide) (fun c198 => ?_) (fun c198 => ?_)
        · have g199 := z_f_ne rfl z_l308 c198
          have b200 := Int32.toInt_lt (I189 12 7)
          refine lv_iconst (v := 1) hx hb dX9_statement_97 (by decide) ?_
          refine lv_goto (tgt := 102) hx hb dX9_statement_98 (by decide) ?_
          exact z_zret hx hb hr (by decide) hK hS (Nat.le_of_ble_eq_true rfl) (Nat.le_of_ble_eq_true rfl) hlocks dX9_statement_102 (shC c, ad, I189, JX, PC c ad) hW ⟨I189, rfl, ⟨(by show 0 ≤ (I189 12 1).toInt ∧ (I189 12 1).toInt ≤ 500; exact hI189R.1), (by show 0 ≤ (I189 12 5).toInt ∧ (I189 12 5).toInt ≤ 501; exact hI189R.2.1), (by show (-1) ≤ (I189 12 6).toInt ∧ (I189 12 6).toInt ≤ 1000000; exact hI189R.2.2.1), (by show 0 ≤ (I189 12 9).toInt ∧ (I189 12 9).toInt ≤ 500; exact hI189R.2.2.2.1), (by show 0 ≤ (I189 12 13).toInt ∧ (I189 12 13).toInt ≤ 24; exact hI189R.2.2.2.2)⟩, (by show (I189 12 6).toInt ≤ 501 ∧ ((I189 12 7).toInt = 401 ∨ (I189 12 6).toInt ≤ 500); first | omega | decide), f190, (Or.inl ⟨rfl, k175, (zr_tk I k, 0, cs176, []), (cs176 ++ [(-13)]), hM192, by omega, by omega, ⟨by show zr_tk I k = zr_tk I k; rfl, Or.inl ⟨by show zr_tk I k = 300 ∨ zr_tk I k = 301; omega, _, ho181, Or.inr ⟨by omega, rfl, rfl⟩⟩⟩, (zr_rowA hM192 hP.2.2.2.2.1 (by omega) (by rw [show I189 18 a1.toNatClampNeg = (I 12 7) from (by rw [fI189 18 a1.toNatClampNeg (z_wr_c (by decide)), fI172 18 a1.toNatClampNeg (z_wr_c (by decide)), fI163 18 a1.toNatClampNeg (z_wr_c (by decide)), eI23, z_up_n (by decide), eI15, z_up_n (by decide), eI5, z_up_s])] <;> omega) (by rw [show I189 19 a1.toNatClampNeg = (I 12 9) from (by rw [fI189 19 a1.toNatClampNeg (z_wr_c (by decide)), fI172 19 a1.toNatClampNeg (z_wr_c (by decide)), fI163 19 a1.toNatClampNeg (z_wr_c (by decide)), eI23, z_up_n (by decide), eI15, z_up_s])] <;> omega) (by have := z_lm1; rw [show I189 20 a1.toNatClampNeg = (-1) from (by rw [fI189 20 a1.toNatClampNeg (z_wr_c (by decide)), fI172 20 a1.toNatClampNeg (z_wr_c (by decide)), fI163 20 a1.toNatClampNeg (z_wr_c (by decide)), eI23, z_up_s])] <;> omega)), (fun j hj => ⟨by rw [fI189 18 j (z_wr_c (by decide)), fI172 18 j (z_wr_c (by decide)), fI163 18 j (z_wr_c (by decide)), eI23, z_up_n (by decide), eI15, z_up_n (by decide), eI5, z_up_k hj], by rw [fI189 19 j (z_wr_c (by decide)), fI172 19 j (z_wr_c (by decide)), fI163 19 j (z_wr_c (by decide)), eI23, z_up_n (by decide), eI15, z_up_k hj, eI5, z_up_n (by decide)], by rw [fI189 20 j (z_wr_c (by decide)), fI172 20 j (z_wr_c (by decide)), fI163 20 j (z_wr_c (by decide)), eI23, z_up_k hj, eI15, z_up_n (by decide), eI5, z_up_n (by decide)]⟩)⟩)⟩
        · have g201 := z_f_eq rfl z_l308 c198
          have b202 := Int32.toInt_lt (I189 12 7)
          refine lv_aload_n hx hb dX9_statement_89 rfl (lv_at hl 0 rfl) ?_
          refine lv_iload_n hx hb dX9_statement_90 rfl (lv_at hl 1 rfl) ?_
          refine z_ci hW hS hA (va_runV (As := [.int a1]) (rest := []) ⟨hx, hb, hml, hown, hts⟩ (sx_X9_condition_x l G ad c I189 ⟨(by show 0 ≤ (I189 12 1).toInt ∧ (I189 12 1).toInt ≤ 500; exact hI189R.1), (by show 0 ≤ (I189 12 5).toInt ∧ (I189 12 5).toInt ≤ 501; exact hI189R.2.1), (by show (-1) ≤ (I189 12 6).toInt ∧ (I189 12 6).toInt ≤ 1000000; exact hI189R.2.2.1), (by show 0 ≤ (I189 12 9).toInt ∧ (I189 12 9).toInt ≤ 500; exact hI189R.2.2.2.1), (by show 0 ≤ (I189 12 13).toInt ∧ (I189 12 13).toInt ≤ 24; exact hI189R.2.2.2.2)⟩ (by show (I189 12 6).toInt ≤ 501 ∧ ((I189 12 7).toInt = 401 ∨ (I189 12 6).toInt ≤ 500); first | omega | decide) k175 a1 (zr_P_m hP hM192 (by omega)) (by rw [zr_tkS hM192]; omega) (by omega) _) (cwV 1 hts gX9_statement_X9_condition rfl rfl rfl (by decide +kernel) ⟨Nat.le_of_ble_eq_true rfl, Nat.le_of_ble_eq_true rfl⟩) (z_preV (i := 12) hK hW rfl rfl) rfl rfl hl.1 rfl (lv_room (Nat.le_of_ble_eq_true rfl)) dX9_statement_91 ⟨Nat.le_of_ble_eq_true rfl, Nat.le_of_ble_eq_true rfl⟩) (fun r u1 H locs hp hW hS => ?_)
          obtain ⟨I203, e9, hI203R, hI203T, fI203, hp⟩ := hp
          rw [e9] at hW
          have f204 := z_fr_sub (L := L_X9_statement_x) f190 fI203 (by decide)
          have k205 : (I203 12 6).toInt ≤ 501 ∧ ((I203 12 7).toInt = 401 ∨ (I203 12 6).toInt ≤ 500) := hI203T
          rcases hp with ⟨rfl, hq⟩ | ⟨rfl, hq⟩
          · obtain ⟨k206, cs207, hm208, h209, h210, h211, hs213, hs214⟩ := hq
            have ho212 := zr_okS hM192 h211
            have hM215 := zr_M_t hM192 hm208 hP.2.2.2.2.1
            have h216 := hM215.1
            have h217 := hM215.2.1
            have h218 := hM215.2.2.1
            have h219 := hM215.2.2.2.1
            have l220 : (((cs176 ++ [(-13)]) ++ (cs207 ++ [-13]))).length = cs176.length + 1 + (cs207.length + 1) := by first | rfl | (simp only [List.length_append, List.length_cons, List.length_nil] <;> omega)
            refine lv_if_eq (tgt := 101) hx hb dX9_statement_94 (by decide) (fun c221 => absurd c221 (by decide)) (fun c221 => ?_)
            refine lv_iconst (v := 1) hx hb dX9_statement_97 (by decide) ?_
            refine lv_goto (tgt := 102) hx hb dX9_statement_98 (by decide) ?_
            exact z_zret hx hb hr (by decide) hK hS (Nat.le_of_ble_eq_true rfl) (Nat.le_of_ble_eq_true rfl) hlocks dX9_statement_102 (shC c, ad, I203, JX, PC c ad) hW ⟨I203, rfl, ⟨(by show 0 ≤ (I203 12 1).toInt ∧ (I203 12 1).toInt ≤ 500; exact hI203R.1), (by show 0 ≤ (I203 12 5).toInt ∧ (I203 12 5).toInt ≤ 501; exact hI203R.2.1), (by show (-1) ≤ (I203 12 6).toInt ∧ (I203 12 6).toInt ≤ 1000000; exact hI203R.2.2.1), (by show 0 ≤ (I203 12 9).toInt ∧ (I203 12 9).toInt ≤ 500; exact hI203R.2.2.2.1), (by show 0 ≤ (I203 12 13).toInt ∧ (I203 12 13).toInt ≤ 24; exact hI203R.2.2.2.2)⟩, (by show (I203 12 6).toInt ≤ 501 ∧ ((I203 12 7).toInt = 401 ∨ (I203 12 6).toInt ≤ 500); first | omega | decide), f204, (Or.inl ⟨rfl, k206, (zr_tk I k, 0, cs176, cs207), ((cs176 ++ [(-13)]) ++ (cs207 ++ [-13])), hM215, by omega, by omega, ⟨by show zr_tk I k = zr_tk I k; rfl, Or.inl ⟨by show zr_tk I k = 300 ∨ zr_tk I k = 301; omega, _, ho181, Or.inl ⟨by omega, ho212, zp_ok_ne hva (Or.inr rfl) ho212⟩⟩⟩, (zr_rowB hM215 hP.2.2.2.2.1 (by omega) (zp_ok_ne hva (Or.inr rfl) ho212) (by rw [show I203 18 a1.toNatClampNeg = (I 12 7) from (by rw [fI203 18 a1.toNatClampNeg (z_wr_c (by decide)), fI189 18 a1.toNatClampNeg (z_wr_c (by decide)), fI172 18 a1.toNatClampNeg (z_wr_c (by decide)), fI163 18 a1.toNatClampNeg (z_wr_c (by decide)), eI23, z_up_n (by decide), eI15, z_up_n (by decide), eI5, z_up_s])] <;> omega) (by rw [show I203 19 a1.toNatClampNeg = (I 12 9) from (by rw [fI203 19 a1.toNatClampNeg (z_wr_c (by decide)), fI189 19 a1.toNatClampNeg (z_wr_c (by decide)), fI172 19 a1.toNatClampNeg (z_wr_c (by decide)), fI163 19 a1.toNatClampNeg (z_wr_c (by decide)), eI23, z_up_n (by decide), eI15, z_up_s])] <;> omega) (by rw [hs213]; omega)), (fun j hj => ⟨by rw [fI203 18 j (z_wr_c (by decide)), fI189 18 j (z_wr_c (by decide)), fI172 18 j (z_wr_c (by decide)), fI163 18 j (z_wr_c (by decide)), eI23, z_up_n (by decide), eI15, z_up_n (by decide), eI5, z_up_k hj], by rw [fI203 19 j (z_wr_c (by decide)), fI189 19 j (z_wr_c (by decide)), fI172 19 j (z_wr_c (by decide)), fI163 19 j (z_wr_c (by decide)), eI23, z_up_n (by decide), eI15, z_up_k hj, eI5, z_up_n (by decide)], by rw [hs214 j hj, fI189 20 j (z_wr_c (by decide)), fI172 20 j (z_wr_c (by decide)), fI163 20 j (z_wr_c (by decide)), eI23, z_up_k hj, eI15, z_up_n (by decide), eI5, z_up_n (by decide)]⟩)⟩)⟩
          · obtain ⟨f222, hf223, h224⟩ := hq
            have hb225 := zr_noS hM192 h224
            have hF226 := zr_F_m hM192 hf223
            refine lv_if_eq (tgt := 101) hx hb dX9_statement_94 (by decide) (fun c227 => ?_) (fun c227 => absurd (by decide) c227)
            refine lv_iconst (v := 0) hx hb dX9_statement_101 (by decide) ?_
            exact z_zret hx hb hr (by decide) hK hS (Nat.le_of_ble_eq_true rfl) (Nat.le_of_ble_eq_true rfl) hlocks dX9_statement_102 (shC c, ad, I203, JX, PC c ad) hW ⟨I203, rfl, ⟨(by show 0 ≤ (I203 12 1).toInt ∧ (I203 12 1).toInt ≤ 500; exact hI203R.1), (by show 0 ≤ (I203 12 5).toInt ∧ (I203 12 5).toInt ≤ 501; exact hI203R.2.1), (by show (-1) ≤ (I203 12 6).toInt ∧ (I203 12 6).toInt ≤ 1000000; exact hI203R.2.2.1), (by show 0 ≤ (I203 12 9).toInt ∧ (I203 12 9).toInt ≤ 500; exact hI203R.2.2.2.1), (by show 0 ≤ (I203 12 13).toInt ∧ (I203 12 13).toInt ≤ 24; exact hI203R.2.2.2.2)⟩, (by show (I203 12 6).toInt ≤ 501 ∧ ((I203 12 7).toInt = 401 ∨ (I203 12 6).toInt ≤ 500); first | omega | decide), f204, (Or.inr ⟨rfl, f222, hF226, (Or.inl ⟨by omega, Or.inr ⟨_, _, ho181, by omega, hb225⟩⟩)⟩)⟩
      · obtain ⟨f228, hf229, h230⟩ := hq
        have hb231 := zr_noS hM166 h230
        have hF232 := zr_F_m hM166 hf229
        refine lv_if_ne (tgt := 73) hx hb dX9_statement_68 (by decide) (fun c233 => absurd (by decide) c233) (fun c233 => ?_)
        refine lv_iconst (v := 0) hx hb dX9_statement_71 (by decide) ?_
        exact z_zret hx hb hr (by decide) hK hS (Nat.le_of_ble_eq_true rfl) (Nat.le_of_ble_eq_true rfl) hlocks dX9_statement_72 (shC c, ad, I172, JX, PC c ad) hW ⟨I172, rfl, ⟨(by show 0 ≤ (I172 12 1).toInt ∧ (I172 12 1).toInt ≤ 500; exact hI172R.1), (by show 0 ≤ (I172 12 5).toInt ∧ (I172 12 5).toInt ≤ 501; exact hI172R.2.1), (by show (-1) ≤ (I172 12 6).toInt ∧ (I172 12 6).toInt ≤ 1000000; exact hI172R.2.2.1), (by show 0 ≤ (I172 12 9).toInt ∧ (I172 12 9).toInt ≤ 500; exact hI172R.2.2.2.1), (by show 0 ≤ (I172 12 13).toInt ∧ (I172 12 13).toInt ≤ 24; exact hI172R.2.2.2.2)⟩, (by show (I172 12 6).toInt ≤ 501 ∧ ((I172 12 7).toInt = 401 ∨ (I172 12 6).toInt ≤ 500); first | omega | decide), f173, (Or.inr ⟨rfl, f228, hF232, (Or.inl ⟨by omega, Or.inl hb231⟩)⟩)⟩
