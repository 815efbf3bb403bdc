section SG60z9


/-! COUPONS -/
theorem zi_R_c {mo td mo1 td1 : Nat → Int} {m k : Int} {n : Nat} {u r : Int} {a a1 : Nat → Int} (hc : ∀ j, j < n → mo1 j = mo j ∧ td1 j = td j) (ha : ∀ j, j < n → a1 j = a j) (h : zi_R mo td m k n u a r) : zi_R mo1 td1 m k n u a1 r := by
  obtain ⟨b, hB, q⟩ := h
  refine ⟨b, zi_B_c hc hB, ?_⟩
  rcases q with q | ⟨j, q1, q2, q3⟩
  · exact Or.inl q
  · exact Or.inr ⟨j, q1, q2, by rw [ha j q2]; exact q3⟩
/-- what is told, as a number -/
noncomputable def zb_f (mo td : Nat → Int) (m k : Int) (n : Nat) (u : Int) (a : Nat → Int) : Int := Classical.epsilon (fun r => zi_R mo td m k n u a r)
theorem zb_f_e {mo td : Nat → Int} {m k : Int} {n : Nat} {u r : Int} {a : Nat → Int} (h : zi_R mo td m k n u a r) : r = zb_f mo td m k n u a :=
  zi_R_u h (Classical.epsilon_spec (p := fun r => zi_R mo td m k n u a r) ⟨r, h⟩) (fun _ _ => ⟨rfl, rfl⟩) (fun _ _ => rfl)
theorem zb_f_c {mo td mo1 td1 : Nat → Int} {m k : Int} {n : Nat} {u : Int} {a a1 : Nat → Int} (hc : ∀ j, j < n → mo1 j = mo j ∧ td1 j = td j) (ha : ∀ j, j < n → a1 j = a j) : zb_f mo1 td1 m k n u a1 = zb_f mo td m k n u a := by
  unfold zb_f
  refine congrArg Classical.epsilon (funext fun r => propext ⟨fun h => ?_, fun h => ?_⟩)
  · exact zi_R_c (fun j hj => ⟨(hc j hj).1.symm, (hc j hj).2.symm⟩) (fun j hj => (ha j hj).symm) h
  · exact zi_R_c hc ha h
noncomputable def zb_ax (c : z_C) (I : z_I) (t m k : Int) : Int := zb_f (zi_mo I) (zi_td I) m k c.2.1 (zi_us t) (zi_ax c I t)
noncomputable def zb_am (K : z_I) (t m k : Int) : Int := zb_f (zi_km K) (zi_kt K) m k (K 0 13).toNatClampNeg (zi_us t) (zi_am K t)
theorem zb_a_e {c : z_C} {I K : z_I} {t m k : Int} (h : z_OW c I K) (hn : (K 0 13).toNatClampNeg = c.2.1) (ht : 0 ≤ t) : zb_ax c I t m k = zb_am K t m k := by
  unfold zb_ax zb_am
  rw [hn]
  refine zb_f_c (fun j hj => ?_) (fun j hj => zi_axm h ht j hj)
  obtain ⟨rs, F0, g1, g2, g3, _⟩ := h j hj
  exact ⟨g1, g3⟩
/-- whether a COUPON is issued -/
noncomputable abbrev zb_hx (I : z_I) (a : Int) : Prop := 0 ≤ a ∧ a < 72000 ∧ a % 100 < (I 27 (a / 100).toNat).toInt
noncomputable abbrev zb_hm (I : z_I) (a : Int) : Prop := 0 ≤ a ∧ a < 72000 ∧ a % 100 < (I 31 (a / 100).toNat).toInt - 1
theorem zb_h_e {Ix Im : z_I} {a : Int} (h : z_RI Ix Im) : zb_hx Ix a ↔ zb_hm Im a := by
  unfold zb_hx zb_hm
  refine ⟨fun ⟨h1, h2, h3⟩ => ?_, fun ⟨h1, h2, h3⟩ => ?_⟩
  · have q := h (a / 100).toNat (by omega)
    exact ⟨h1, h2, by omega⟩
  · have q := h (a / 100).toNat (by omega)
    exact ⟨h1, h2, by omega⟩
/-- where it is LENT: the first row, -1 if in none -/
noncomputable def zb_K (I : z_I) (a : Int) : Nat → Int
  | 0 => -1
  | n + 1 => if zb_K I a n ≠ -1 then zb_K I a n else if (I 28 n).toInt = a then (n : Int) else -1
theorem zb_K_n {I : z_I} {a : Int} {n : Nat} (h : zb_K I a n = -1) (h2 : ¬ (I 28 n).toInt = a) : zb_K I a (n + 1) = -1 := by
  rw [zb_K, if_neg (fun q => q h), if_neg h2]
theorem zb_K_y {I : z_I} {a : Int} {n : Nat} (h : zb_K I a n = -1) (h2 : (I 28 n).toInt = a) : zb_K I a (n + 1) = (n : Int) := by
  rw [zb_K, if_neg (fun q => q h), if_pos h2]
theorem zb_K_s {I : z_I} {a : Int} {n : Nat} (h : ¬ zb_K I a n = -1) : ∀ d : Nat, zb_K I a (n + d) = zb_K I a n
  | 0 => rfl
  | d + 1 => by
    have ih := zb_K_s h d
    show zb_K I a (n + d + 1) = _
    rw [zb_K, if_pos (by rw [ih]; exact h), ih]
theorem zb_K_m {I : z_I} {a : Int} {n N : Nat} (h : ¬ zb_K I a n = -1) (hN : n ≤ N) : zb_K I a N = zb_K I a n := by
  have q := zb_K_s h (N - n)
  rw [show n + (N - n) = N by omega] at q
  exact q
theorem zb_K_b {I : z_I} {a : Int} : ∀ n : Nat, -1 ≤ zb_K I a n ∧ zb_K I a n < (n : Int)
  | 0 => ⟨by rw [zb_K]; omega, by rw [zb_K]; omega⟩
  | n + 1 => by
    have ih := zb_K_b (I := I) (a := a) n
    rw [zb_K]
    split
    · omega
    · split <;> omega
theorem zb_K_c {I K : z_I} {a : Int} : ∀ n : Nat, (∀ j, j < n → K 28 j = I 28 j) → zb_K K a n = zb_K I a n
  | 0, _ => rfl
  | n + 1, h => by rw [zb_K, zb_K, zb_K_c n (fun j hj => h j (by omega)), h n (Nat.lt_succ_self n)]
/-- how many of a book are LENT -/
noncomputable def zb_C (I : z_I) (b : Int) : Nat → Int
  | 0 => 0
  | n + 1 => zb_C I b n + if (I 28 n).toInt / 100 = b then 1 else 0
theorem zb_C_y {I : z_I} {b : Int} {n : Nat} (h : (I 28 n).toInt / 100 = b) : zb_C I b (n + 1) = zb_C I b n + 1 := by rw [zb_C, if_pos h]
theorem zb_C_n {I : z_I} {b : Int} {n : Nat} (h : ¬ (I 28 n).toInt / 100 = b) : zb_C I b (n + 1) = zb_C I b n := by rw [zb_C, if_neg h, Int.add_zero]
theorem zb_C_c {I K : z_I} {b : Int} : ∀ n : Nat, (∀ j, j < n → K 28 j = I 28 j) → zb_C K b n = zb_C I b n
  | 0, _ => rfl
  | n + 1, h => by rw [zb_C, zb_C, zb_C_c n (fun j hj => h j (by omega)), h n (Nat.lt_succ_self n)]
/-- how many of a book are LENT, the reference -/
noncomputable def zb_M (K : z_I) (b : Int) : Nat → Int
  | 0 => 0
  | n + 1 => zb_M K b n + if 0 < (K 32 (100 * b + (n : Int)).toNat).toInt then 1 else 0
theorem zb_M_y {K : z_I} {b : Int} {n : Nat} (h : 0 < (K 32 (100 * b + (n : Int)).toNat).toInt) : zb_M K b (n + 1) = zb_M K b n + 1 := by rw [zb_M, if_pos h]
theorem zb_M_n {K : z_I} {b : Int} {n : Nat} (h : ¬ 0 < (K 32 (100 * b + (n : Int)).toNat).toInt) : zb_M K b (n + 1) = zb_M K b n := by rw [zb_M, if_neg h, Int.add_zero]
theorem zb_M_c {I K : z_I} {b : Int} : ∀ n : Nat, (∀ j, j < n → K 32 (100 * b + (j : Int)).toNat = I 32 (100 * b + (j : Int)).toNat) → zb_M K b n = zb_M I b n
  | 0, _ => rfl
  | n + 1, h => by rw [zb_M, zb_M, zb_M_c n (fun j hj => h j (by omega)), h n (Nat.lt_succ_self n)]
/-- one more of the book's COUPONS is LENT -/
theorem zb_M_1 {I K : z_I} {b : Int} {k : Nat} (hb : 0 ≤ b) (h0 : ¬ 0 < (I 32 (100 * b + (k : Int)).toNat).toInt) (h1 : 0 < (K 32 (100 * b + (k : Int)).toNat).toInt) (h2 : ∀ j : Nat, j ≠ k → K 32 (100 * b + (j : Int)).toNat = I 32 (100 * b + (j : Int)).toNat) : ∀ n : Nat, zb_M K b n = zb_M I b n + if k < n then 1 else 0
  | 0 => by rw [zb_M, zb_M, if_neg (Nat.not_lt_zero k), Int.add_zero]
  | n + 1 => by
    have ih := zb_M_1 hb h0 h1 h2 n
    by_cases q : n = k
    · subst q
      rw [zb_M_y h1, zb_M_n h0, ih, if_neg (Nat.lt_irrefl n), if_pos (Nat.lt_succ_self n), Int.add_zero]
    · rw [zb_M, zb_M, ih, h2 n q]
      by_cases w : k < n
      · rw [if_pos w, if_pos (by omega : k < n + 1)]
        omega
      · rw [if_neg w, if_neg (by omega : ¬ k < n + 1)]
        omega
/-- whether a POUR of a COUPON is judged -/
noncomputable def zf_h (C V : Nat → Int) (a : Int) : Nat → Bool
  | 0 => false
  | n + 1 => zf_h C V a n || decide (C n = a ∧ ¬ V n = -1)
theorem zf_h_y {C V : Nat → Int} {a : Int} {n : Nat} (h : C n = a ∧ ¬ V n = -1) : zf_h C V a (n + 1) = true := by
  rw [zf_h, decide_eq_true h, Bool.or_true]
theorem zf_h_n {C V : Nat → Int} {a : Int} {n : Nat} (h0 : zf_h C V a n = false) (h : ¬ (C n = a ∧ ¬ V n = -1)) : zf_h C V a (n + 1) = false := by
  rw [zf_h, decide_eq_false h, h0]
  rfl
theorem zf_h_m {C V : Nat → Int} {a : Int} {n : Nat} (h : zf_h C V a n = true) : ∀ d : Nat, zf_h C V a (n + d) = true
  | 0 => h
  | d + 1 => by
    show zf_h C V a (n + d + 1) = true
    rw [zf_h, zf_h_m h d]
    rfl
theorem zf_h_M {C V : Nat → Int} {a : Int} {n N : Nat} (h : zf_h C V a n = true) (hN : n ≤ N) : zf_h C V a N = true := by
  have q := zf_h_m h (N - n)
  rw [show n + (N - n) = N by omega] at q
  exact q
theorem zf_h_i {C V : Nat → Int} {a : Int} : ∀ n : Nat, zf_h C V a n = true ↔ ∃ p, p < n ∧ C p = a ∧ ¬ V p = -1
  | 0 => ⟨fun h => absurd h Bool.false_ne_true, fun ⟨p, hp, _⟩ => absurd hp (Nat.not_lt_zero p)⟩
  | n + 1 => by
    rw [zf_h, Bool.or_eq_true, zf_h_i n, decide_eq_true_iff]
    refine ⟨fun h => ?_, fun ⟨p, hp, h⟩ => ?_⟩
    · rcases h with ⟨p, hp, h⟩ | h
      · exact ⟨p, by omega, h⟩
      · exact ⟨n, Nat.lt_succ_self n, h⟩
    · by_cases q : p = n
      · subst q
        exact Or.inr h
      · exact Or.inl ⟨p, by omega, h⟩
noncomputable def zp_C (I : z_I) (j : Nat) : Int := (I 33 j).toInt
noncomputable def zp_Vw (I : z_I) (j : Nat) : Int := (I 36 j).toInt
noncomputable def zb_h (I : z_I) (a : Int) (n : Nat) : Bool := zf_h (zp_C I) (zp_Vw I) a n
theorem zb_h_y {I : z_I} {a : Int} {n : Nat} (h : (I 33 n).toInt = a ∧ ¬ (I 36 n).toInt = -1) : zb_h I a (n + 1) = true := zf_h_y h
theorem zb_h_n {I : z_I} {a : Int} {n : Nat} (h0 : zb_h I a n = false) (h : ¬ ((I 33 n).toInt = a ∧ ¬ (I 36 n).toInt = -1)) : zb_h I a (n + 1) = false := zf_h_n h0 h
theorem zb_h_M {I : z_I} {a : Int} {n N : Nat} (h : zb_h I a n = true) (hN : n ≤ N) : zb_h I a N = true := zf_h_M h hN
/-- whose a COUPON is -/
noncomputable def zb_O (I : z_I) (a : Int) : Int := if zb_K I a (I 26 4).toNatClampNeg = -1 then a / 2400 else (I 29 (zb_K I a (I 26 4).toNatClampNeg).toNat).toInt
noncomputable def zb_P (K : z_I) (a : Int) : Int := if 0 < (K 32 a.toNat).toInt then (K 32 a.toNat).toInt - 1 else a / 2400
set_option maxHeartbeats 8000000 in
set_option maxRecDepth 100000 in
theorem sx_X0_has_c (l : Launch) (G : z_G) (ad : Nat → Nat) (c : z_C) (I : z_I) (a1 : Int32) : z_M l yX0_has wsX0_has { frames := 1, cells := 0, slots := 0, locals := 12 } [.ref (ad 26), .int a1] G (shC c, ad, I, JX, PC c ad) (fun r u1 => u1 = (shC c, ad, I, JX, PC c ad) ∧ ((r = 1 ∧ zb_hx I a1.toInt) ∨ (r = 0 ∧ ¬ zb_hx I a1.toInt))) 0 0 := by
  intro sz
  refine z_headQ (cc := cX0_has) (maxL := 3) (ret := (some .boolean)) (by decide) rfl (Nat.le_of_ble_eq_true rfl) ?_
  intro p e s m below meth c0 ls hIn hK hsz hW hl
  obtain ⟨hx, hb, hr, hml, hown, hts, hlocks, hname⟩ := hIn
  subst hsz
  have hown : s.vm.findClass RX0 = some m.cls := hown
  have hA : ∀ q : Nat, s.heap.size ≤ q → z_A (shC c, ad, I, JX, PC c ad) s.heap.size q := fun q h => Or.inr h
  generalize hAe : z_A (shC c, ad, I, JX, PC c ad) s.heap.size = A at *
  have hS : va_S A s.heap s.heap [] := va_S.rf
  have hl : lv_has ls 3 [(0, .ref (ad 26)), (1, .int a1)] := hl
  refine lv_iload_n hx hb dX0_has_0 rfl (lv_at hl 1 rfl) ?_
  refine lv_bipush (v := 100) hx hb dX0_has_1 (by decide) ?_
  refine lv_idiv hx hb dX0_has_3 (by decide) ?_
  refine lv_topi (fun x1 ex1 => ?_)
  have tx1 := z_tdiv ex1 rfl z_l100 (by decide)
  refine lv_istore_n (lv' := [(2, .int x1), (0, .ref (ad 26)), (1, .int a1)]) hx hb dX0_has_4 rfl hl (by decide) rfl (fun ls hl => ?_)
  refine lv_iload_n hx hb dX0_has_5 rfl (lv_at hl 2 rfl) ?_
  refine lv_if_lt (tgt := 35) hx hb dX0_has_6 (by decide) (fun c2 => ?_) (fun c2 => ?_)
  · have g3 := z_f_lt rfl z_l0 c2
    have b4 := Int32.toInt_lt a1
    refine lv_iconst (v := 0) hx hb dX0_has_35 (by decide) ?_
    exact z_zret hx hb hr (by decide) hK hS (Nat.le_of_ble_eq_true rfl) (Nat.le_of_ble_eq_true rfl) hlocks dX0_has_36 (shC c, ad, I, JX, PC c ad) hW ⟨rfl, (Or.inr ⟨rfl, (by unfold zb_hx; omega)⟩)⟩
  · have g5 := z_f_nlt rfl z_l0 c2
    have b6 := Int32.toInt_lt a1
    refine lv_iload_n hx hb dX0_has_9 rfl (lv_at hl 0 rfl) ?_
    refine lv_aload_n hx hb dX0_has_10 rfl (lv_at hl 1 rfl) ?_
    refine z_get (T := TX0) (N := 5) (ci := 0) (i := 26) (v := .ref (ad 27)) hx hb hts zj_X0_has_X0 hown hK hW rfl rfl 0 (by decide) (hts (.fieldLink RX0 9 "PetrolBoard$Coupons" "issued" "[I") (me_s (me_l (List.mem_of_getElem? (i := 0) rfl)))) (fun _ h => h) rfl dX0_has_11 ?_
    refine z_alen (i := 27) (v := 720) hx hb hK hW rfl (by simp [z_tys]) (by rfl) dX0_has_14 ?_
    refine lv_icmp_ge (tgt := 35) hx hb dX0_has_15 (by decide) (fun c7 => ?_) (fun c7 => ?_)
    · have g8 := z_f_ge rfl z_l720 c7
      have b9 := Int32.toInt_lt x1
      refine lv_iconst (v := 0) hx hb dX0_has_35 (by decide) ?_
      exact z_zret hx hb hr (by decide) hK hS (Nat.le_of_ble_eq_true rfl) (Nat.le_of_ble_eq_true rfl) hlocks dX0_has_36 (shC c, ad, I, JX, PC c ad) hW ⟨rfl, (Or.inr ⟨rfl, (by unfold zb_hx; omega)⟩)⟩
    · have g10 := z_f_nge rfl z_l720 c7
      have b11 := Int32.toInt_lt x1
      refine lv_iload_n hx hb dX0_has_18 rfl (lv_at hl 2 rfl) ?_
      refine lv_bipush (v := 100) hx hb dX0_has_19 (by decide) ?_
      refine lv_irem hx hb dX0_has_21 (by decide) ?_
      refine lv_topi (fun x12 ex12 => ?_)
      have tx12 := z_trem ex12 rfl z_l100 (by decide)
      refine lv_aload_n hx hb dX0_has_22 rfl (lv_at hl 1 rfl) ?_
      refine z_get (T := TX0) (N := 5) (ci := 0) (i := 26) (v := .ref (ad 27)) hx hb hts zj_X0_has_X0 hown hK hW rfl rfl 0 (by decide) (hts (.fieldLink RX0 9 "PetrolBoard$Coupons" "issued" "[I") (me_s (me_l (List.mem_of_getElem? (i := 0) rfl)))) (fun _ h => h) rfl dX0_has_23 ?_
      refine lv_iload_n hx hb dX0_has_26 rfl (lv_at hl 0 rfl) ?_
      refine z_iald (i := 27) hx hb hK hW rfl (z_ix rfl (by omega) (by omega)) dX0_has_27 ?_
      refine lv_topi (fun x13 ex13 => ?_)
      have hx15 : x1.toInt = a1.toInt / 100 := by omega
      have hv14 : (I 27 (a1.toInt / 100).toNat).toInt = x13.toInt := by rw [ex13]; show _ = (I 27 x1.toInt.toNat).toInt; rw [hx15]
      refine lv_icmp_ge (tgt := 35) hx hb dX0_has_28 (by decide) (fun c16 => ?_) (fun c16 => ?_)
      · have g17 := z_f_ge rfl rfl c16
        have b18 := Int32.toInt_lt x13
        refine lv_iconst (v := 0) hx hb dX0_has_35 (by decide) ?_
        exact z_zret hx hb hr (by decide) hK hS (Nat.le_of_ble_eq_true rfl) (Nat.le_of_ble_eq_true rfl) hlocks dX0_has_36 (shC c, ad, I, JX, PC c ad) hW ⟨rfl, (Or.inr ⟨rfl, (by unfold zb_hx; omega)⟩)⟩
      · have g19 := z_f_nge rfl rfl c16
        have b20 := Int32.toInt_lt x13
        refine lv_iconst (v := 1) hx hb dX0_has_31 (by decide) ?_
        refine lv_goto (tgt := 36) hx hb dX0_has_32 (by decide) ?_
        exact z_zret hx hb hr (by decide) hK hS (Nat.le_of_ble_eq_true rfl) (Nat.le_of_ble_eq_true rfl) hlocks dX0_has_36 (shC c, ad, I, JX, PC c ad) hW ⟨rfl, (Or.inl ⟨rfl, (by unfold zb_hx; omega)⟩)⟩
set_option maxHeartbeats 8000000 in
set_option maxRecDepth 100000 in
theorem sx_X0_monthOf_c (l : Launch) (G : z_G) (ad : Nat → Nat) (c : z_C) (I : z_I) (a1 : Int32) (q1 : 0 ≤ a1.toInt) : z_M l yX0_monthOf wsX0_monthOf { frames := 1, cells := 0, slots := 0, locals := 12 } [.int a1] G (shC c, ad, I, JX, PC c ad) (fun r u1 => u1 = (shC c, ad, I, JX, PC c ad) ∧ (r.toInt = a1.toInt / 100 % 24)) 0 0 := by
  intro sz
  refine z_headQ (cc := cX0_monthOf) (maxL := 1) (ret := (some .int)) (by decide) rfl (Nat.le_of_ble_eq_true rfl) ?_
  intro p e s m below meth c0 ls hIn hK hsz hW hl
  obtain ⟨hx, hb, hr, hml, hown, hts, hlocks, hname⟩ := hIn
  subst hsz
  have hown : s.vm.findClass RX0 = some m.cls := hown
  have hA : ∀ q : Nat, s.heap.size ≤ q → z_A (shC c, ad, I, JX, PC c ad) s.heap.size q := fun q h => Or.inr h
  generalize hAe : z_A (shC c, ad, I, JX, PC c ad) s.heap.size = A at *
  have hS : va_S A s.heap s.heap [] := va_S.rf
  have hl : lv_has ls 1 [(0, .int a1)] := hl
  refine lv_iload_n hx hb dX0_monthOf_0 rfl (lv_at hl 0 rfl) ?_
  refine lv_bipush (v := 100) hx hb dX0_monthOf_1 (by decide) ?_
  refine lv_idiv hx hb dX0_monthOf_3 (by decide) ?_
  refine lv_topi (fun x1 ex1 => ?_)
  have tx1 := z_tdiv ex1 rfl z_l100 (by decide)
  refine lv_bipush (v := 24) hx hb dX0_monthOf_4 (by decide) ?_
  refine lv_irem hx hb dX0_monthOf_6 (by decide) ?_
  refine lv_topi (fun x2 ex2 => ?_)
  have tx2 := z_trem ex2 rfl z_l24 (by decide)
  exact z_iret hx hb hr hK hS (Nat.le_of_ble_eq_true rfl) (Nat.le_of_ble_eq_true rfl) hlocks dX0_monthOf_7 (shC c, ad, I, JX, PC c ad) hW ⟨rfl, (by omega)⟩
set_option maxHeartbeats 8000000 in
set_option maxRecDepth 100000 in
theorem sx_X0_holderOf_c (l : Launch) (G : z_G) (ad : Nat → Nat) (c : z_C) (I : z_I) (a1 : Int32) (q1 : 0 ≤ a1.toInt) : z_M l yX0_holderOf wsX0_holderOf { frames := 1, cells := 0, slots := 0, locals := 12 } [.int a1] G (shC c, ad, I, JX, PC c ad) (fun r u1 => u1 = (shC c, ad, I, JX, PC c ad) ∧ (r.toInt = a1.toInt / 2400)) 0 0 := by
  intro sz
  refine z_headQ (cc := cX0_holderOf) (maxL := 1) (ret := (some .int)) (by decide) rfl (Nat.le_of_ble_eq_true rfl) ?_
  intro p e s m below meth c0 ls hIn hK hsz hW hl
  obtain ⟨hx, hb, hr, hml, hown, hts, hlocks, hname⟩ := hIn
  subst hsz
  have hown : s.vm.findClass RX0 = some m.cls := hown
  have hA : ∀ q : Nat, s.heap.size ≤ q → z_A (shC c, ad, I, JX, PC c ad) s.heap.size q := fun q h => Or.inr h
  generalize hAe : z_A (shC c, ad, I, JX, PC c ad) s.heap.size = A at *
  have hS : va_S A s.heap s.heap [] := va_S.rf
  have hl : lv_has ls 1 [(0, .int a1)] := hl
  refine lv_iload_n hx hb dX0_holderOf_0 rfl (lv_at hl 0 rfl) ?_
  refine lv_bipush (v := 100) hx hb dX0_holderOf_1 (by decide) ?_
  refine lv_idiv hx hb dX0_holderOf_3 (by decide) ?_
  refine lv_topi (fun x1 ex1 => ?_)
  have tx1 := z_tdiv ex1 rfl z_l100 (by decide)
  refine lv_bipush (v := 24) hx hb dX0_holderOf_4 (by decide) ?_
  refine lv_idiv hx hb dX0_holderOf_6 (by decide) ?_
  refine lv_topi (fun x2 ex2 => ?_)
  have tx2 := z_tdiv ex2 rfl z_l24 (by decide)
  exact z_iret hx hb hr hK hS (Nat.le_of_ble_eq_true rfl) (Nat.le_of_ble_eq_true rfl) hlocks dX0_holderOf_7 (shC c, ad, I, JX, PC c ad) hW ⟨rfl, (by omega)⟩
set_option maxHeartbeats 8000000 in
set_option maxRecDepth 100000 in
theorem sx_X0_lentAs_c (l : Launch) (G : z_G) (ad : Nat → Nat) (c : z_C) (I : z_I) (hC : z_iC I) (a1 : Int32) : z_M l yX0_lentAs wsX0_lentAs { frames := 1, cells := 0, slots := 0, locals := 12 } [.ref (ad 26), .int a1] G (shC c, ad, I, JX, PC c ad) (fun r u1 => u1 = (shC c, ad, I, JX, PC c ad) ∧ (r.toInt = zb_K I a1.toInt (I 26 4).toNatClampNeg)) 0 0 := sorry
set_option maxHeartbeats 8000000 in
set_option maxRecDepth 100000 in
theorem sx_X0_isLent_c (l : Launch) (G : z_G) (ad : Nat → Nat) (c : z_C) (I : z_I) (hC : z_iC I) (a1 : Int32) : z_M l yX0_isLent wsX0_isLent { frames := 2, cells := 0, slots := 0, locals := 34 } [.ref (ad 26), .int a1] G (shC c, ad, I, JX, PC c ad) (fun r u1 => u1 = (shC c, ad, I, JX, PC c ad) ∧ ((r = 1 ∧ ¬ zb_K I a1.toInt (I 26 4).toNatClampNeg = -1) ∨ (r = 0 ∧ zb_K I a1.toInt (I 26 4).toNatClampNeg = -1))) 0 0 := by
  intro sz
  refine z_headQ (cc := cX0_isLent) (maxL := 2) (ret := (some .boolean)) (by decide) rfl (Nat.le_of_ble_eq_true rfl) ?_
  intro p e s m below meth c0 ls hIn hK hsz hW hl
  obtain ⟨hx, hb, hr, hml, hown, hts, hlocks, hname⟩ := hIn
  subst hsz
  have hown : s.vm.findClass RX0 = some m.cls := hown
  have hA : ∀ q : Nat, s.heap.size ≤ q → z_A (shC c, ad, I, JX, PC c ad) s.heap.size q := fun q h => Or.inr h
  generalize hAe : z_A (shC c, ad, I, JX, PC c ad) s.heap.size = A at *
  have hS : va_S A s.heap s.heap [] := va_S.rf
  have hl : lv_has ls 2 [(0, .ref (ad 26)), (1, .int a1)] := hl
  refine lv_aload_n hx hb dX0_isLent_0 rfl (lv_at hl 0 rfl) ?_
  refine lv_iload_n hx hb dX0_isLent_1 rfl (lv_at hl 1 rfl) ?_
  refine z_ci hW hS hA (va_runV (As := [.int a1]) (rest := []) ⟨hx, hb, hml, hown, hts⟩ (sx_X0_lentAs_c l G ad c I (by show 0 ≤ (I 26 4).toInt ∧ (I 26 4).toInt ≤ 512; exact hC) a1 _) (cwV 1 hts gX0_isLent_X0_lentAs rfl rfl rfl (by decide +kernel) ⟨Nat.le_of_ble_eq_true rfl, Nat.le_of_ble_eq_true rfl⟩) (z_preV (i := 26) hK hW rfl rfl) rfl rfl hl.1 rfl (lv_room (Nat.le_of_ble_eq_true rfl)) dX0_isLent_2 ⟨Nat.le_of_ble_eq_true rfl, Nat.le_of_ble_eq_true rfl⟩) (fun r u1 H locs hp hW hS => ?_)
  obtain ⟨e9, hp⟩ := hp
  rw [e9] at hW
  refine lv_topi (fun x1 ex1 => ?_)
  rw [← ex1] at hp
  have hP2 := hp
  refine lv_iconst (v := (-1)) hx hb dX0_isLent_5 (by decide) ?_
  refine lv_icmp_eq (tgt := 13) hx hb dX0_isLent_6 (by decide) (fun c3 => ?_) (fun c3 => ?_)
  · have g4 := z_f_eq rfl z_lm1 c3
    have b5 := Int32.toInt_lt x1
    refine lv_iconst (v := 0) hx hb dX0_isLent_13 (by decide) ?_
    exact z_zret hx hb hr (by decide) hK hS (Nat.le_of_ble_eq_true rfl) (Nat.le_of_ble_eq_true rfl) hlocks dX0_isLent_14 (shC c, ad, I, JX, PC c ad) hW ⟨rfl, (Or.inr ⟨rfl, by omega⟩)⟩
  · have g6 := z_f_ne rfl z_lm1 c3
    have b7 := Int32.toInt_lt x1
    refine lv_iconst (v := 1) hx hb dX0_isLent_9 (by decide) ?_
    refine lv_goto (tgt := 14) hx hb dX0_isLent_10 (by decide) ?_
    exact z_zret hx hb hr (by decide) hK hS (Nat.le_of_ble_eq_true rfl) (Nat.le_of_ble_eq_true rfl) hlocks dX0_isLent_14 (shC c, ad, I, JX, PC c ad) hW ⟨rfl, (Or.inl ⟨rfl, by omega⟩)⟩
set_option maxHeartbeats 8000000 in
set_option maxRecDepth 100000 in
theorem sx_X0_lentOfBook_c (l : Launch) (G : z_G) (ad : Nat → Nat) (c : z_C) (I : z_I) (hC : z_iC I) (a1 : Int32) (q1 : 0 ≤ a1.toInt) (hL : ∀ j : Nat, (j : Int) < (I 26 4).toInt → 0 ≤ (I 28 j).toInt ∧ (I 28 j).toInt ≤ 71999) : z_M l yX0_lentOfBook wsX0_lentOfBook { frames := 1, cells := 0, slots := 0, locals := 12 } [.ref (ad 26), .int a1] G (shC c, ad, I, JX, PC c ad) (fun r u1 => u1 = (shC c, ad, I, JX, PC c ad) ∧ (r.toInt = zb_C I (a1.toInt / 100) (I 26 4).toNatClampNeg)) 0 0 := sorry
noncomputable def L_X0_addLent_c : z_L := [(28, 999), (29, 999), (26, 4)]
set_option maxHeartbeats 8000000 in
set_option maxRecDepth 100000 in
theorem sx_X0_addLent_c (l : Launch) (G : z_G) (ad : Nat → Nat) (c : z_C) (I : z_I) (hC : z_iC I) (a1 : Int32) (a2 : Int32) : z_M l yX0_addLent wsX0_addLent { frames := 1, cells := 0, slots := 0, locals := 12 } [.ref (ad 26), .int a1, .int a2] G (shC c, ad, I, JX, PC c ad) (fun r u1 => ∃ I1 : z_I, u1 = (shC c, ad, I1, JX, PC c ad) ∧ z_iC I1 ∧ z_fr L_X0_addLent_c I1 I ∧ (((I 26 4).toInt < 512 ∧ r = 1 ∧ (I1 26 4).toInt = (I 26 4).toInt + 1 ∧ (∀ j, I1 28 j = if j = (I 26 4).toNatClampNeg then a1 else I 28 j) ∧ ∀ j, I1 29 j = if j = (I 26 4).toNatClampNeg then a2 else I 29 j) ∨ (¬ (I 26 4).toInt < 512 ∧ r = 0 ∧ (I1 26 4).toInt = (I 26 4).toInt ∧ ∀ j, I1 28 j = I 28 j ∧ I1 29 j = I 29 j))) 0 0 := by
  intro sz
  refine z_headQ (cc := cX0_addLent) (maxL := 3) (ret := (some .boolean)) (by decide) rfl (Nat.le_of_ble_eq_true rfl) ?_
  intro p e s m below meth c0 ls hIn hK hsz hW hl
  obtain ⟨hx, hb, hr, hml, hown, hts, hlocks, hname⟩ := hIn
  subst hsz
  have hown : s.vm.findClass RX0 = some m.cls := hown
  have hA : ∀ q : Nat, s.heap.size ≤ q → z_A (shC c, ad, I, JX, PC c ad) s.heap.size q := fun q h => Or.inr h
  generalize hAe : z_A (shC c, ad, I, JX, PC c ad) s.heap.size = A at *
  have hS : va_S A s.heap s.heap [] := va_S.rf
  have hl : lv_has ls 3 [(0, .ref (ad 26)), (1, .int a1), (2, .int a2)] := hl
  refine lv_aload_n hx hb dX0_addLent_0 rfl (lv_at hl 0 rfl) ?_
  have r1 : 0 ≤ (I 26 4).toInt ∧ (I 26 4).toInt ≤ 512 := hC
  refine z_get (T := TX0) (N := 5) (ci := 0) (i := 26) (v := .int (I 26 4)) hx hb hts zj_X0_addLent_X0 hown hK hW rfl rfl 4 (by decide) (hts (.fieldLink RX0 31 "PetrolBoard$Coupons" "lentNumber" "I") (me_s (me_l (List.mem_of_getElem? (i := 0) rfl)))) (fun _ h => h) rfl dX0_addLent_1 ?_
  refine lv_sipush (v := 512) hx hb dX0_addLent_4 (by decide) ?_
  refine lv_icmp_lt (tgt := 12) hx hb dX0_addLent_7 (by decide) (fun c2 => ?_) (fun c2 => ?_)
  · have g3 := z_f_lt rfl z_l512 c2
    refine lv_aload_n hx hb dX0_addLent_12 rfl (lv_at hl 0 rfl) ?_
    refine z_get (T := TX0) (N := 5) (ci := 0) (i := 26) (v := .ref (ad 28)) hx hb hts zj_X0_addLent_X0 hown hK hW rfl rfl 1 (by decide) (hts (.fieldLink RX0 15 "PetrolBoard$Coupons" "lent" "[I") (me_s (me_l (List.mem_of_getElem? (i := 1) rfl)))) (fun _ h => h) rfl dX0_addLent_13 ?_
    refine lv_aload_n hx hb dX0_addLent_16 rfl (lv_at hl 0 rfl) ?_
    refine z_get (T := TX0) (N := 5) (ci := 0) (i := 26) (v := .int (I 26 4)) hx hb hts zj_X0_addLent_X0 hown hK hW rfl rfl 4 (by decide) (hts (.fieldLink RX0 31 "PetrolBoard$Coupons" "lentNumber" "I") (me_s (me_l (List.mem_of_getElem? (i := 0) rfl)))) (fun _ h => h) rfl dX0_addLent_17 ?_
    refine lv_iload_n hx hb dX0_addLent_20 rfl (lv_at hl 1 rfl) ?_
    refine z_iast (i := 28) hx hb hK hW hS rfl (z_ix rfl (by omega) (by omega)) dX0_addLent_21 (fun H locs hz1 hW hS => ?_)
    obtain ⟨I4, eI4⟩ : ∃ K : z_I, K = z_up I 28 (I 26 4).toNatClampNeg a1 := ⟨_, rfl⟩
    rw [← eI4] at hW
    have f5 := z_fr_a z_fr_0 (show z_wa L_X0_addLent_c 28 = true by decide) eI4
    refine lv_aload_n hx hb dX0_addLent_22 rfl (lv_at hl 0 rfl) ?_
    refine z_get (T := TX0) (N := 5) (ci := 0) (i := 26) (v := .ref (ad 29)) hx hb hts zj_X0_addLent_X0 hown hK hW rfl rfl 2 (by decide) (hts (.fieldLink RX0 18 "PetrolBoard$Coupons" "lentTo" "[I") (me_s (me_l (List.mem_of_getElem? (i := 2) rfl)))) (fun _ h => h) rfl dX0_addLent_23 ?_
    refine lv_aload_n hx hb dX0_addLent_26 rfl (lv_at hl 0 rfl) ?_
    refine z_get (T := TX0) (N := 5) (ci := 0) (i := 26) (v := .int (I 26 4)) hx hb hts zj_X0_addLent_X0 hown hK hW rfl rfl 4 (by decide) (hts (.fieldLink RX0 31 "PetrolBoard$Coupons" "lentNumber" "I") (me_s (me_l (List.mem_of_getElem? (i := 0) rfl)))) (fun _ h => h) (congrArg Value.int (by rw [eI4, z_up_n (by decide)])) dX0_addLent_27 ?_
    refine lv_iload_n hx hb dX0_addLent_30 rfl (lv_at hl 2 rfl) ?_
    refine z_iast (i := 29) hx hb hK hW hS rfl (z_ix rfl (by omega) (by omega)) dX0_addLent_31 (fun H locs hz1 hW hS => ?_)
    obtain ⟨I6, eI6⟩ : ∃ K : z_I, K = z_up I4 29 (I 26 4).toNatClampNeg a2 := ⟨_, rfl⟩
    rw [← eI6] at hW
    have f7 := z_fr_a f5 (show z_wa L_X0_addLent_c 29 = true by decide) eI6
    refine lv_aload_n hx hb dX0_addLent_32 rfl (lv_at hl 0 rfl) ?_
    refine lv_dup hx hb dX0_addLent_33 rfl ?_
    refine z_get (T := TX0) (N := 5) (ci := 0) (i := 26) (v := .int (I 26 4)) hx hb hts zj_X0_addLent_X0 hown hK hW rfl rfl 4 (by decide) (hts (.fieldLink RX0 31 "PetrolBoard$Coupons" "lentNumber" "I") (me_s (me_l (List.mem_of_getElem? (i := 0) rfl)))) (fun _ h => h) (congrArg Value.int (by rw [eI6, z_up_n (by decide), eI4, z_up_n (by decide)])) dX0_addLent_34 ?_
    refine lv_iconst (v := 1) hx hb dX0_addLent_37 (by decide) ?_
    refine lv_iadd hx hb dX0_addLent_38 ?_
    refine lv_topi (fun x8 ex8 => ?_)
    have tx8 : x8.toInt = (I 26 4).toInt + 1 := z_tadd ex8 rfl z_l1 (by omega) (by omega)
    refine z_put (T := TX0) (N := 5) (ci := 0) (i := 26) (v := .int x8) (I1 := z_up I6 26 4 x8) (J1 := JX) (P1 := PC c ad) hx hb hts zj_X0_addLent_X0 tyX0 tyX0_ok nmX0 hown hK hW hS rfl rfl 4 (by decide) (hts (.fieldLink RX0 31 "PetrolBoard$Coupons" "lentNumber" "I") (me_s (me_l (List.mem_of_getElem? (i := 0) rfl)))) (fun _ h => h) rfl rfl rfl (by first | rfl | exact congrArg _ z_up_s) (fun a b h ty => z_vI h ty) dX0_addLent_39 (fun H locs hz1 hW hS => ?_)
    obtain ⟨I9, eI9⟩ : ∃ K : z_I, K = z_up I6 26 4 x8 := ⟨_, rfl⟩
    rw [← eI9] at hW
    have f10 := z_fr_k f7 (show z_wr L_X0_addLent_c 26 4 = true by decide) eI9
    refine lv_iconst (v := 1) hx hb dX0_addLent_42 (by decide) ?_
    exact z_zret hx hb hr (by decide) hK hS (Nat.le_of_ble_eq_true rfl) (Nat.le_of_ble_eq_true rfl) hlocks dX0_addLent_43 (shC c, ad, I9, JX, PC c ad) hW ⟨I9, rfl, (by show 0 ≤ (I9 26 4).toInt ∧ (I9 26 4).toInt ≤ 512; rw [eI9, z_up_s]; omega), f10, (Or.inl ⟨by omega, rfl, (by have q9 : (I9 26 4) = x8 := (by rw [eI9, z_up_s]); show (I9 26 4).toInt = (I 26 4).toInt + 1; rw [q9]; first | done | omega), (fun j => by rw [eI9, z_up_n (by decide), eI6, z_up_n (by decide), eI4, z_up_j]), (fun j => by rw [eI9, z_up_n (by decide), eI6, z_up_j, eI4, z_up_n (by decide)])⟩)⟩
  · have g11 := z_f_nlt rfl z_l512 c2
    refine lv_iconst (v := 0) hx hb dX0_addLent_10 (by decide) ?_
    exact z_zret hx hb hr (by decide) hK hS (Nat.le_of_ble_eq_true rfl) (Nat.le_of_ble_eq_true rfl) hlocks dX0_addLent_11 (shC c, ad, I, JX, PC c ad) hW ⟨I, rfl, (by show 0 ≤ (I 26 4).toInt ∧ (I 26 4).toInt ≤ 512; exact hC), z_fr_0, (Or.inr ⟨by omega, rfl, (by show (I 26 4).toInt = (I 26 4).toInt; omega), (fun j => ⟨rfl, rfl⟩)⟩)⟩
set_option maxHeartbeats 8000000 in
set_option maxRecDepth 100000 in
theorem sx_X0_ownerOf_c (l : Launch) (G : z_G) (ad : Nat → Nat) (c : z_C) (I : z_I) (hC : z_iC I) (a1 : Int32) : z_M l yX0_ownerOf wsX0_ownerOf { frames := 2, cells := 0, slots := 0, locals := 34 } [.ref (ad 26), .int a1] G (shC c, ad, I, JX, PC c ad) (fun r u1 => u1 = (shC c, ad, I, JX, PC c ad) ∧ ((¬ zb_hx I a1.toInt ∧ r.toInt = -1) ∨ (zb_hx I a1.toInt ∧ r.toInt = zb_O I a1.toInt))) 0 0 := sorry
set_option maxHeartbeats 8000000 in
set_option maxRecDepth 100000 in
theorem sx_X11_owner_c (l : Launch) (G : z_G) (ad : Nat → Nat) (c : z_C) (I : z_I) (hC : z_iC I) (a1 : Int32) : z_M l yX11_owner wsX11_owner { frames := 3, cells := 0, slots := 0, locals := 56 } [.ref (ad 0), .int a1] G (shC c, ad, I, JX, PC c ad) (fun r u1 => u1 = (shC c, ad, I, JX, PC c ad) ∧ ((¬ zb_hx I a1.toInt ∧ r.toInt = -1) ∨ (zb_hx I a1.toInt ∧ r.toInt = zb_O I a1.toInt))) 0 0 := by
  intro sz
  refine z_headQ (cc := cX11_owner) (maxL := 2) (ret := (some .int)) (by decide) rfl (Nat.le_of_ble_eq_true rfl) ?_
  intro p e s m below meth c0 ls hIn hK hsz hW hl
  obtain ⟨hx, hb, hr, hml, hown, hts, hlocks, hname⟩ := hIn
  subst hsz
  have hown : s.vm.findClass RX11 = some m.cls := hown
  have hA : ∀ q : Nat, s.heap.size ≤ q → z_A (shC c, ad, I, JX, PC c ad) s.heap.size q := fun q h => Or.inr h
  generalize hAe : z_A (shC c, ad, I, JX, PC c ad) s.heap.size = A at *
  have hS : va_S A s.heap s.heap [] := va_S.rf
  have hl : lv_has ls 2 [(0, .ref (ad 0)), (1, .int a1)] := hl
  refine lv_aload_n hx hb dX11_owner_0 rfl (lv_at hl 0 rfl) ?_
  refine z_get (T := TX11) (N := 13) (ci := 11) (i := 0) (v := .ref (ad 26)) hx hb hts zj_X11_owner_X11 hown hK hW rfl rfl 5 (by decide) (hts (.fieldLink RX11 37 "PetrolBoard" "coupons" "LPetrolBoard$Coupons;") (me_s (me_l (me_l (List.mem_of_getElem? (i := 0) rfl))))) (fun _ h => h) rfl dX11_owner_1 ?_
  refine lv_iload_n hx hb dX11_owner_4 rfl (lv_at hl 1 rfl) ?_
  refine z_ci hW hS hA (va_runV (As := [.int a1]) (rest := []) ⟨hx, hb, hml, hown, hts⟩ (sx_X0_ownerOf_c l G ad c I (by show 0 ≤ (I 26 4).toInt ∧ (I 26 4).toInt ≤ 512; exact hC) a1 _) (cwV 1 hts gX11_owner_X0_ownerOf rfl rfl rfl (by decide +kernel) ⟨Nat.le_of_ble_eq_true rfl, Nat.le_of_ble_eq_true rfl⟩) (z_preV (i := 26) hK hW rfl rfl) rfl rfl hl.1 rfl (lv_room (Nat.le_of_ble_eq_true rfl)) dX11_owner_5 ⟨Nat.le_of_ble_eq_true rfl, Nat.le_of_ble_eq_true rfl⟩) (fun r u1 H locs hp hW hS => ?_)
  obtain ⟨e9, hp⟩ := hp
  rw [e9] at hW
  refine lv_topi (fun x1 ex1 => ?_)
  rw [← ex1] at hp
  have hP2 := hp
  exact z_iret hx hb hr hK hS (Nat.le_of_ble_eq_true rfl) (Nat.le_of_ble_eq_true rfl) hlocks dX11_owner_8 (shC c, ad, I, JX, PC c ad) hW ⟨rfl, hP2⟩
set_option maxHeartbeats 8000000 in
set_option maxRecDepth 100000 in
theorem sx_X8_wasHandedIn_c (l : Launch) (G : z_G) (ad : Nat → Nat) (c : z_C) (I : z_I) (hP : z_iP I) (a1 : Int32) : z_M l yX8_wasHandedIn wsX8_wasHandedIn { frames := 1, cells := 0, slots := 0, locals := 12 } [.ref (ad 30), .int a1] G (shC c, ad, I, JX, PC c ad) (fun r u1 => u1 = (shC c, ad, I, JX, PC c ad) ∧ ((r = 1 ∧ zb_h I a1.toInt (I 30 8).toNatClampNeg = true) ∨ (r = 0 ∧ zb_h I a1.toInt (I 30 8).toNatClampNeg = false))) 0 0 := sorry
noncomputable def L_X11_lend_c : z_L := [(28, 999), (29, 999), (26, 4)]
set_option maxHeartbeats 8000000 in
set_option maxRecDepth 100000 in
theorem sx_X11_lend_c (l : Launch) (G : z_G) (ad : Nat → Nat) (c : z_C) (I : z_I) (hO : z_iO I) (hH : z_iH I) (hB : z_iB I) (hC : z_iC I) (hP : z_iP I) (a1 : Int32) (a2 : Int32) (hc : z_okc c) (h10 : c.1 ≤ 10) (hon : (I 21 2).toInt = (c.2.1 : Int)) (hmo : ∀ j, j < c.2.1 → 0 ≤ (I (200 + 5 * j) 0).toInt) (hL : ∀ j : Nat, (j : Int) < (I 26 4).toInt → 0 ≤ (I 28 j).toInt ∧ (I 28 j).toInt ≤ 71999) : z_MS l yX11_lend wsX11_lend { frames := 4, cells := 0, slots := 0, locals := 86 } [.ref (ad 0), .int a1, .int a2] G (shC c, ad, I, JX, PC c ad) (fun r u1 => ∃ I1 : z_I, u1 = (shC c, ad, I1, JX, PC c ad) ∧ z_iO I1 ∧ z_iH I1 ∧ z_iB I1 ∧ z_iC I1 ∧ z_iP I1 ∧ z_fr L_X11_lend_c I1 I ∧ (((zb_hx I a1.toInt ∧ (0 ≤ a2.toInt ∧ a2.toInt < (I 1 5).toInt ∧ ¬ a1.toInt / 2400 = a2.toInt) ∧ zb_K I a1.toInt (I 26 4).toNatClampNeg = -1 ∧ zb_h I a1.toInt (I 30 8).toNatClampNeg = false ∧ zb_C I (a1.toInt / 100) (I 26 4).toNatClampNeg < zb_ax c I 2 (a1.toInt / 100 % 24) (I 0 0).toInt ∧ (I 26 4).toInt < 512) ∧ r = 1 ∧ (I1 26 4).toInt = (I 26 4).toInt + 1 ∧ (∀ j, I1 28 j = if j = (I 26 4).toNatClampNeg then a1 else I 28 j) ∧ ∀ j, I1 29 j = if j = (I 26 4).toNatClampNeg then a2 else I 29 j) ∨ (¬ (zb_hx I a1.toInt ∧ (0 ≤ a2.toInt ∧ a2.toInt < (I 1 5).toInt ∧ ¬ a1.toInt / 2400 = a2.toInt) ∧ zb_K I a1.toInt (I 26 4).toNatClampNeg = -1 ∧ zb_h I a1.toInt (I 30 8).toNatClampNeg = false ∧ zb_C I (a1.toInt / 100) (I 26 4).toNatClampNeg < zb_ax c I 2 (a1.toInt / 100 % 24) (I 0 0).toInt ∧ (I 26 4).toInt < 512) ∧ r = 0 ∧ (I1 26 4).toInt = (I 26 4).toInt ∧ ∀ j, I1 28 j = I 28 j ∧ I1 29 j = I 29 j))) 0 0 := by
  intro sz
  refine z_headS (cc := cX11_lend) (maxL := 4) (ret := (some .boolean)) (by decide) rfl (Nat.le_of_ble_eq_true rfl) ?_
  intro p e s m below meth c0 ls hIn hK hsz hW hl hSt
  obtain ⟨hx, hb, hr, hml, hown, hts, hlocks, hname⟩ := hIn
  subst hsz
  have hown : s.vm.findClass RX11 = some m.cls := hown
  have hA : ∀ q : Nat, s.heap.size ≤ q → z_A (shC c, ad, I, JX, PC c ad) s.heap.size q := fun q h => Or.inr h
  generalize hAe : z_A (shC c, ad, I, JX, PC c ad) s.heap.size = A at *
  have hS : va_S A s.heap s.heap [] := va_S.rf
  have hl : lv_has ls 4 [(0, .ref (ad 0)), (1, .int a1), (2, .int a2)] := hl
  refine lv_aload_n hx hb dX11_lend_0 rfl (lv_at hl 0 rfl) ?_
  refine z_get (T := TX11) (N := 13) (ci := 11) (i := 0) (v := .ref (ad 26)) hx hb hts zj_X11_lend_X11 hown hK hW rfl rfl 5 (by decide) (hts (.fieldLink RX11 37 "PetrolBoard" "coupons" "LPetrolBoard$Coupons;") (me_s (me_l (me_l (me_l (me_l (me_l (me_l (me_l (List.mem_of_getElem? (i := 0) rfl)))))))))) (fun _ h => h) rfl dX11_lend_1 ?_
  refine lv_iload_n hx hb dX11_lend_4 rfl (lv_at hl 1 rfl) ?_
  refine z_ci hW hS hA (va_runV (As := [.int a1]) (rest := []) ⟨hx, hb, hml, hown, hts⟩ (sx_X0_has_c l G ad c I  a1 _) (cwV 1 hts gX11_lend_X0_has rfl rfl rfl (by decide +kernel) ⟨Nat.le_of_ble_eq_true rfl, Nat.le_of_ble_eq_true rfl⟩) (z_preV (i := 26) hK hW rfl rfl) rfl rfl hl.1 rfl (lv_room (Nat.le_of_ble_eq_true rfl)) dX11_lend_5 ⟨Nat.le_of_ble_eq_true rfl, Nat.le_of_ble_eq_true rfl⟩) (fun r u1 H locs hp hW hS => ?_)
  obtain ⟨e9, hp⟩ := hp
  rw [e9] at hW
  rcases hp with ⟨rfl, hb1⟩ | ⟨rfl, hb1⟩
  · refine lv_if_eq (tgt := 30) hx hb dX11_lend_8 (by decide) (fun c2 => absurd c2 (by decide)) (fun c2 => ?_)
    refine lv_aload_n hx hb dX11_lend_11 rfl (lv_at hl 0 rfl) ?_
    refine z_get (T := TX11) (N := 13) (ci := 11) (i := 0) (v := .ref (ad 1)) hx hb hts zj_X11_lend_X11 hown hK hW rfl rfl 2 (by decide) (hts (.fieldLink RX11 16 "PetrolBoard" "holders" "LPetrolBoard$Holders;") (me_s (me_l (me_l (me_l (me_l (me_l (me_l (me_l (List.mem_of_getElem? (i := 1) rfl)))))))))) (fun _ h => h) rfl dX11_lend_12 ?_
    refine lv_iload_n hx hb dX11_lend_15 rfl (lv_at hl 2 rfl) ?_
    refine z_ci hW hS hA (va_runV (As := [.int a2]) (rest := []) ⟨hx, hb, hml, hown, hts⟩ (sx_X2_has_e l G ad c I ⟨(by show 0 ≤ (I 1 5).toInt ∧ (I 1 5).toInt ≤ 30; exact hH.1), (by show 0 ≤ (I 1 11).toInt ∧ (I 1 11).toInt ≤ 200; exact hH.2)⟩ a2 _) (cwV 1 hts gX11_lend_X2_has rfl rfl rfl (by decide +kernel) ⟨Nat.le_of_ble_eq_true rfl, Nat.le_of_ble_eq_true rfl⟩) (z_preV (i := 1) hK hW rfl rfl) rfl rfl hl.1 rfl (lv_room (Nat.le_of_ble_eq_true rfl)) dX11_lend_16 ⟨Nat.le_of_ble_eq_true rfl, Nat.le_of_ble_eq_true rfl⟩) (fun r u1 H locs hp hW hS => ?_)
    obtain ⟨e9, hp⟩ := hp
    rw [e9] at hW
    rcases hp with ⟨rfl, h3⟩ | ⟨rfl, h3⟩
    · have h4 := h3
      have r5 : 0 ≤ (I 1 5).toInt ∧ (I 1 5).toInt ≤ 30 := hH.1
      refine lv_if_eq (tgt := 30) hx hb dX11_lend_19 (by decide) (fun c6 => absurd c6 (by decide)) (fun c6 => ?_)
      refine lv_iload_n hx hb dX11_lend_22 rfl (lv_at hl 1 rfl) ?_
      refine z_ci hW hS hA (va_runS (As := [.int a1]) (rest := []) ⟨hx, hb, hml, hown, hts⟩ (sx_X0_holderOf_c l G ad c I a1 (by have q := hb1.1; omega) _) (va_cwS 1 hts gX11_lend_X0_holderOf rfl rfl rfl (by decide +kernel) ⟨Nat.le_of_ble_eq_true rfl, Nat.le_of_ble_eq_true rfl⟩) (z_preS hK hW) rfl rfl hl.1 rfl (lv_room (Nat.le_of_ble_eq_true rfl)) dX11_lend_23 ⟨Nat.le_of_ble_eq_true rfl, Nat.le_of_ble_eq_true rfl⟩) (fun r u1 H locs hp hW hS => ?_)
      obtain ⟨e9, hp⟩ := hp
      rw [e9] at hW
      refine lv_topi (fun x7 ex7 => ?_)
      rw [← ex7] at hp
      have hP8 := hp
      refine lv_iload_n hx hb dX11_lend_26 rfl (lv_at hl 2 rfl) ?_
      refine lv_icmp_ne (tgt := 32) hx hb dX11_lend_27 (by decide) (fun c9 => ?_) (fun c9 => ?_)
      · have g10 := z_f_ne rfl rfl c9
        have b11 := Int32.toInt_lt x7
        refine lv_aload_n hx hb dX11_lend_32 rfl (lv_at hl 0 rfl) ?_
        refine z_get (T := TX11) (N := 13) (ci := 11) (i := 0) (v := .ref (ad 26)) hx hb hts zj_X11_lend_X11 hown hK hW rfl rfl 5 (by decide) (hts (.fieldLink RX11 37 "PetrolBoard" "coupons" "LPetrolBoard$Coupons;") (me_s (me_l (me_l (me_l (me_l (me_l (me_l (me_l (List.mem_of_getElem? (i := 0) rfl)))))))))) (fun _ h => h) rfl dX11_lend_33 ?_
        refine lv_iload_n hx hb dX11_lend_36 rfl (lv_at hl 1 rfl) ?_
        refine z_ci hW hS hA (va_runV (As := [.int a1]) (rest := []) ⟨hx, hb, hml, hown, hts⟩ (sx_X0_isLent_c l G ad c I (by show 0 ≤ (I 26 4).toInt ∧ (I 26 4).toInt ≤ 512; exact hC) a1 _) (cwV 1 hts gX11_lend_X0_isLent rfl rfl rfl (by decide +kernel) ⟨Nat.le_of_ble_eq_true rfl, Nat.le_of_ble_eq_true rfl⟩) (z_preV (i := 26) hK hW rfl rfl) rfl rfl hl.1 rfl (lv_room (Nat.le_of_ble_eq_true rfl)) dX11_lend_37 ⟨Nat.le_of_ble_eq_true rfl, Nat.le_of_ble_eq_true rfl⟩) (fun r u1 H locs hp hW hS => ?_)
        obtain ⟨e9, hp⟩ := hp
        rw [e9] at hW
        rcases hp with ⟨rfl, hb12⟩ | ⟨rfl, hb12⟩
        · refine lv_if_ne (tgt := 54) hx hb dX11_lend_40 (by decide) (fun c13 => ?_) (fun c13 => absurd c13 (by decide))
          refine lv_iconst (v := 0) hx hb dX11_lend_54 (by decide) ?_
          exact z_zret hx hb hr (by decide) hK hS (Nat.le_of_ble_eq_true rfl) (Nat.le_of_ble_eq_true rfl) hlocks dX11_lend_55 (shC c, ad, I, JX, PC c ad) hW ⟨I, rfl, (by show 0 ≤ (I 21 2).toInt ∧ (I 21 2).toInt ≤ 12; exact hO), ⟨(by show 0 ≤ (I 1 5).toInt ∧ (I 1 5).toInt ≤ 30; exact hH.1), (by show 0 ≤ (I 1 11).toInt ∧ (I 1 11).toInt ≤ 200; exact hH.2)⟩, ⟨(by show 0 ≤ (I 0 0).toInt ∧ (I 0 0).toInt ≤ 719; exact hB.1), (by show 0 ≤ (I 0 8).toInt ∧ (I 0 8).toInt ≤ 10; exact hB.2)⟩, (by show 0 ≤ (I 26 4).toInt ∧ (I 26 4).toInt ≤ 512; exact hC), (by show 0 ≤ (I 30 8).toInt ∧ (I 30 8).toInt ≤ 300; exact hP), z_fr_0, (Or.inr ⟨fun q => hb12 q.2.2.1, rfl, rfl, (fun j => ⟨rfl, rfl⟩)⟩)⟩
        · refine lv_if_ne (tgt := 54) hx hb dX11_lend_40 (by decide) (fun c14 => absurd (by decide) c14) (fun c14 => ?_)
          refine lv_aload_n hx hb dX11_lend_43 rfl (lv_at hl 0 rfl) ?_
          refine z_get (T := TX11) (N := 13) (ci := 11) (i := 0) (v := .ref (ad 30)) hx hb hts zj_X11_lend_X11 hown hK hW rfl rfl 6 (by decide) (hts (.fieldLink RX11 44 "PetrolBoard" "pours" "LPetrolBoard$Pours;") (me_s (me_l (me_l (me_l (me_l (me_l (me_l (me_l (List.mem_of_getElem? (i := 2) rfl)))))))))) (fun _ h => h) rfl dX11_lend_44 ?_
          refine lv_iload_n hx hb dX11_lend_47 rfl (lv_at hl 1 rfl) ?_
          refine z_ci hW hS hA (va_runV (As := [.int a1]) (rest := []) ⟨hx, hb, hml, hown, hts⟩ (sx_X8_wasHandedIn_c l G ad c I (by show 0 ≤ (I 30 8).toInt ∧ (I 30 8).toInt ≤ 300; exact hP) a1 _) (cwV 1 hts gX11_lend_X8_wasHandedIn rfl rfl rfl (by decide +kernel) ⟨Nat.le_of_ble_eq_true rfl, Nat.le_of_ble_eq_true rfl⟩) (z_preV (i := 30) hK hW rfl rfl) rfl rfl hl.1 rfl (lv_room (Nat.le_of_ble_eq_true rfl)) dX11_lend_48 ⟨Nat.le_of_ble_eq_true rfl, Nat.le_of_ble_eq_true rfl⟩) (fun r u1 H locs hp hW hS => ?_)
          obtain ⟨e9, hp⟩ := hp
          rw [e9] at hW
          rcases hp with ⟨rfl, hb15⟩ | ⟨rfl, hb15⟩
          · refine lv_if_eq (tgt := 56) hx hb dX11_lend_51 (by decide) (fun c16 => absurd c16 (by decide)) (fun c16 => ?_)
            refine lv_iconst (v := 0) hx hb dX11_lend_54 (by decide) ?_
            exact z_zret hx hb hr (by decide) hK hS (Nat.le_of_ble_eq_true rfl) (Nat.le_of_ble_eq_true rfl) hlocks dX11_lend_55 (shC c, ad, I, JX, PC c ad) hW ⟨I, rfl, (by show 0 ≤ (I 21 2).toInt ∧ (I 21 2).toInt ≤ 12; exact hO), ⟨(by show 0 ≤ (I 1 5).toInt ∧ (I 1 5).toInt ≤ 30; exact hH.1), (by show 0 ≤ (I 1 11).toInt ∧ (I 1 11).toInt ≤ 200; exact hH.2)⟩, ⟨(by show 0 ≤ (I 0 0).toInt ∧ (I 0 0).toInt ≤ 719; exact hB.1), (by show 0 ≤ (I 0 8).toInt ∧ (I 0 8).toInt ≤ 10; exact hB.2)⟩, (by show 0 ≤ (I 26 4).toInt ∧ (I 26 4).toInt ≤ 512; exact hC), (by show 0 ≤ (I 30 8).toInt ∧ (I 30 8).toInt ≤ 300; exact hP), z_fr_0, (Or.inr ⟨fun q => Bool.false_ne_true (q.2.2.2.1.symm.trans hb15), rfl, rfl, (fun j => ⟨rfl, rfl⟩)⟩)⟩
          · refine lv_if_eq (tgt := 56) hx hb dX11_lend_51 (by decide) (fun c17 => ?_) (fun c17 => absurd (by decide) c17)
            refine lv_aload_n hx hb dX11_lend_56 rfl (lv_at hl 0 rfl) ?_
            refine z_get (T := TX11) (N := 13) (ci := 11) (i := 0) (v := .ref (ad 21)) hx hb hts zj_X11_lend_X11 hown hK hW rfl rfl 4 (by decide) (hts (.fieldLink RX11 30 "PetrolBoard" "orderBook" "LPetrolBoard$OrderBook;") (me_s (me_l (me_l (me_l (me_l (me_l (me_l (me_l (List.mem_of_getElem? (i := 3) rfl)))))))))) (fun _ h => h) rfl dX11_lend_57 ?_
            refine lv_iconst (v := 2) hx hb dX11_lend_60 (by decide) ?_
            refine lv_iload_n hx hb dX11_lend_61 rfl (lv_at hl 1 rfl) ?_
            refine z_ci hW hS hA (va_runS (As := [.int a1]) (rest := [.int 2, .ref (ad 21)]) ⟨hx, hb, hml, hown, hts⟩ (sx_X0_monthOf_c l G ad c I a1 (by have q := hb1.1; omega) _) (va_cwS 1 hts gX11_lend_X0_monthOf rfl rfl rfl (by decide +kernel) ⟨Nat.le_of_ble_eq_true rfl, Nat.le_of_ble_eq_true rfl⟩) (z_preS hK hW) rfl rfl hl.1 rfl (lv_room (Nat.le_of_ble_eq_true rfl)) dX11_lend_62 ⟨Nat.le_of_ble_eq_true rfl, Nat.le_of_ble_eq_true rfl⟩) (fun r u1 H locs hp hW hS => ?_)
            obtain ⟨e9, hp⟩ := hp
            rw [e9] at hW
            refine lv_topi (fun x18 ex18 => ?_)
            rw [← ex18] at hp
            have hP19 := hp
            refine lv_aload_n hx hb dX11_lend_65 rfl (lv_at hl 0 rfl) ?_
            have r20 : 0 ≤ (I 0 0).toInt ∧ (I 0 0).toInt ≤ 719 := hB.1
            refine z_get (T := TX11) (N := 13) (ci := 11) (i := 0) (v := .int (I 0 0)) hx hb hts zj_X11_lend_X11 hown hK hW rfl rfl 0 (by decide) (hts (.fieldLink RX11 85 "PetrolBoard" "today" "I") (me_s (me_l (me_l (me_l (me_l (me_l (me_l (me_l (List.mem_of_getElem? (i := 4) rfl)))))))))) (fun _ h => h) rfl dX11_lend_66 ?_
            refine z_ci hW hS hA (va_runV (As := [.int 2, .int x18, .int (I 0 0)]) (rest := []) ⟨hx, hb, hml, hown, hts⟩ (sx_X6_amount_x l G ad c I (by show 0 ≤ (I 21 2).toInt ∧ (I 21 2).toInt ≤ 12; exact hO) 2 x18 (I 0 0) hc hon hmo (by decide) _) (cwV 3 hts gX11_lend_X6_amount rfl rfl rfl (by decide +kernel) ⟨Nat.le_of_ble_eq_true rfl, Nat.le_of_ble_eq_true rfl⟩) (z_preVS (i := 21) hK hW hS hA hSt rfl rfl) rfl rfl hl.1 rfl (lv_room (Nat.le_of_ble_eq_true rfl)) dX11_lend_69 ⟨Nat.le_of_ble_eq_true rfl, Nat.le_of_ble_eq_true rfl⟩) (fun r u1 H locs hp hW hS => ?_)
            obtain ⟨e9, hp⟩ := hp
            rw [e9] at hW
            refine lv_topi (fun x21 ex21 => ?_)
            rw [← ex21, show (2 : Int32).toInt = 2 by decide, hP19] at hp
            have hM22 : x21.toInt = zb_ax c I 2 (a1.toInt / 100 % 24) (I 0 0).toInt := zb_f_e hp
            refine lv_istore_n (lv' := [(3, .int x21), (0, .ref (ad 0)), (1, .int a1), (2, .int a2)]) hx hb dX11_lend_72 rfl hl (by decide) rfl (fun ls hl => ?_)
            refine lv_aload_n hx hb dX11_lend_73 rfl (lv_at hl 1 rfl) ?_
            refine z_get (T := TX11) (N := 13) (ci := 11) (i := 0) (v := .ref (ad 26)) hx hb hts zj_X11_lend_X11 hown hK hW rfl rfl 5 (by decide) (hts (.fieldLink RX11 37 "PetrolBoard" "coupons" "LPetrolBoard$Coupons;") (me_s (me_l (me_l (me_l (me_l (me_l (me_l (me_l (List.mem_of_getElem? (i := 0) rfl)))))))))) (fun _ h => h) rfl dX11_lend_74 ?_
            refine lv_iload_n hx hb dX11_lend_77 rfl (lv_at hl 2 rfl) ?_
            refine z_ci hW hS hA (va_runV (As := [.int a1]) (rest := []) ⟨hx, hb, hml, hown, hts⟩ (sx_X0_lentOfBook_c l G ad c I (by show 0 ≤ (I 26 4).toInt ∧ (I 26 4).toInt ≤ 512; exact hC) a1 (by have q := hb1.1; omega) hL _) (cwV 1 hts gX11_lend_X0_lentOfBook rfl rfl rfl (by decide +kernel) ⟨Nat.le_of_ble_eq_true rfl, Nat.le_of_ble_eq_true rfl⟩) (z_preV (i := 26) hK hW rfl rfl) rfl rfl hl.1 rfl (lv_room (Nat.le_of_ble_eq_true rfl)) dX11_lend_78 ⟨Nat.le_of_ble_eq_true rfl, Nat.le_of_ble_eq_true rfl⟩) (fun r u1 H locs hp hW hS => ?_)
            obtain ⟨e9, hp⟩ := hp
            rw [e9] at hW
            refine lv_topi (fun x23 ex23 => ?_)
            rw [← ex23] at hp
            have hP24 := hp
            refine lv_iload_n hx hb dX11_lend_81 rfl (lv_at hl 0 rfl) ?_
            refine lv_icmp_lt (tgt := 87) hx hb dX11_lend_82 (by decide) (fun c25 => ?_) (fun c25 => ?_)
            · have g26 := z_f_lt rfl rfl c25
              have b27 := Int32.toInt_lt x23
              have b28 := Int32.toInt_lt x21
              refine lv_aload_n hx hb dX11_lend_87 rfl (lv_at hl 1 rfl) ?_
              refine z_get (T := TX11) (N := 13) (ci := 11) (i := 0) (v := .ref (ad 26)) hx hb hts zj_X11_lend_X11 hown hK hW rfl rfl 5 (by decide) (hts (.fieldLink RX11 37 "PetrolBoard" "coupons" "LPetrolBoard$Coupons;") (me_s (me_l (me_l (me_l (me_l (me_l (me_l (me_l (List.mem_of_getElem? (i := 0) rfl)))))))))) (fun _ h => h) rfl dX11_lend_88 ?_
              refine lv_iload_n hx hb dX11_lend_91 rfl (lv_at hl 2 rfl) ?_
              refine lv_iload_n hx hb dX11_lend_92 rfl (lv_at hl 3 rfl) ?_
              refine z_ci hW hS hA (va_runV (As := [.int a1, .int a2]) (rest := []) ⟨hx, hb, hml, hown, hts⟩ (sx_X0_addLent_c l G ad c I (by show 0 ≤ (I 26 4).toInt ∧ (I 26 4).toInt ≤ 512; exact hC) a1 a2 _) (cwV 2 hts gX11_lend_X0_addLent rfl rfl rfl (by decide +kernel) ⟨Nat.le_of_ble_eq_true rfl, Nat.le_of_ble_eq_true rfl⟩) (z_preV (i := 26) hK hW rfl rfl) rfl rfl hl.1 rfl (lv_room (Nat.le_of_ble_eq_true rfl)) dX11_lend_93 ⟨Nat.le_of_ble_eq_true rfl, Nat.le_of_ble_eq_true rfl⟩) (fun r u1 H locs hp hW hS => ?_)
              obtain ⟨I29, e9, hI29C, fI29, hp⟩ := hp
              rw [e9] at hW
              have f30 := z_fr_sub (L := L_X11_lend_c) z_fr_0 fI29 (by decide)
              have k31 : 0 ≤ (I29 21 2).toInt ∧ (I29 21 2).toInt ≤ 12 := by rw [fI29 21 2 (by decide)]; exact (by show 0 ≤ (I 21 2).toInt ∧ (I 21 2).toInt ≤ 12; exact hO)
              have k32 : 0 ≤ (I29 1 5).toInt ∧ (I29 1 5).toInt ≤ 30 := by rw [fI29 1 5 (by decide)]; exact (by show 0 ≤ (I 1 5).toInt ∧ (I 1 5).toInt ≤ 30; exact hH.1)
              have k33 : 0 ≤ (I29 1 11).toInt ∧ (I29 1 11).toInt ≤ 200 := by rw [fI29 1 11 (by decide)]; exact (by show 0 ≤ (I 1 11).toInt ∧ (I 1 11).toInt ≤ 200; exact hH.2)
              have k34 : 0 ≤ (I29 0 0).toInt ∧ (I29 0 0).toInt ≤ 719 := by rw [fI29 0 0 (by decide)]; exact (by show 0 ≤ (I 0 0).toInt ∧ (I 0 0).toInt ≤ 719; exact hB.1)
              have k35 : 0 ≤ (I29 0 8).toInt ∧ (I29 0 8).toInt ≤ 10 := by rw [fI29 0 8 (by decide)]; exact (by show 0 ≤ (I 0 8).toInt ∧ (I 0 8).toInt ≤ 10; exact hB.2)
              have k36 : 0 ≤ (I29 30 8).toInt ∧ (I29 30 8).toInt ≤ 300 := by rw [fI29 30 8 (by decide)]; exact (by show 0 ≤ (I 30 8).toInt ∧ (I 30 8).toInt ≤ 300; exact hP)
              rcases hp with ⟨h37, rfl, h39, h40, h41⟩ | ⟨h37, rfl, h39, h40⟩
              · exact z_zret hx hb hr (by decide) hK hS (Nat.le_of_ble_eq_true rfl) (Nat.le_of_ble_eq_true rfl) hlocks dX11_lend_96 (shC c, ad, I29, JX, PC c ad) hW ⟨I29, rfl, (by show 0 ≤ (I29 21 2).toInt ∧ (I29 21 2).toInt ≤ 12; exact k31), ⟨(by show 0 ≤ (I29 1 5).toInt ∧ (I29 1 5).toInt ≤ 30; exact k32), (by show 0 ≤ (I29 1 11).toInt ∧ (I29 1 11).toInt ≤ 200; exact k33)⟩, ⟨(by show 0 ≤ (I29 0 0).toInt ∧ (I29 0 0).toInt ≤ 719; exact k34), (by show 0 ≤ (I29 0 8).toInt ∧ (I29 0 8).toInt ≤ 10; exact k35)⟩, (by show 0 ≤ (I29 26 4).toInt ∧ (I29 26 4).toInt ≤ 512; exact hI29C), (by show 0 ≤ (I29 30 8).toInt ∧ (I29 30 8).toInt ≤ 300; exact k36), f30, (Or.inl ⟨⟨hb1, by omega, hb12, hb15, by omega, h37⟩, rfl, h39, h40, h41⟩)⟩
              · exact z_zret hx hb hr (by decide) hK hS (Nat.le_of_ble_eq_true rfl) (Nat.le_of_ble_eq_true rfl) hlocks dX11_lend_96 (shC c, ad, I29, JX, PC c ad) hW ⟨I29, rfl, (by show 0 ≤ (I29 21 2).toInt ∧ (I29 21 2).toInt ≤ 12; exact k31), ⟨(by show 0 ≤ (I29 1 5).toInt ∧ (I29 1 5).toInt ≤ 30; exact k32), (by show 0 ≤ (I29 1 11).toInt ∧ (I29 1 11).toInt ≤ 200; exact k33)⟩, ⟨(by show 0 ≤ (I29 0 0).toInt ∧ (I29 0 0).toInt ≤ 719; exact k34), (by show 0 ≤ (I29 0 8).toInt ∧ (I29 0 8).toInt ≤ 10; exact k35)⟩, (by show 0 ≤ (I29 26 4).toInt ∧ (I29 26 4).toInt ≤ 512; exact hI29C), (by show 0 ≤ (I29 30 8).toInt ∧ (I29 30 8).toInt ≤ 300; exact k36), f30, (Or.inr ⟨fun q => h37 q.2.2.2.2.2, rfl, h39, h40⟩)⟩
            · have g42 := z_f_nlt rfl rfl c25
              have b43 := Int32.toInt_lt x23
              have b44 := Int32.toInt_lt x21
              refine lv_iconst (v := 0) hx hb dX11_lend_85 (by decide) ?_
              exact z_zret hx hb hr (by decide) hK hS (Nat.le_of_ble_eq_true rfl) (Nat.le_of_ble_eq_true rfl) hlocks dX11_lend_86 (shC c, ad, I, JX, PC c ad) hW ⟨I, rfl, (by show 0 ≤ (I 21 2).toInt ∧ (I 21 2).toInt ≤ 12; exact hO), ⟨(by show 0 ≤ (I 1 5).toInt ∧ (I 1 5).toInt ≤ 30; exact hH.1), (by show 0 ≤ (I 1 11).toInt ∧ (I 1 11).toInt ≤ 200; exact hH.2)⟩, ⟨(by show 0 ≤ (I 0 0).toInt ∧ (I 0 0).toInt ≤ 719; exact hB.1), (by show 0 ≤ (I 0 8).toInt ∧ (I 0 8).toInt ≤ 10; exact hB.2)⟩, (by show 0 ≤ (I 26 4).toInt ∧ (I 26 4).toInt ≤ 512; exact hC), (by show 0 ≤ (I 30 8).toInt ∧ (I 30 8).toInt ≤ 300; exact hP), z_fr_0, (Or.inr ⟨fun q => absurd q.2.2.2.2.1 (by omega), rfl, rfl, (fun j => ⟨rfl, rfl⟩)⟩)⟩
      · have g45 := z_f_eq rfl rfl c9
        have b46 := Int32.toInt_lt x7
        refine lv_iconst (v := 0) hx hb dX11_lend_30 (by decide) ?_
        exact z_zret hx hb hr (by decide) hK hS (Nat.le_of_ble_eq_true rfl) (Nat.le_of_ble_eq_true rfl) hlocks dX11_lend_31 (shC c, ad, I, JX, PC c ad) hW ⟨I, rfl, (by show 0 ≤ (I 21 2).toInt ∧ (I 21 2).toInt ≤ 12; exact hO), ⟨(by show 0 ≤ (I 1 5).toInt ∧ (I 1 5).toInt ≤ 30; exact hH.1), (by show 0 ≤ (I 1 11).toInt ∧ (I 1 11).toInt ≤ 200; exact hH.2)⟩, ⟨(by show 0 ≤ (I 0 0).toInt ∧ (I 0 0).toInt ≤ 719; exact hB.1), (by show 0 ≤ (I 0 8).toInt ∧ (I 0 8).toInt ≤ 10; exact hB.2)⟩, (by show 0 ≤ (I 26 4).toInt ∧ (I 26 4).toInt ≤ 512; exact hC), (by show 0 ≤ (I 30 8).toInt ∧ (I 30 8).toInt ≤ 300; exact hP), z_fr_0, (Or.inr ⟨fun q => absurd q.2.1 (by omega), rfl, rfl, (fun j => ⟨rfl, rfl⟩)⟩)⟩
    · have h47 := h3
      have r48 : 0 ≤ (I 1 5).toInt ∧ (I 1 5).toInt ≤ 30 := hH.1
      refine lv_if_eq (tgt := 30) hx hb dX11_lend_19 (by decide) (fun c49 => ?_) (fun c49 => absurd (by decide) c49)
      refine lv_iconst (v := 0) hx hb dX11_lend_30 (by decide) ?_
      exact z_zret hx hb hr (by decide) hK hS (Nat.le_of_ble_eq_true rfl) (Nat.le_of_ble_eq_true rfl) hlocks dX11_lend_31 (shC c, ad, I, JX, PC c ad) hW ⟨I, rfl, (by show 0 ≤ (I 21 2).toInt ∧ (I 21 2).toInt ≤ 12; exact hO), ⟨(by show 0 ≤ (I 1 5).toInt ∧ (I 1 5).toInt ≤ 30; exact hH.1), (by show 0 ≤ (I 1 11).toInt ∧ (I 1 11).toInt ≤ 200; exact hH.2)⟩, ⟨(by show 0 ≤ (I 0 0).toInt ∧ (I 0 0).toInt ≤ 719; exact hB.1), (by show 0 ≤ (I 0 8).toInt ∧ (I 0 8).toInt ≤ 10; exact hB.2)⟩, (by show 0 ≤ (I 26 4).toInt ∧ (I 26 4).toInt ≤ 512; exact hC), (by show 0 ≤ (I 30 8).toInt ∧ (I 30 8).toInt ≤ 300; exact hP), z_fr_0, (Or.inr ⟨fun q => absurd q.2.1 (by omega), rfl, rfl, (fun j => ⟨rfl, rfl⟩)⟩)⟩
  · refine lv_if_eq (tgt := 30) hx hb dX11_lend_8 (by decide) (fun c50 => ?_) (fun c50 => absurd (by decide) c50)
    refine lv_iconst (v := 0) hx hb dX11_lend_30 (by decide) ?_
    exact z_zret hx hb hr (by decide) hK hS (Nat.le_of_ble_eq_true rfl) (Nat.le_of_ble_eq_true rfl) hlocks dX11_lend_31 (shC c, ad, I, JX, PC c ad) hW ⟨I, rfl, (by show 0 ≤ (I 21 2).toInt ∧ (I 21 2).toInt ≤ 12; exact hO), ⟨(by show 0 ≤ (I 1 5).toInt ∧ (I 1 5).toInt ≤ 30; exact hH.1), (by show 0 ≤ (I 1 11).toInt ∧ (I 1 11).toInt ≤ 200; exact hH.2)⟩, ⟨(by show 0 ≤ (I 0 0).toInt ∧ (I 0 0).toInt ≤ 719; exact hB.1), (by show 0 ≤ (I 0 8).toInt ∧ (I 0 8).toInt ≤ 10; exact hB.2)⟩, (by show 0 ≤ (I 26 4).toInt ∧ (I 26 4).toInt ≤ 512; exact hC), (by show 0 ≤ (I 30 8).toInt ∧ (I 30 8).toInt ≤ 300; exact hP), z_fr_0, (Or.inr ⟨fun q => hb1 q.1, rfl, rfl, (fun j => ⟨rfl, rfl⟩)⟩)⟩
set_option maxHeartbeats 8000000 in
set_option maxRecDepth 100000 in
theorem sx_X12_isCoupon_c (l : Launch) (G : z_G) (ad : Nat → Nat) (I : z_I) (J : z_J) (a1 : Int32) (hIs : ∀ b : Nat, b < 720 → 0 ≤ (I 31 b).toInt ∧ (I 31 b).toInt ≤ 100) : z_M l yX12_isCoupon wsX12_isCoupon { frames := 1, cells := 0, slots := 0, locals := 12 } [.ref (ad 0), .int a1] G (shM, ad, I, J, PM ad) (fun r u1 => u1 = (shM, ad, I, J, PM ad) ∧ ((r = 1 ∧ zb_hm I a1.toInt) ∨ (r = 0 ∧ ¬ zb_hm I a1.toInt))) 0 0 := by
  intro sz
  refine z_headQ (cc := cX12_isCoupon) (maxL := 2) (ret := (some .boolean)) (by decide) rfl (Nat.le_of_ble_eq_true rfl) ?_
  intro p e s m below meth c0 ls hIn hK hsz hW hl
  obtain ⟨hx, hb, hr, hml, hown, hts, hlocks, hname⟩ := hIn
  subst hsz
  have hown : s.vm.findClass RX12 = some m.cls := hown
  have hA : ∀ q : Nat, s.heap.size ≤ q → z_A (shM, ad, I, J, PM ad) s.heap.size q := fun q h => Or.inr h
  generalize hAe : z_A (shM, ad, I, J, PM ad) s.heap.size = A at *
  have hS : va_S A s.heap s.heap [] := va_S.rf
  have hl : lv_has ls 2 [(0, .ref (ad 0)), (1, .int a1)] := hl
  refine lv_iload_n hx hb dX12_isCoupon_0 rfl (lv_at hl 1 rfl) ?_
  refine lv_if_lt (tgt := 32) hx hb dX12_isCoupon_1 (by decide) (fun c1 => ?_) (fun c1 => ?_)
  · have g2 := z_f_lt rfl z_l0 c1
    have b3 := Int32.toInt_lt a1
    refine lv_iconst (v := 0) hx hb dX12_isCoupon_32 (by decide) ?_
    exact z_zret hx hb hr (by decide) hK hS (Nat.le_of_ble_eq_true rfl) (Nat.le_of_ble_eq_true rfl) hlocks dX12_isCoupon_33 (shM, ad, I, J, PM ad) hW ⟨rfl, (Or.inr ⟨rfl, (by unfold zb_hm; omega)⟩)⟩
  · have g4 := z_f_nlt rfl z_l0 c1
    have b5 := Int32.toInt_lt a1
    refine lv_iload_n hx hb dX12_isCoupon_4 rfl (lv_at hl 1 rfl) ?_
    refine lv_ldc (v := 72000) hx hb hown (hts (.constant RX12 109 (72000)) (me_s (me_l (List.mem_of_getElem? (i := 0) rfl)))) dX12_isCoupon_5 ?_
    refine lv_icmp_ge (tgt := 32) hx hb dX12_isCoupon_7 (by decide) (fun c6 => ?_) (fun c6 => ?_)
    · have g7 := z_f_ge rfl z_l72000 c6
      refine lv_iconst (v := 0) hx hb dX12_isCoupon_32 (by decide) ?_
      exact z_zret hx hb hr (by decide) hK hS (Nat.le_of_ble_eq_true rfl) (Nat.le_of_ble_eq_true rfl) hlocks dX12_isCoupon_33 (shM, ad, I, J, PM ad) hW ⟨rfl, (Or.inr ⟨rfl, (by unfold zb_hm; omega)⟩)⟩
    · have g8 := z_f_nge rfl z_l72000 c6
      refine lv_aload_n hx hb dX12_isCoupon_10 rfl (lv_at hl 0 rfl) ?_
      refine z_get (T := TX12) (N := 96) (ci := 12) (i := 0) (v := .ref (ad 31)) hx hb hts zj_X12_isCoupon_X12 hown hK hW rfl rfl 49 (by decide) (hts (.fieldLink RX12 106 "PetrolBoardModel" "issued" "[I") (me_s (me_l (List.mem_of_getElem? (i := 1) rfl)))) (fun _ h => h) rfl dX12_isCoupon_11 ?_
      refine lv_iload_n hx hb dX12_isCoupon_14 rfl (lv_at hl 1 rfl) ?_
      refine lv_bipush (v := 100) hx hb dX12_isCoupon_15 (by decide) ?_
      refine lv_idiv hx hb dX12_isCoupon_17 (by decide) ?_
      refine lv_topi (fun x9 ex9 => ?_)
      have tx9 := z_tdiv ex9 rfl z_l100 (by decide)
      refine z_iald (i := 31) hx hb hK hW rfl (z_ix rfl (by omega) (by omega)) dX12_isCoupon_18 ?_
      refine lv_topi (fun x10 ex10 => ?_)
      have hx12 : x9.toInt = a1.toInt / 100 := by omega
      have hv11 : (I 31 (a1.toInt / 100).toNat).toInt = x10.toInt := by rw [ex10]; show _ = (I 31 x9.toInt.toNat).toInt; rw [hx12]
      have hr13 := hIs (a1.toInt / 100).toNat (by omega)
      refine lv_iconst (v := 1) hx hb dX12_isCoupon_19 (by decide) ?_
      refine lv_isub hx hb dX12_isCoupon_20 ?_
      refine lv_topi (fun x14 ex14 => ?_)
      have tx14 : x14.toInt = x10.toInt - 1 := z_tsub ex14 rfl z_l1 (by omega) (by omega)
      refine lv_iload_n hx hb dX12_isCoupon_21 rfl (lv_at hl 1 rfl) ?_
      refine lv_bipush (v := 100) hx hb dX12_isCoupon_22 (by decide) ?_
      refine lv_irem hx hb dX12_isCoupon_24 (by decide) ?_
      refine lv_topi (fun x15 ex15 => ?_)
      have tx15 := z_trem ex15 rfl z_l100 (by decide)
      refine lv_icmp_le (tgt := 32) hx hb dX12_isCoupon_25 (by decide) (fun c16 => ?_) (fun c16 => ?_)
      · have g17 := z_f_le rfl rfl c16
        refine lv_iconst (v := 0) hx hb dX12_isCoupon_32 (by decide) ?_
        exact z_zret hx hb hr (by decide) hK hS (Nat.le_of_ble_eq_true rfl) (Nat.le_of_ble_eq_true rfl) hlocks dX12_isCoupon_33 (shM, ad, I, J, PM ad) hW ⟨rfl, (Or.inr ⟨rfl, (by unfold zb_hm; omega)⟩)⟩
      · have g18 := z_f_nle rfl rfl c16
        refine lv_iconst (v := 1) hx hb dX12_isCoupon_28 (by decide) ?_
        refine lv_goto (tgt := 33) hx hb dX12_isCoupon_29 (by decide) ?_
        exact z_zret hx hb hr (by decide) hK hS (Nat.le_of_ble_eq_true rfl) (Nat.le_of_ble_eq_true rfl) hlocks dX12_isCoupon_33 (shM, ad, I, J, PM ad) hW ⟨rfl, (Or.inl ⟨rfl, (by unfold zb_hm; omega)⟩)⟩
set_option maxHeartbeats 8000000 in
set_option maxRecDepth 100000 in
theorem sx_X12_heldBy_c (l : Launch) (G : z_G) (ad : Nat → Nat) (I : z_I) (J : z_J) (a1 : Int32) (h1 : 0 ≤ a1.toInt ∧ a1.toInt ≤ 71999) : z_M l yX12_heldBy wsX12_heldBy { frames := 1, cells := 0, slots := 0, locals := 12 } [.ref (ad 0), .int a1] G (shM, ad, I, J, PM ad) (fun r u1 => u1 = (shM, ad, I, J, PM ad) ∧ (r.toInt = zb_P I a1.toInt)) 0 0 := by
  intro sz
  refine z_headQ (cc := cX12_heldBy) (maxL := 2) (ret := (some .int)) (by decide) rfl (Nat.le_of_ble_eq_true rfl) ?_
  intro p e s m below meth c0 ls hIn hK hsz hW hl
  obtain ⟨hx, hb, hr, hml, hown, hts, hlocks, hname⟩ := hIn
  subst hsz
  have hown : s.vm.findClass RX12 = some m.cls := hown
  have hA : ∀ q : Nat, s.heap.size ≤ q → z_A (shM, ad, I, J, PM ad) s.heap.size q := fun q h => Or.inr h
  generalize hAe : z_A (shM, ad, I, J, PM ad) s.heap.size = A at *
  have hS : va_S A s.heap s.heap [] := va_S.rf
  have hl : lv_has ls 2 [(0, .ref (ad 0)), (1, .int a1)] := hl
  refine lv_aload_n hx hb dX12_heldBy_0 rfl (lv_at hl 0 rfl) ?_
  refine z_get (T := TX12) (N := 96) (ci := 12) (i := 0) (v := .ref (ad 32)) hx hb hts zj_X12_heldBy_X12 hown hK hW rfl rfl 52 (by decide) (hts (.fieldLink RX12 110 "PetrolBoardModel" "lentTo" "[I") (me_s (me_l (List.mem_of_getElem? (i := 0) rfl)))) (fun _ h => h) rfl dX12_heldBy_1 ?_
  refine lv_iload_n hx hb dX12_heldBy_4 rfl (lv_at hl 1 rfl) ?_
  refine z_iald (i := 32) hx hb hK hW rfl (z_ix rfl (by omega) (by omega)) dX12_heldBy_5 ?_
  refine lv_topi (fun x1 ex1 => ?_)
  have hx3 : a1.toInt = a1.toInt := by omega
  have hv2 : (I 32 (a1.toInt).toNat).toInt = x1.toInt := by rw [ex1]; show _ = (I 32 a1.toInt.toNat).toInt; rw [hx3]
  refine lv_if_le (tgt := 20) hx hb dX12_heldBy_6 (by decide) (fun c4 => ?_) (fun c4 => ?_)
  · have g5 := z_f_le rfl z_l0 c4
    have b6 := Int32.toInt_lt x1
    refine lv_iload_n hx hb dX12_heldBy_20 rfl (lv_at hl 1 rfl) ?_
    refine lv_sipush (v := 2400) hx hb dX12_heldBy_21 (by decide) ?_
    refine lv_idiv hx hb dX12_heldBy_24 (by decide) ?_
    refine lv_topi (fun x7 ex7 => ?_)
    have tx7 := z_tdiv ex7 rfl z_l2400 (by decide)
    exact z_iret hx hb hr hK hS (Nat.le_of_ble_eq_true rfl) (Nat.le_of_ble_eq_true rfl) hlocks dX12_heldBy_25 (shM, ad, I, J, PM ad) hW ⟨rfl, (by unfold zb_P; first | (rw [if_pos (by omega)]; omega) | (rw [if_neg (by omega)]; omega))⟩
  · have g8 := z_f_nle rfl z_l0 c4
    have b9 := Int32.toInt_lt x1
    refine lv_aload_n hx hb dX12_heldBy_9 rfl (lv_at hl 0 rfl) ?_
    refine z_get (T := TX12) (N := 96) (ci := 12) (i := 0) (v := .ref (ad 32)) hx hb hts zj_X12_heldBy_X12 hown hK hW rfl rfl 52 (by decide) (hts (.fieldLink RX12 110 "PetrolBoardModel" "lentTo" "[I") (me_s (me_l (List.mem_of_getElem? (i := 0) rfl)))) (fun _ h => h) rfl dX12_heldBy_10 ?_
    refine lv_iload_n hx hb dX12_heldBy_13 rfl (lv_at hl 1 rfl) ?_
    refine z_iald (i := 32) hx hb hK hW rfl (z_ix rfl (by omega) (by omega)) dX12_heldBy_14 ?_
    refine z_topi (v := x1) ex1.symm ?_
    refine lv_iconst (v := 1) hx hb dX12_heldBy_15 (by decide) ?_
    refine lv_isub hx hb dX12_heldBy_16 ?_
    refine lv_topi (fun x10 ex10 => ?_)
    have tx10 : x10.toInt = x1.toInt - 1 := z_tsub ex10 rfl z_l1 (by have := Int32.le_toInt x1; have := Int32.toInt_lt x1; omega) (by have := Int32.le_toInt x1; have := Int32.toInt_lt x1; omega)
    refine lv_goto (tgt := 25) hx hb dX12_heldBy_17 (by decide) ?_
    exact z_iret hx hb hr hK hS (Nat.le_of_ble_eq_true rfl) (Nat.le_of_ble_eq_true rfl) hlocks dX12_heldBy_25 (shM, ad, I, J, PM ad) hW ⟨rfl, (by unfold zb_P; first | (rw [if_pos (by omega)]; omega) | (rw [if_neg (by omega)]; omega))⟩
set_option maxHeartbeats 8000000 in
set_option maxRecDepth 100000 in
theorem sx_X12_owner_c (l : Launch) (G : z_G) (ad : Nat → Nat) (I : z_I) (J : z_J) (a1 : Int32) (hIs : ∀ b : Nat, b < 720 → 0 ≤ (I 31 b).toInt ∧ (I 31 b).toInt ≤ 100) : z_M l yX12_owner wsX12_owner { frames := 2, cells := 0, slots := 0, locals := 33 } [.ref (ad 0), .int a1] G (shM, ad, I, J, PM ad) (fun r u1 => u1 = (shM, ad, I, J, PM ad) ∧ ((¬ zb_hm I a1.toInt ∧ r.toInt = -1) ∨ (zb_hm I a1.toInt ∧ r.toInt = zb_P I a1.toInt))) 0 0 := by
  intro sz
  refine z_headQ (cc := cX12_owner) (maxL := 2) (ret := (some .int)) (by decide) rfl (Nat.le_of_ble_eq_true rfl) ?_
  intro p e s m below meth c0 ls hIn hK hsz hW hl
  obtain ⟨hx, hb, hr, hml, hown, hts, hlocks, hname⟩ := hIn
  subst hsz
  have hown : s.vm.findClass RX12 = some m.cls := hown
  have hA : ∀ q : Nat, s.heap.size ≤ q → z_A (shM, ad, I, J, PM ad) s.heap.size q := fun q h => Or.inr h
  generalize hAe : z_A (shM, ad, I, J, PM ad) s.heap.size = A at *
  have hS : va_S A s.heap s.heap [] := va_S.rf
  have hl : lv_has ls 2 [(0, .ref (ad 0)), (1, .int a1)] := hl
  refine lv_aload_n hx hb dX12_owner_0 rfl (lv_at hl 0 rfl) ?_
  refine lv_iload_n hx hb dX12_owner_1 rfl (lv_at hl 1 rfl) ?_
  refine z_ci hW hS hA (va_runV (As := [.int a1]) (rest := []) ⟨hx, hb, hml, hown, hts⟩ (sx_X12_isCoupon_c l G ad I J  a1 hIs _) (cwV 1 hts gX12_owner_X12_isCoupon rfl rfl rfl (by decide +kernel) ⟨Nat.le_of_ble_eq_true rfl, Nat.le_of_ble_eq_true rfl⟩) (z_preV (i := 0) hK hW rfl rfl) rfl rfl hl.1 rfl (lv_room (Nat.le_of_ble_eq_true rfl)) dX12_owner_2 ⟨Nat.le_of_ble_eq_true rfl, Nat.le_of_ble_eq_true rfl⟩) (fun r u1 H locs hp hW hS => ?_)
  obtain ⟨e9, hp⟩ := hp
  rw [e9] at hW
  rcases hp with ⟨rfl, hb1⟩ | ⟨rfl, hb1⟩
  · refine lv_if_eq (tgt := 16) hx hb dX12_owner_5 (by decide) (fun c2 => absurd c2 (by decide)) (fun c2 => ?_)
    refine lv_aload_n hx hb dX12_owner_8 rfl (lv_at hl 0 rfl) ?_
    refine lv_iload_n hx hb dX12_owner_9 rfl (lv_at hl 1 rfl) ?_
    refine z_ci hW hS hA (va_runV (As := [.int a1]) (rest := []) ⟨hx, hb, hml, hown, hts⟩ (sx_X12_heldBy_c l G ad I J  a1 (by have q := hb1; unfold zb_hm at q; omega) _) (cwV 1 hts gX12_owner_X12_heldBy rfl rfl rfl (by decide +kernel) ⟨Nat.le_of_ble_eq_true rfl, Nat.le_of_ble_eq_true rfl⟩) (z_preV (i := 0) hK hW rfl rfl) rfl rfl hl.1 rfl (lv_room (Nat.le_of_ble_eq_true rfl)) dX12_owner_10 ⟨Nat.le_of_ble_eq_true rfl, Nat.le_of_ble_eq_true rfl⟩) (fun r u1 H locs hp hW hS => ?_)
    obtain ⟨e9, hp⟩ := hp
    rw [e9] at hW
    refine lv_topi (fun x3 ex3 => ?_)
    rw [← ex3] at hp
    have hP4 := hp
    refine lv_goto (tgt := 17) hx hb dX12_owner_13 (by decide) ?_
    exact z_iret hx hb hr hK hS (Nat.le_of_ble_eq_true rfl) (Nat.le_of_ble_eq_true rfl) hlocks dX12_owner_17 (shM, ad, I, J, PM ad) hW ⟨rfl, (Or.inr ⟨hb1, hP4⟩)⟩
  · refine lv_if_eq (tgt := 16) hx hb dX12_owner_5 (by decide) (fun c5 => ?_) (fun c5 => absurd (by decide) c5)
    refine lv_iconst (v := (-1)) hx hb dX12_owner_16 (by decide) ?_
    exact z_iret hx hb hr hK hS (Nat.le_of_ble_eq_true rfl) (Nat.le_of_ble_eq_true rfl) hlocks dX12_owner_17 (shM, ad, I, J, PM ad) hW ⟨rfl, (Or.inl ⟨hb1, by decide⟩)⟩
noncomputable def L_X12_lend_c : z_L := [(32, 999), (0, 51)]
set_option maxHeartbeats 8000000 in
set_option maxRecDepth 100000 in
theorem sx_X12_lend_c (l : Launch) (G : z_G) (ad : Nat → Nat) (I : z_I) (J : z_J) (hma : z_ima I) (hmb : z_imb I) (hAtf : z_rg 11 0 288 I) (hAtm : z_rg 12 0 24 I) (a1 : Int32) (a2 : Int32) (hIs : ∀ b : Nat, b < 720 → 0 ≤ (I 31 b).toInt ∧ (I 31 b).toInt ≤ 100) : z_M l yX12_lend wsX12_lend { frames := 3, cells := 0, slots := 0, locals := 62 } [.ref (ad 0), .int a1, .int a2] G (shM, ad, I, J, PM ad) (fun r u1 => ∃ (I1 : z_I) (J1 : z_J), u1 = (shM, ad, I1, J1, PM ad) ∧ z_ima I1 ∧ z_imb I1 ∧ z_rg 11 0 288 I1 ∧ z_rg 12 0 24 I1 ∧ z_fr L_X12_lend_c I1 I ∧ (((zb_hm I a1.toInt ∧ (0 ≤ a2.toInt ∧ a2.toInt < (I 0 1).toInt ∧ ¬ a1.toInt / 2400 = a2.toInt) ∧ ¬ 0 < (I 32 a1.toInt.toNat).toInt ∧ (I 33 a1.toInt.toNat).toInt = 0 ∧ zb_M I (a1.toInt / 100) 100 < zb_am I 2 (a1.toInt / 100 % 24) (I 0 0).toInt) ∧ r = 1 ∧ ∃ v : Int32, v.toInt = a2.toInt + 1 ∧ (∀ j, I1 32 j = if j = a1.toInt.toNat then v else I 32 j) ∧ I1 0 51 = I 0 51 + 1) ∨ (¬ (zb_hm I a1.toInt ∧ (0 ≤ a2.toInt ∧ a2.toInt < (I 0 1).toInt ∧ ¬ a1.toInt / 2400 = a2.toInt) ∧ ¬ 0 < (I 32 a1.toInt.toNat).toInt ∧ (I 33 a1.toInt.toNat).toInt = 0 ∧ zb_M I (a1.toInt / 100) 100 < zb_am I 2 (a1.toInt / 100 % 24) (I 0 0).toInt) ∧ r = 0 ∧ (∀ j, I1 32 j = I 32 j) ∧ I1 0 51 = I 0 51))) 0 0 := by
  intro sz
  refine z_headQ (cc := cX12_lend) (maxL := 6) (ret := (some .boolean)) (by decide) rfl (Nat.le_of_ble_eq_true rfl) ?_
  intro p e s m below meth c0 ls hIn hK hsz hW hl
  obtain ⟨hx, hb, hr, hml, hown, hts, hlocks, hname⟩ := hIn
  subst hsz
  have hown : s.vm.findClass RX12 = some m.cls := hown
  have hA : ∀ q : Nat, s.heap.size ≤ q → z_A (shM, ad, I, J, PM ad) s.heap.size q := fun q h => Or.inr h
  generalize hAe : z_A (shM, ad, I, J, PM ad) s.heap.size = A at *
  have hS : va_S A s.heap s.heap [] := va_S.rf
  have hl : lv_has ls 6 [(0, .ref (ad 0)), (1, .int a1), (2, .int a2)] := hl
  refine lv_aload_n hx hb dX12_lend_0 rfl (lv_at hl 0 rfl) ?_
  refine lv_iload_n hx hb dX12_lend_1 rfl (lv_at hl 1 rfl) ?_
  refine z_ci hW hS hA (va_runV (As := [.int a1]) (rest := []) ⟨hx, hb, hml, hown, hts⟩ (sx_X12_isCoupon_c l G ad I J  a1 hIs _) (cwV 1 hts gX12_lend_X12_isCoupon rfl rfl rfl (by decide +kernel) ⟨Nat.le_of_ble_eq_true rfl, Nat.le_of_ble_eq_true rfl⟩) (z_preV (i := 0) hK hW rfl rfl) rfl rfl hl.1 rfl (lv_room (Nat.le_of_ble_eq_true rfl)) dX12_lend_2 ⟨Nat.le_of_ble_eq_true rfl, Nat.le_of_ble_eq_true rfl⟩) (fun r u1 H locs hp hW hS => ?_)
  obtain ⟨e9, hp⟩ := hp
  rw [e9] at hW
  rcases hp with ⟨rfl, hb1⟩ | ⟨rfl, hb1⟩
  · refine lv_if_eq (tgt := 43) hx hb dX12_lend_5 (by decide) (fun c2 => absurd c2 (by decide)) (fun c2 => ?_)
    have hb3 : 0 ≤ a1.toInt ∧ a1.toInt < 72000 := ⟨hb1.1, hb1.2.1⟩
    refine lv_aload_n hx hb dX12_lend_8 rfl (lv_at hl 0 rfl) ?_
    refine lv_iload_n hx hb dX12_lend_9 rfl (lv_at hl 2 rfl) ?_
    refine z_ci hW hS hA (va_runV (As := [.int a2]) (rest := []) ⟨hx, hb, hml, hown, hts⟩ (sx_X12_isHolder_e l G ad I J ⟨(by show 0 ≤ (I 0 0).toInt ∧ (I 0 0).toInt ≤ 719; exact hma.1), (by show 0 ≤ (I 0 1).toInt ∧ (I 0 1).toInt ≤ 30; exact hma.2.1), (by show 0 ≤ (I 0 2).toInt ∧ (I 0 2).toInt ≤ 200; exact hma.2.2)⟩ a2 _) (cwV 1 hts gX12_lend_X12_isHolder rfl rfl rfl (by decide +kernel) ⟨Nat.le_of_ble_eq_true rfl, Nat.le_of_ble_eq_true rfl⟩) (z_preV (i := 0) hK hW rfl rfl) rfl rfl hl.1 rfl (lv_room (Nat.le_of_ble_eq_true rfl)) dX12_lend_10 ⟨Nat.le_of_ble_eq_true rfl, Nat.le_of_ble_eq_true rfl⟩) (fun r u1 H locs hp hW hS => ?_)
    obtain ⟨e9, hp⟩ := hp
    rw [e9] at hW
    rcases hp with ⟨rfl, h4⟩ | ⟨rfl, h4⟩
    · have h5 := h4
      have r6 : 0 ≤ (I 0 1).toInt ∧ (I 0 1).toInt ≤ 30 := hma.2.1
      refine lv_if_eq (tgt := 43) hx hb dX12_lend_13 (by decide) (fun c7 => absurd c7 (by decide)) (fun c7 => ?_)
      refine lv_iload_n hx hb dX12_lend_16 rfl (lv_at hl 2 rfl) ?_
      refine lv_iload_n hx hb dX12_lend_17 rfl (lv_at hl 1 rfl) ?_
      refine lv_sipush (v := 2400) hx hb dX12_lend_18 (by decide) ?_
      refine lv_idiv hx hb dX12_lend_21 (by decide) ?_
      refine lv_topi (fun x8 ex8 => ?_)
      have tx8 := z_tdiv ex8 rfl z_l2400 (by decide)
      refine lv_icmp_eq (tgt := 43) hx hb dX12_lend_22 (by decide) (fun c9 => ?_) (fun c9 => ?_)
      · have g10 := z_f_eq rfl rfl c9
        refine lv_iconst (v := 0) hx hb dX12_lend_43 (by decide) ?_
        exact z_zret hx hb hr (by decide) hK hS (Nat.le_of_ble_eq_true rfl) (Nat.le_of_ble_eq_true rfl) hlocks dX12_lend_44 (shM, ad, I, J, PM ad) hW ⟨I, J, rfl, ⟨(by show 0 ≤ (I 0 0).toInt ∧ (I 0 0).toInt ≤ 719; exact hma.1), (by show 0 ≤ (I 0 1).toInt ∧ (I 0 1).toInt ≤ 30; exact hma.2.1), (by show 0 ≤ (I 0 2).toInt ∧ (I 0 2).toInt ≤ 200; exact hma.2.2)⟩, ⟨(by show 0 ≤ (I 0 13).toInt ∧ (I 0 13).toInt ≤ 12; exact hmb.1), (by show 0 ≤ (I 0 14).toInt ∧ (I 0 14).toInt ≤ 288; exact hmb.2)⟩, hAtf, hAtm, z_fr_0, (Or.inr ⟨fun q => by have q2 := q.2.1; have q3 := q.2.2.1; have q4 := q.2.2.2.1; omega, rfl, (fun j => rfl), rfl⟩)⟩
      · have g11 := z_f_ne rfl rfl c9
        refine lv_aload_n hx hb dX12_lend_25 rfl (lv_at hl 0 rfl) ?_
        refine z_get (T := TX12) (N := 96) (ci := 12) (i := 0) (v := .ref (ad 32)) hx hb hts zj_X12_lend_X12 hown hK hW rfl rfl 52 (by decide) (hts (.fieldLink RX12 110 "PetrolBoardModel" "lentTo" "[I") (me_s (me_l (me_l (List.mem_of_getElem? (i := 0) rfl))))) (fun _ h => h) rfl dX12_lend_26 ?_
        refine lv_iload_n hx hb dX12_lend_29 rfl (lv_at hl 1 rfl) ?_
        refine z_iald (i := 32) hx hb hK hW rfl (z_ix rfl (by omega) (by omega)) dX12_lend_30 ?_
        refine lv_topi (fun x12 ex12 => ?_)
        have hv13 : (I 32 a1.toInt.toNat).toInt = x12.toInt := by rw [ex12]; rfl
        refine lv_if_gt (tgt := 43) hx hb dX12_lend_31 (by decide) (fun c14 => ?_) (fun c14 => ?_)
        · have g15 := z_f_gt rfl z_l0 c14
          have b16 := Int32.toInt_lt x12
          refine lv_iconst (v := 0) hx hb dX12_lend_43 (by decide) ?_
          exact z_zret hx hb hr (by decide) hK hS (Nat.le_of_ble_eq_true rfl) (Nat.le_of_ble_eq_true rfl) hlocks dX12_lend_44 (shM, ad, I, J, PM ad) hW ⟨I, J, rfl, ⟨(by show 0 ≤ (I 0 0).toInt ∧ (I 0 0).toInt ≤ 719; exact hma.1), (by show 0 ≤ (I 0 1).toInt ∧ (I 0 1).toInt ≤ 30; exact hma.2.1), (by show 0 ≤ (I 0 2).toInt ∧ (I 0 2).toInt ≤ 200; exact hma.2.2)⟩, ⟨(by show 0 ≤ (I 0 13).toInt ∧ (I 0 13).toInt ≤ 12; exact hmb.1), (by show 0 ≤ (I 0 14).toInt ∧ (I 0 14).toInt ≤ 288; exact hmb.2)⟩, hAtf, hAtm, z_fr_0, (Or.inr ⟨fun q => by have q2 := q.2.1; have q3 := q.2.2.1; have q4 := q.2.2.2.1; omega, rfl, (fun j => rfl), rfl⟩)⟩
        · have g17 := z_f_ngt rfl z_l0 c14
          have b18 := Int32.toInt_lt x12
          refine lv_aload_n hx hb dX12_lend_34 rfl (lv_at hl 0 rfl) ?_
          refine z_get (T := TX12) (N := 96) (ci := 12) (i := 0) (v := .ref (ad 33)) hx hb hts zj_X12_lend_X12 hown hK hW rfl rfl 53 (by decide) (hts (.fieldLink RX12 114 "PetrolBoardModel" "wasIn" "[Z") (me_s (me_l (me_l (List.mem_of_getElem? (i := 1) rfl))))) (fun _ h => h) rfl dX12_lend_35 ?_
          refine lv_iload_n hx hb dX12_lend_38 rfl (lv_at hl 1 rfl) ?_
          refine z_zald (i := 33) hx hb hK hW rfl (z_ix rfl (by omega) (by omega)) dX12_lend_39 ?_
          refine lv_topi (fun x19 ex19 => ?_)
          have hv20 : (I 33 a1.toInt.toNat).toInt = x19.toInt := by rw [ex19]; rfl
          refine lv_if_eq (tgt := 45) hx hb dX12_lend_40 (by decide) (fun c21 => ?_) (fun c21 => ?_)
          · have g22 := z_f_eq rfl z_l0 c21
            have b23 := Int32.toInt_lt x19
            refine lv_iload_n hx hb dX12_lend_45 rfl (lv_at hl 1 rfl) ?_
            refine lv_bipush (v := 100) hx hb dX12_lend_46 (by decide) ?_
            refine lv_idiv hx hb dX12_lend_48 (by decide) ?_
            refine lv_topi (fun x24 ex24 => ?_)
            have tx24 := z_tdiv ex24 rfl z_l100 (by decide)
            refine lv_istore_n (lv' := [(3, .int x24), (0, .ref (ad 0)), (1, .int a1), (2, .int a2)]) hx hb dX12_lend_49 rfl hl (by decide) rfl (fun ls hl => ?_)
            refine lv_iconst (v := 0) hx hb dX12_lend_50 (by decide) ?_
            refine lv_istore (lv' := [(4, .int 0), (3, .int x24), (0, .ref (ad 0)), (1, .int a1), (2, .int a2)]) hx hb dX12_lend_51 hl (by decide) rfl (fun ls hl => ?_)
            refine lv_bipush (v := 100) hx hb dX12_lend_53 (by decide) ?_
            refine lv_iload_n hx hb dX12_lend_55 rfl (lv_at hl 1 rfl) ?_
            refine lv_imul hx hb dX12_lend_56 ?_
            refine lv_topi (fun x25 ex25 => ?_)
            have tx25 : x25.toInt = 100 * x24.toInt := z_tmul ex25 z_l100 rfl (by omega) (by omega)
            refine lv_istore (lv' := [(5, .int x25), (4, .int 0), (3, .int x24), (0, .ref (ad 0)), (1, .int a1), (2, .int a2)]) hx hb dX12_lend_57 hl (by decide) rfl (fun ls hl => ?_)
            have lp26 : ∀ (f : Nat) (y27 : Int32) (y28 : Int32) (H : Heap) (locs : List Loc) (ls : Array Slot), (2147483647 < y27.toInt + (f : Int)) → (0 ≤ y27.toInt) → (0 ≤ y28.toInt) → (y28.toInt ≤ 100) → (x25.toInt ≤ y27.toInt) → (y28.toInt = zb_M I (a1.toInt / 100) (y27.toInt - 100 * (a1.toInt / 100)).toNat ∧ 100 * (a1.toInt / 100) ≤ y27.toInt ∧ y27.toInt ≤ 100 * (a1.toInt / 100) + 100 ∧ y28.toInt ≤ y27.toInt - 100 * (a1.toInt / 100)) → z_W G A (shM, ad, I, J, PM ad) H → va_S A s.heap H locs → lv_has ls 6 [(5, .int y27), (4, .int y28), (3, .int x24), (0, .ref (ad 0)), (1, .int a1), (2, .int a2)] → W p l e (headSpec wsX12_lend { frames := 3, cells := 0, slots := 0, locals := 62 }).room s m ([.ref (ad 0), .int a1, .int a2] : List Value).toArray below meth c0 H locs 0 0 (MQ below (va_Qi (fun (r : Int32) (u1 : z_U) => ∃ (I1 : z_I) (J1 : z_J), u1 = (shM, ad, I1, J1, PM ad) ∧ z_ima I1 ∧ z_imb I1 ∧ z_rg 11 0 288 I1 ∧ z_rg 12 0 24 I1 ∧ z_fr L_X12_lend_c I1 I ∧ (((zb_hm I a1.toInt ∧ (0 ≤ a2.toInt ∧ a2.toInt < (I 0 1).toInt ∧ ¬ a1.toInt / 2400 = a2.toInt) ∧ ¬ 0 < (I 32 a1.toInt.toNat).toInt ∧ (I 33 a1.toInt.toNat).toInt = 0 ∧ zb_M I (a1.toInt / 100) 100 < zb_am I 2 (a1.toInt / 100 % 24) (I 0 0).toInt) ∧ r = 1 ∧ ∃ v : Int32, v.toInt = a2.toInt + 1 ∧ (∀ j, I1 32 j = if j = a1.toInt.toNat then v else I 32 j) ∧ I1 0 51 = I 0 51 + 1) ∨ (¬ (zb_hm I a1.toInt ∧ (0 ≤ a2.toInt ∧ a2.toInt < (I 0 1).toInt ∧ ¬ a1.toInt / 2400 = a2.toInt) ∧ ¬ 0 < (I 32 a1.toInt.toNat).toInt ∧ (I 33 a1.toInt.toNat).toInt = 0 ∧ zb_M I (a1.toInt / 100) 100 < zb_am I 2 (a1.toInt / 100 % 24) (I 0 0).toInt) ∧ r = 0 ∧ (∀ j, I1 32 j = I 32 j) ∧ I1 0 51 = I 0 51))) (z_B G A) A) ([.ref (ad 0), .int a1, .int a2] : List Value).toArray s 0 0 A) (F0 m 59 ls []) := by
              intro f
              induction f with
              | zero => intro y27 y28 H locs ls lp26m lp26l5 lp26l4 lp26u4 lp26z lp26B hW hS hl; exact absurd lp26m (by have := Int32.toInt_lt y27; have := Int32.le_toInt y27; omega)
              | succ f lp26ih =>
                intro y27 y28 H locs ls lp26m lp26l5 lp26l4 lp26u4 lp26z lp26B hW hS hl
                refine lv_iload hx hb dX12_lend_59 (lv_at hl 0 rfl) ?_
                refine lv_bipush (v := 100) hx hb dX12_lend_61 (by decide) ?_
                refine lv_iload_n hx hb dX12_lend_63 rfl (lv_at hl 2 rfl) ?_
                refine lv_imul hx hb dX12_lend_64 ?_
                refine lv_topi (fun x29 ex29 => ?_)
                have tx29 : x29.toInt = 100 * x24.toInt := z_tmul ex29 z_l100 rfl (by omega) (by omega)
                refine lv_bipush (v := 100) hx hb dX12_lend_65 (by decide) ?_
                refine lv_iadd hx hb dX12_lend_67 ?_
                refine lv_topi (fun x30 ex30 => ?_)
                have tx30 : x30.toInt = x29.toInt + 100 := z_tadd ex30 rfl z_l100 (by omega) (by omega)
                refine lv_icmp_ge (tgt := 90) hx hb dX12_lend_68 (by decide) (fun c31 => ?_) (fun c31 => ?_)
                · have g32 := z_f_ge rfl rfl c31
                  have b33 := Int32.toInt_lt y27
                  refine lv_iload hx hb dX12_lend_90 (lv_at hl 1 rfl) ?_
                  refine lv_aload_n hx hb dX12_lend_92 rfl (lv_at hl 3 rfl) ?_
                  refine lv_iload_n hx hb dX12_lend_93 rfl (lv_at hl 2 rfl) ?_
                  refine lv_bipush (v := 24) hx hb dX12_lend_94 (by decide) ?_
                  refine lv_irem hx hb dX12_lend_96 (by decide) ?_
                  refine lv_topi (fun x34 ex34 => ?_)
                  have tx34 := z_trem ex34 rfl z_l24 (by decide)
                  refine lv_aload_n hx hb dX12_lend_97 rfl (lv_at hl 3 rfl) ?_
                  have r35 : 0 ≤ (I 0 0).toInt ∧ (I 0 0).toInt ≤ 719 := hma.1
                  refine z_get (T := TX12) (N := 96) (ci := 12) (i := 0) (v := .int (I 0 0)) hx hb hts zj_X12_lend_X12 hown hK hW rfl rfl 0 (by decide) (hts (.fieldLink RX12 232 "PetrolBoardModel" "today" "I") (me_s (me_l (me_l (List.mem_of_getElem? (i := 2) rfl))))) (fun _ h => h) rfl dX12_lend_98 ?_
                  refine lv_iconst (v := 5) hx hb dX12_lend_101 (by decide) ?_
                  refine z_ci hW hS hA (va_runV (As := [.int x34, .int (I 0 0), .int 5]) (rest := [.int y28]) ⟨hx, hb, hml, hown, hts⟩ (sx_X12_number_x l G ad I J ⟨(by show 0 ≤ (I 0 13).toInt ∧ (I 0 13).toInt ≤ 12; exact hmb.1), (by show 0 ≤ (I 0 14).toInt ∧ (I 0 14).toInt ≤ 288; exact hmb.2)⟩ hAtf hAtm x34 (I 0 0) 5 (by decide) _) (cwV 3 hts gX12_lend_X12_number rfl rfl rfl (by decide +kernel) ⟨Nat.le_of_ble_eq_true rfl, Nat.le_of_ble_eq_true rfl⟩) (z_preV (i := 0) hK hW rfl rfl) rfl rfl hl.1 rfl (lv_room (Nat.le_of_ble_eq_true rfl)) dX12_lend_102 ⟨Nat.le_of_ble_eq_true rfl, Nat.le_of_ble_eq_true rfl⟩) (fun r u1 H locs hp hW hS => ?_)
                  obtain ⟨e9, hp⟩ := hp
                  rw [e9] at hW
                  refine lv_topi (fun x36 ex36 => ?_)
                  have hq38 : x34.toInt = a1.toInt / 100 % 24 := by omega
                  rw [← ex36, show (5 : Int32).toInt - 3 = 2 by decide, hq38] at hp
                  have hM37 : x36.toInt = zb_am I 2 (a1.toInt / 100 % 24) (I 0 0).toInt := zb_f_e hp
                  refine lv_icmp_lt (tgt := 110) hx hb dX12_lend_105 (by decide) (fun c39 => ?_) (fun c39 => ?_)
                  · have g40 := z_f_lt rfl rfl c39
                    have b41 := Int32.toInt_lt x36
                    refine lv_aload_n hx hb dX12_lend_110 rfl (lv_at hl 3 rfl) ?_
                    refine z_get (T := TX12) (N := 96) (ci := 12) (i := 0) (v := .ref (ad 32)) hx hb hts zj_X12_lend_X12 hown hK hW rfl rfl 52 (by decide) (hts (.fieldLink RX12 110 "PetrolBoardModel" "lentTo" "[I") (me_s (me_l (me_l (List.mem_of_getElem? (i := 0) rfl))))) (fun _ h => h) rfl dX12_lend_111 ?_
                    refine lv_iload_n hx hb dX12_lend_114 rfl (lv_at hl 4 rfl) ?_
                    refine lv_iload_n hx hb dX12_lend_115 rfl (lv_at hl 5 rfl) ?_
                    refine lv_iconst (v := 1) hx hb dX12_lend_116 (by decide) ?_
                    refine lv_iadd hx hb dX12_lend_117 ?_
                    refine lv_topi (fun x42 ex42 => ?_)
                    have tx42 : x42.toInt = a2.toInt + 1 := z_tadd ex42 rfl z_l1 (by omega) (by omega)
                    refine z_iast (i := 32) hx hb hK hW hS rfl (z_ix rfl (by omega) (by omega)) dX12_lend_118 (fun H locs hz1 hW hS => ?_)
                    obtain ⟨I43, eI43⟩ : ∃ K : z_I, K = z_up I 32 a1.toNatClampNeg x42 := ⟨_, rfl⟩
                    rw [← eI43] at hW
                    have f44 := z_fr_a z_fr_0 (show z_wa L_X12_lend_c 32 = true by decide) eI43
                    have a45 := z_rg_n hAtf (by decide) eI43
                    have a46 := z_rg_n hAtm (by decide) eI43
                    refine lv_aload_n hx hb dX12_lend_119 rfl (lv_at hl 3 rfl) ?_
                    refine lv_dup hx hb dX12_lend_120 rfl ?_
                    refine z_get (T := TX12) (N := 96) (ci := 12) (i := 0) (v := .int (I 0 51)) hx hb hts zj_X12_lend_X12 hown hK hW rfl rfl 51 (by decide) (hts (.fieldLink RX12 455 "PetrolBoardModel" "lentAll" "I") (me_s (me_l (me_l (List.mem_of_getElem? (i := 3) rfl))))) (fun _ h => h) (congrArg Value.int (by rw [eI43, z_up_n (by decide)])) dX12_lend_121 ?_
                    refine lv_iconst (v := 1) hx hb dX12_lend_124 (by decide) ?_
                    refine lv_iadd hx hb dX12_lend_125 ?_
                    refine lv_topi (fun x47 ex47 => ?_)
                    refine z_put (T := TX12) (N := 96) (ci := 12) (i := 0) (v := .int x47) (I1 := z_up I43 0 51 x47) (J1 := J) (P1 := PM ad) hx hb hts zj_X12_lend_X12 tyX12 tyX12_ok nmX12 hown hK hW hS rfl rfl 51 (by decide) (hts (.fieldLink RX12 455 "PetrolBoardModel" "lentAll" "I") (me_s (me_l (me_l (List.mem_of_getElem? (i := 3) rfl))))) (fun _ h => h) rfl rfl rfl (by first | rfl | exact congrArg _ z_up_s) (fun a b h ty => z_vI h ty) dX12_lend_126 (fun H locs hz1 hW hS => ?_)
                    obtain ⟨I48, eI48⟩ : ∃ K : z_I, K = z_up I43 0 51 x47 := ⟨_, rfl⟩
                    rw [← eI48] at hW
                    have f49 := z_fr_k f44 (show z_wr L_X12_lend_c 0 51 = true by decide) eI48
                    have a50 := z_rg_n a45 (by decide) eI48
                    have a51 := z_rg_n a46 (by decide) eI48
                    refine lv_iconst (v := 1) hx hb dX12_lend_129 (by decide) ?_
                    exact z_zret hx hb hr (by decide) hK hS (Nat.le_of_ble_eq_true rfl) (Nat.le_of_ble_eq_true rfl) hlocks dX12_lend_130 (shM, ad, I48, J, PM ad) hW ⟨I48, J, rfl, ⟨(by show 0 ≤ (I48 0 0).toInt ∧ (I48 0 0).toInt ≤ 719; rw [eI48, z_up_k (by decide), eI43, z_up_n (by decide)]; exact hma.1), (by show 0 ≤ (I48 0 1).toInt ∧ (I48 0 1).toInt ≤ 30; rw [eI48, z_up_k (by decide), eI43, z_up_n (by decide)]; exact hma.2.1), (by show 0 ≤ (I48 0 2).toInt ∧ (I48 0 2).toInt ≤ 200; rw [eI48, z_up_k (by decide), eI43, z_up_n (by decide)]; exact hma.2.2)⟩, ⟨(by show 0 ≤ (I48 0 13).toInt ∧ (I48 0 13).toInt ≤ 12; rw [eI48, z_up_k (by decide), eI43, z_up_n (by decide)]; exact hmb.1), (by show 0 ≤ (I48 0 14).toInt ∧ (I48 0 14).toInt ≤ 288; rw [eI48, z_up_k (by decide), eI43, z_up_n (by decide)]; exact hmb.2)⟩, a50, a51, f49, (Or.inl ⟨⟨hb1, by omega, by omega, by omega, by have w9 := lp26B.1; rw [show (y27.toInt - 100 * (a1.toInt / 100)).toNat = 100 by omega] at w9; omega⟩, rfl, x42, by omega, (fun j => by rw [eI48, z_up_n (by decide), eI43, z_up_j]; rfl), (by rw [eI48, z_up_s, ex47])⟩)⟩
                  · have g52 := z_f_nlt rfl rfl c39
                    have b53 := Int32.toInt_lt x36
                    refine lv_iconst (v := 0) hx hb dX12_lend_108 (by decide) ?_
                    exact z_zret hx hb hr (by decide) hK hS (Nat.le_of_ble_eq_true rfl) (Nat.le_of_ble_eq_true rfl) hlocks dX12_lend_109 (shM, ad, I, J, PM ad) hW ⟨I, J, rfl, ⟨(by show 0 ≤ (I 0 0).toInt ∧ (I 0 0).toInt ≤ 719; exact hma.1), (by show 0 ≤ (I 0 1).toInt ∧ (I 0 1).toInt ≤ 30; exact hma.2.1), (by show 0 ≤ (I 0 2).toInt ∧ (I 0 2).toInt ≤ 200; exact hma.2.2)⟩, ⟨(by show 0 ≤ (I 0 13).toInt ∧ (I 0 13).toInt ≤ 12; exact hmb.1), (by show 0 ≤ (I 0 14).toInt ∧ (I 0 14).toInt ≤ 288; exact hmb.2)⟩, hAtf, hAtm, z_fr_0, (Or.inr ⟨fun q => absurd q.2.2.2.2 (by have w9 := lp26B.1; rw [show (y27.toInt - 100 * (a1.toInt / 100)).toNat = 100 by omega] at w9; omega), rfl, (fun j => rfl), rfl⟩)⟩
                · have g54 := z_f_nge rfl rfl c31
                  have b55 := Int32.toInt_lt y27
                  refine lv_aload_n hx hb dX12_lend_71 rfl (lv_at hl 3 rfl) ?_
                  refine z_get (T := TX12) (N := 96) (ci := 12) (i := 0) (v := .ref (ad 32)) hx hb hts zj_X12_lend_X12 hown hK hW rfl rfl 52 (by decide) (hts (.fieldLink RX12 110 "PetrolBoardModel" "lentTo" "[I") (me_s (me_l (me_l (List.mem_of_getElem? (i := 0) rfl))))) (fun _ h => h) rfl dX12_lend_72 ?_
                  refine lv_iload hx hb dX12_lend_75 (lv_at hl 0 rfl) ?_
                  refine z_iald (i := 32) hx hb hK hW rfl (z_ix rfl (by omega) (by omega)) dX12_lend_77 ?_
                  refine lv_topi (fun x56 ex56 => ?_)
                  have hv57 : (I 32 y27.toNatClampNeg).toInt = x56.toInt := by rw [ex56]
                  have hz58 := z_clt (x := y27) rfl (by omega)
                  refine lv_if_le (tgt := 84) hx hb dX12_lend_78 (by decide) (fun c59 => ?_) (fun c59 => ?_)
                  · have g60 := z_f_le rfl z_l0 c59
                    have b61 := Int32.toInt_lt x56
                    obtain ⟨x62, ex62⟩ : ∃ y : Int32, y = y27 + 1 := ⟨_, rfl⟩
                    have tx62 : x62.toInt = y27.toInt + 1 := z_tadd ex62 rfl z_l1 (by omega) (by omega)
                    refine lv_iinc (v := x62) (lv' := [(5, .int x62), (4, .int y28), (3, .int x24), (0, .ref (ad 0)), (1, .int a1), (2, .int a2)]) hx hb dX12_lend_84 hl (k := 0) rfl (by rw [ex62]; rfl) (by decide) rfl (fun ls hl => ?_)
                    refine lv_goto (tgt := 59) hx hb dX12_lend_87 (by decide) ?_
                    exact lp26ih x62 y28 _ _ _ (by omega) (by omega) (by omega) (by omega) (by omega) ⟨by rw [show (x62.toInt - 100 * (a1.toInt / 100)).toNat = (y27.toInt - 100 * (a1.toInt / 100)).toNat + 1 by omega]; first | (rw [zb_M_y (by rw [(show (100 * (a1.toInt / 100) + (((y27.toInt - 100 * (a1.toInt / 100)).toNat : Nat) : Int)).toNat = y27.toNatClampNeg by omega)]; omega)]; omega) | (rw [zb_M_n (by rw [(show (100 * (a1.toInt / 100) + (((y27.toInt - 100 * (a1.toInt / 100)).toNat : Nat) : Int)).toNat = y27.toNatClampNeg by omega)]; omega)]; omega), by omega, by omega, by omega⟩ hW hS (lv_sub hl [0, 1, 2, 3, 4, 5] rfl)
                  · have g63 := z_f_nle rfl z_l0 c59
                    have b64 := Int32.toInt_lt x56
                    obtain ⟨x65, ex65⟩ : ∃ y : Int32, y = y28 + 1 := ⟨_, rfl⟩
                    have tx65 : x65.toInt = y28.toInt + 1 := z_tadd ex65 rfl z_l1 (by omega) (by omega)
                    refine lv_iinc (v := x65) (lv' := [(4, .int x65), (5, .int y27), (3, .int x24), (0, .ref (ad 0)), (1, .int a1), (2, .int a2)]) hx hb dX12_lend_81 hl (k := 1) rfl (by rw [ex65]; rfl) (by decide) rfl (fun ls hl => ?_)
                    obtain ⟨x66, ex66⟩ : ∃ y : Int32, y = y27 + 1 := ⟨_, rfl⟩
                    have tx66 : x66.toInt = y27.toInt + 1 := z_tadd ex66 rfl z_l1 (by omega) (by omega)
                    refine lv_iinc (v := x66) (lv' := [(5, .int x66), (4, .int x65), (3, .int x24), (0, .ref (ad 0)), (1, .int a1), (2, .int a2)]) hx hb dX12_lend_84 hl (k := 1) rfl (by rw [ex66]; rfl) (by decide) rfl (fun ls hl => ?_)
                    refine lv_goto (tgt := 59) hx hb dX12_lend_87 (by decide) ?_
                    exact lp26ih x66 x65 _ _ _ (by omega) (by omega) (by omega) (by omega) (by omega) ⟨by rw [show (x66.toInt - 100 * (a1.toInt / 100)).toNat = (y27.toInt - 100 * (a1.toInt / 100)).toNat + 1 by omega]; first | (rw [zb_M_y (by rw [(show (100 * (a1.toInt / 100) + (((y27.toInt - 100 * (a1.toInt / 100)).toNat : Nat) : Int)).toNat = y27.toNatClampNeg by omega)]; omega)]; omega) | (rw [zb_M_n (by rw [(show (100 * (a1.toInt / 100) + (((y27.toInt - 100 * (a1.toInt / 100)).toNat : Nat) : Int)).toNat = y27.toNatClampNeg by omega)]; omega)]; omega), by omega, by omega, by omega⟩ hW hS (lv_sub hl [0, 1, 2, 3, 4, 5] rfl)
            exact lp26 4294967296 x25 (0) _ _ _ (z_m0u _) (by omega) (by rw [z_l0]; omega) (by rw [z_l0]; omega) (by omega) ⟨by rw [show (x25.toInt - 100 * (a1.toInt / 100)).toNat = 0 by omega]; rfl, by omega, by omega, by have q0 := z_l0; omega⟩ hW hS (lv_sub hl [0, 1, 2, 3, 4, 5] rfl)
          · have g67 := z_f_ne rfl z_l0 c21
            have b68 := Int32.toInt_lt x19
            refine lv_iconst (v := 0) hx hb dX12_lend_43 (by decide) ?_
            exact z_zret hx hb hr (by decide) hK hS (Nat.le_of_ble_eq_true rfl) (Nat.le_of_ble_eq_true rfl) hlocks dX12_lend_44 (shM, ad, I, J, PM ad) hW ⟨I, J, rfl, ⟨(by show 0 ≤ (I 0 0).toInt ∧ (I 0 0).toInt ≤ 719; exact hma.1), (by show 0 ≤ (I 0 1).toInt ∧ (I 0 1).toInt ≤ 30; exact hma.2.1), (by show 0 ≤ (I 0 2).toInt ∧ (I 0 2).toInt ≤ 200; exact hma.2.2)⟩, ⟨(by show 0 ≤ (I 0 13).toInt ∧ (I 0 13).toInt ≤ 12; exact hmb.1), (by show 0 ≤ (I 0 14).toInt ∧ (I 0 14).toInt ≤ 288; exact hmb.2)⟩, hAtf, hAtm, z_fr_0, (Or.inr ⟨fun q => by have q2 := q.2.1; have q3 := q.2.2.1; have q4 := q.2.2.2.1; omega, rfl, (fun j => rfl), rfl⟩)⟩
    · have h69 := h4
      have r70 : 0 ≤ (I 0 1).toInt ∧ (I 0 1).toInt ≤ 30 := hma.2.1
      refine lv_if_eq (tgt := 43) hx hb dX12_lend_13 (by decide) (fun c71 => ?_) (fun c71 => absurd (by decide) c71)
      refine lv_iconst (v := 0) hx hb dX12_lend_43 (by decide) ?_
      exact z_zret hx hb hr (by decide) hK hS (Nat.le_of_ble_eq_true rfl) (Nat.le_of_ble_eq_true rfl) hlocks dX12_lend_44 (shM, ad, I, J, PM ad) hW ⟨I, J, rfl, ⟨(by show 0 ≤ (I 0 0).toInt ∧ (I 0 0).toInt ≤ 719; exact hma.1), (by show 0 ≤ (I 0 1).toInt ∧ (I 0 1).toInt ≤ 30; exact hma.2.1), (by show 0 ≤ (I 0 2).toInt ∧ (I 0 2).toInt ≤ 200; exact hma.2.2)⟩, ⟨(by show 0 ≤ (I 0 13).toInt ∧ (I 0 13).toInt ≤ 12; exact hmb.1), (by show 0 ≤ (I 0 14).toInt ∧ (I 0 14).toInt ≤ 288; exact hmb.2)⟩, hAtf, hAtm, z_fr_0, (Or.inr ⟨fun q => by have q2 := q.2.1; have q3 := q.2.2.1; have q4 := q.2.2.2.1; omega, rfl, (fun j => rfl), rfl⟩)⟩
  · refine lv_if_eq (tgt := 43) hx hb dX12_lend_5 (by decide) (fun c72 => ?_) (fun c72 => absurd (by decide) c72)
    refine lv_iconst (v := 0) hx hb dX12_lend_43 (by decide) ?_
    exact z_zret hx hb hr (by decide) hK hS (Nat.le_of_ble_eq_true rfl) (Nat.le_of_ble_eq_true rfl) hlocks dX12_lend_44 (shM, ad, I, J, PM ad) hW ⟨I, J, rfl, ⟨(by show 0 ≤ (I 0 0).toInt ∧ (I 0 0).toInt ≤ 719; exact hma.1), (by show 0 ≤ (I 0 1).toInt ∧ (I 0 1).toInt ≤ 30; exact hma.2.1), (by show 0 ≤ (I 0 2).toInt ∧ (I 0 2).toInt ≤ 200; exact hma.2.2)⟩, ⟨(by show 0 ≤ (I 0 13).toInt ∧ (I 0 13).toInt ≤ 12; exact hmb.1), (by show 0 ≤ (I 0 14).toInt ∧ (I 0 14).toInt ≤ 288; exact hmb.2)⟩, hAtf, hAtm, z_fr_0, (Or.inr ⟨fun q => hb1 q.1, rfl, (fun j => rfl), rfl⟩)⟩
end SG60z9
section SG60za


/-! POURS -/
noncomputable def zp_rX (I1 I : z_I) (n : Nat) (v0 v1 v2 v3 v4 v5 v6 v7 : Int32) : Prop := (∀ j, I1 31 j = if j = n then v0 else I 31 j) ∧ (∀ j, I1 32 j = if j = n then v1 else I 32 j) ∧ (∀ j, I1 33 j = if j = n then v2 else I 33 j) ∧ (∀ j, I1 34 j = if j = n then v3 else I 34 j) ∧ (∀ j, I1 35 j = if j = n then v4 else I 35 j) ∧ (∀ j, I1 36 j = if j = n then v5 else I 36 j) ∧ (∀ j, I1 37 j = if j = n then v6 else I 37 j) ∧ (∀ j, I1 38 j = if j = n then v7 else I 38 j)
noncomputable def zp_rM (I1 I : z_I) (n : Nat) (v0 v1 v2 v3 v4 v5 v6 v7 : Int32) : Prop := (∀ j, I1 34 j = if j = n then v0 else I 34 j) ∧ (∀ j, I1 35 j = if j = n then v1 else I 35 j) ∧ (∀ j, I1 36 j = if j = n then v2 else I 36 j) ∧ (∀ j, I1 37 j = if j = n then v3 else I 37 j) ∧ (∀ j, I1 38 j = if j = n then v4 else I 38 j) ∧ (∀ j, I1 40 j = if j = n then v5 else I 40 j) ∧ (∀ j, I1 42 j = if j = n then v6 else I 42 j) ∧ (∀ j, I1 39 j = if j = n then v7 else I 39 j)
noncomputable def zp_sX (I1 I : z_I) : Prop := ∀ j, I1 31 j = I 31 j ∧ I1 32 j = I 32 j ∧ I1 33 j = I 33 j ∧ I1 34 j = I 34 j ∧ I1 35 j = I 35 j ∧ I1 36 j = I 36 j ∧ I1 37 j = I 37 j ∧ I1 38 j = I 38 j
noncomputable def zp_sM (I1 I : z_I) : Prop := ∀ j, I1 34 j = I 34 j ∧ I1 35 j = I 35 j ∧ I1 36 j = I 36 j ∧ I1 37 j = I 37 j ∧ I1 38 j = I 38 j ∧ I1 40 j = I 40 j ∧ I1 42 j = I 42 j ∧ I1 39 j = I 39 j
theorem zb_ax_c {c : z_C} {I K : z_I} {t m k : Int} (h : ∀ a q, 200 ≤ a → K a q = I a q) : zb_ax c K t m k = zb_ax c I t m k := by
  have e1 : zi_mo K = zi_mo I := funext fun j => by unfold zi_mo; rw [h _ _ (by omega)]
  have e2 : zi_td K = zi_td I := funext fun j => by unfold zi_td; rw [h _ _ (by omega)]
  have e3 : zi_ax c K t = zi_ax c I t := funext fun j => by
    have e4 : zi_hd K (200 + 5 * j) = zi_hd I (200 + 5 * j) := funext fun q => by unfold zi_hd; rw [h _ _ (by omega)]
    have e5 : zi_nu K (200 + 5 * j) = zi_nu I (200 + 5 * j) := funext fun q => by unfold zi_nu; rw [h _ _ (by omega)]
    unfold zi_ax
    rw [e4, e5]
  unfold zb_ax
  rw [e1, e2, e3]
theorem zb_am_c {I K : z_I} {t m k : Int} (h : ∀ j, K 11 j = I 11 j ∧ K 12 j = I 12 j ∧ K 13 j = I 13 j ∧ K 14 j = I 14 j ∧ K 15 j = I 15 j ∧ K 16 j = I 16 j) (hn : K 0 13 = I 0 13) : zb_am K t m k = zb_am I t m k := by
  have e1 : zi_km K = zi_km I := funext fun j => by unfold zi_km; rw [(h j).2.2.1]
  have e2 : zi_kt K = zi_kt I := funext fun j => by unfold zi_kt; rw [(h j).2.2.2.1]
  have e3 : zi_am K t = zi_am I t := funext fun j => by
    have e4 : ∀ s, zi_kh K s = zi_kh I s := fun s => funext fun q => by unfold zi_kh; rw [(h _).2.2.2.2.1]
    have e5 : ∀ s, zi_kn K s = zi_kn I s := fun s => funext fun q => by unfold zi_kn; rw [(h _).2.2.2.2.2]
    unfold zi_am
    rw [(h j).1, (h j).2.1, e4, e5]
  unfold zb_am
  rw [e1, e2, e3, hn]
theorem zb_K_C {I K : z_I} {a : Int} {n : Nat} (h : ∀ j, K 28 j = I 28 j) : zb_K K a n = zb_K I a n := zb_K_c n (fun j _ => h j)
theorem zb_O_c {I K : z_I} {a : Int} (h1 : ∀ j, K 28 j = I 28 j) (h2 : ∀ j, K 29 j = I 29 j) (h3 : K 26 4 = I 26 4) : zb_O K a = zb_O I a := by
  unfold zb_O
  rw [h3, zb_K_C h1, h2]
theorem zb_P_c {I K : z_I} {a : Int} (h : ∀ j, K 32 j = I 32 j) : zb_P K a = zb_P I a := by
  unfold zb_P
  rw [h]
theorem zb_hx_c {I K : z_I} {a : Int} (h : ∀ j, K 27 j = I 27 j) : zb_hx K a ↔ zb_hx I a := by
  unfold zb_hx
  rw [h]
theorem zb_hm_c {I K : z_I} {a : Int} (h : ∀ j, K 31 j = I 31 j) : zb_hm K a ↔ zb_hm I a := by
  unfold zb_hm
  rw [h]
/-- whose a COUPON is, NONE if it isn't issued -/
noncomputable def zb_OX (I : z_I) (a : Int) : Int := if zb_hx I a then zb_O I a else -1
noncomputable def zb_OM (K : z_I) (a : Int) : Int := if zb_hm K a then zb_P K a else -1
theorem zb_OX_e {I : z_I} {a r : Int} (h : (¬ zb_hx I a ∧ r = -1) ∨ (zb_hx I a ∧ r = zb_O I a)) : r = zb_OX I a := by
  unfold zb_OX
  rcases h with ⟨h, e⟩ | ⟨h, e⟩
  · rw [if_neg h, e]
  · rw [if_pos h, e]
theorem zb_OX_c {I K : z_I} {a : Int} (h : ∀ j, K 27 j = I 27 j) (h1 : ∀ j, K 28 j = I 28 j) (h2 : ∀ j, K 29 j = I 29 j) (h3 : K 26 4 = I 26 4) : zb_OX K a = zb_OX I a := sorry
theorem zb_OM_c {I K : z_I} {a : Int} (h : ∀ j, K 31 j = I 31 j) (h1 : ∀ j, K 32 j = I 32 j) : zb_OM K a = zb_OM I a := sorry
/-! the VERDICTS -/
noncomputable def zf_vw (C : Nat → Int) (U : Nat → Bool) (B : Nat → Int) (n : Nat) (V : Nat → Int) (j : Nat) : Int := if U j = true then 1 else if zf_h C V (C j) n = true then 2 else B j
theorem zf_vw_1 {C : Nat → Int} {U : Nat → Bool} {B V : Nat → Int} {n j : Nat} (h : U j = true) : zf_vw C U B n V j = 1 := if_pos h
theorem zf_vw_2 {C : Nat → Int} {U : Nat → Bool} {B V : Nat → Int} {n j : Nat} (h : U j = false) (h2 : zf_h C V (C j) n = true) : zf_vw C U B n V j = 2 := by
  unfold zf_vw
  rw [if_neg (fun q => Bool.false_ne_true (h.symm.trans q)), if_pos h2]
theorem zf_vw_3 {C : Nat → Int} {U : Nat → Bool} {B V : Nat → Int} {n j : Nat} (h : U j = false) (h2 : zf_h C V (C j) n = false) : zf_vw C U B n V j = B j := by
  unfold zf_vw
  rw [if_neg (fun q => Bool.false_ne_true (h.symm.trans q)), if_neg (fun q => Bool.false_ne_true (h2.symm.trans q))]
noncomputable def zg_v (C : Nat → Int) (U : Nat → Bool) (B : Nat → Int) (W : Int → Bool) (j : Nat) : Int := if U j = true then 1 else if W (C j) = true then 2 else B j
theorem zg_v_1 {C : Nat → Int} {U : Nat → Bool} {B : Nat → Int} {W : Int → Bool} {j : Nat} (h : U j = true) : zg_v C U B W j = 1 := if_pos h
theorem zg_v_2 {C : Nat → Int} {U : Nat → Bool} {B : Nat → Int} {W : Int → Bool} {j : Nat} (h : U j = false) (h2 : W (C j) = true) : zg_v C U B W j = 2 := by
  unfold zg_v
  rw [if_neg (fun q => Bool.false_ne_true (h.symm.trans q)), if_pos h2]
theorem zg_v_3 {C : Nat → Int} {U : Nat → Bool} {B : Nat → Int} {W : Int → Bool} {j : Nat} (h : U j = false) (h2 : W (C j) = false) : zg_v C U B W j = B j := by
  unfold zg_v
  rw [if_neg (fun q => Bool.false_ne_true (h.symm.trans q)), if_neg (fun q => Bool.false_ne_true (h2.symm.trans q))]
/-- the class's way: the VERDICTS and how many are GOOD, behind the first j -/
noncomputable def zf_F (S C : Nat → Int) (U : Nat → Bool) (B : Nat → Int) (s : Int) (n : Nat) (V0 : Nat → Int) : Nat → (Nat → Int) × Int
  | 0 => (V0, 0)
  | j + 1 => if S j = s ∧ (zf_F S C U B s n V0 j).1 j = -1 then (fun i => if i = j then zf_vw C U B n (zf_F S C U B s n V0 j).1 j else (zf_F S C U B s n V0 j).1 i, (zf_F S C U B s n V0 j).2 + if zf_vw C U B n (zf_F S C U B s n V0 j).1 j = 0 then 1 else 0) else zf_F S C U B s n V0 j
/-- the reference's: the VERDICTS, the COUPONS handed in, how many are GOOD -/
noncomputable def zg_F (S C : Nat → Int) (U : Nat → Bool) (B : Nat → Int) (s : Int) (V0 : Nat → Int) (W0 : Int → Bool) : Nat → (Nat → Int) × (Int → Bool) × Int
  | 0 => (V0, W0, 0)
  | j + 1 => if S j = s ∧ ¬ 0 ≤ (zg_F S C U B s V0 W0 j).1 j then (fun i => if i = j then zg_v C U B (zg_F S C U B s V0 W0 j).2.1 j else (zg_F S C U B s V0 W0 j).1 i, fun a => if a = C j then true else (zg_F S C U B s V0 W0 j).2.1 a, (zg_F S C U B s V0 W0 j).2.2 + if zg_v C U B (zg_F S C U B s V0 W0 j).2.1 j = 0 then 1 else 0) else zg_F S C U B s V0 W0 j
section ZFG
variable {S C : Nat → Int} {U : Nat → Bool} {B : Nat → Int} {s : Int} {n : Nat} {V0 : Nat → Int} {W0 : Int → Bool}
theorem zf_F_n {j : Nat} (h : ¬ (S j = s ∧ (zf_F S C U B s n V0 j).1 j = -1)) : zf_F S C U B s n V0 (j + 1) = zf_F S C U B s n V0 j := by rw [zf_F, if_neg h]
theorem zf_F_1 {j : Nat} (h : S j = s ∧ (zf_F S C U B s n V0 j).1 j = -1) : (zf_F S C U B s n V0 (j + 1)).1 = fun i => if i = j then zf_vw C U B n (zf_F S C U B s n V0 j).1 j else (zf_F S C U B s n V0 j).1 i := by rw [zf_F, if_pos h]
theorem zf_F_2 {j : Nat} (h : S j = s ∧ (zf_F S C U B s n V0 j).1 j = -1) : (zf_F S C U B s n V0 (j + 1)).2 = (zf_F S C U B s n V0 j).2 + if zf_vw C U B n (zf_F S C U B s n V0 j).1 j = 0 then 1 else 0 := by rw [zf_F, if_pos h]
theorem zg_F_n {j : Nat} (h : ¬ (S j = s ∧ ¬ 0 ≤ (zg_F S C U B s V0 W0 j).1 j)) : zg_F S C U B s V0 W0 (j + 1) = zg_F S C U B s V0 W0 j := by rw [zg_F, if_neg h]
theorem zg_F_1 {j : Nat} (h : S j = s ∧ ¬ 0 ≤ (zg_F S C U B s V0 W0 j).1 j) : (zg_F S C U B s V0 W0 (j + 1)).1 = fun i => if i = j then zg_v C U B (zg_F S C U B s V0 W0 j).2.1 j else (zg_F S C U B s V0 W0 j).1 i := by rw [zg_F, if_pos h]
theorem zg_F_2 {j : Nat} (h : S j = s ∧ ¬ 0 ≤ (zg_F S C U B s V0 W0 j).1 j) : (zg_F S C U B s V0 W0 (j + 1)).2.1 = fun a => if a = C j then true else (zg_F S C U B s V0 W0 j).2.1 a := by rw [zg_F, if_pos h]
theorem zg_F_3 {j : Nat} (h : S j = s ∧ ¬ 0 ≤ (zg_F S C U B s V0 W0 j).1 j) : (zg_F S C U B s V0 W0 (j + 1)).2.2 = (zg_F S C U B s V0 W0 j).2.2 + if zg_v C U B (zg_F S C U B s V0 W0 j).2.1 j = 0 then 1 else 0 := by rw [zg_F, if_pos h]
end ZFG
/-- both ways end alike -/
theorem zfg {S C S1 C1 : Nat → Int} {U U1 : Nat → Bool} {B B1 : Nat → Int} {s : Int} {n : Nat} {V0 V1 : Nat → Int} {W0 : Int → Bool} (he : ∀ j, j < n → S1 j = S j ∧ C1 j = C j ∧ U1 j = U j ∧ B1 j = B j ∧ V1 j = V0 j ∧ -1 ≤ V0 j ∧ 0 ≤ B j ∧ 0 ≤ C j ∧ C j ≤ 99999) (hW : ∀ a, 0 ≤ a → a ≤ 99999 → (W0 a = true ↔ ∃ p, p < n ∧ C p = a ∧ ¬ V0 p = -1)) : ∀ j, j ≤ n → (∀ i, i < n → (zg_F S1 C1 U1 B1 s V1 W0 j).1 i = (zf_F S C U B s n V0 j).1 i ∧ -1 ≤ (zf_F S C U B s n V0 j).1 i) ∧ (zg_F S1 C1 U1 B1 s V1 W0 j).2.2 = (zf_F S C U B s n V0 j).2 ∧ ∀ a, 0 ≤ a → a ≤ 99999 → ((zg_F S1 C1 U1 B1 s V1 W0 j).2.1 a = true ↔ ∃ p, p < n ∧ C p = a ∧ ¬ (zf_F S C U B s n V0 j).1 p = -1)
  | 0, _ => ⟨fun i hi => ⟨(he i hi).2.2.2.2.1, (he i hi).2.2.2.2.2.1⟩, rfl, hW⟩
  | j + 1, hj => by
    obtain ⟨h1, h2, h3⟩ := zfg he hW j (by omega)
    obtain ⟨e1, e2, e3, e4, _, _, e7, e8, e9⟩ := he j (by omega)
    obtain ⟨f1, f2⟩ := h1 j (by omega)
    by_cases q : S j = s ∧ (zf_F S C U B s n V0 j).1 j = -1
    · have q1 : S1 j = s ∧ ¬ 0 ≤ (zg_F S1 C1 U1 B1 s V1 W0 j).1 j := ⟨e1.trans q.1, by rw [f1, q.2]; decide⟩
      have hh := h3 (C j) e8 e9
      have hi := zf_h_i (C := C) (V := (zf_F S C U B s n V0 j).1) (a := C j) n
      have hv : zg_v C1 U1 B1 (zg_F S1 C1 U1 B1 s V1 W0 j).2.1 j = zf_vw C U B n (zf_F S C U B s n V0 j).1 j := by
        unfold zg_v zf_vw
        rw [e2, e3, e4]
        by_cases w : U j = true
        · rw [if_pos w, if_pos w]
        · rw [if_neg w, if_neg w]
          by_cases x : zf_h C (zf_F S C U B s n V0 j).1 (C j) n = true
          · rw [if_pos x, if_pos (hh.mpr (hi.mp x))]
          · rw [if_neg x, if_neg (fun z => x (hi.mpr (hh.mp z)))]
      have hv0 : 0 ≤ zf_vw C U B n (zf_F S C U B s n V0 j).1 j := by
        unfold zf_vw
        split
        · decide
        · split
          · decide
          · exact e7
      rw [zf_F_1 q, zf_F_2 q, zg_F_1 q1, zg_F_2 q1, zg_F_3 q1, hv, h2, e2]
      refine ⟨fun i hi => ?_, rfl, fun a a0 a9 => ?_⟩
      · by_cases w : i = j
        · subst w
          simp only [if_pos]
          exact ⟨trivial, by omega⟩
        · simp only [if_neg w]
          exact h1 i hi
      · by_cases w : a = C j
        · simp only [if_pos w, true_iff]
          exact ⟨j, by omega, w.symm, by rw [if_pos rfl]; omega⟩
        · simp only [if_neg w]
          rw [h3 a a0 a9]
          refine ⟨fun ⟨p, p1, p2, p3⟩ => ⟨p, p1, p2, ?_⟩, fun ⟨p, p1, p2, p3⟩ => ⟨p, p1, p2, ?_⟩⟩
          · rw [if_neg (fun z => w (by rw [← p2, z]))]
            exact p3
          · rw [if_neg (fun z => w (by rw [← p2, z]))] at p3
            exact p3
    · have q1 : ¬ (S1 j = s ∧ ¬ 0 ≤ (zg_F S1 C1 U1 B1 s V1 W0 j).1 j) := fun z => q ⟨e1.symm.trans z.1, by have := z.2; omega⟩
      rw [zf_F_n q, zg_F_n q1]
      exact ⟨h1, h2, h3⟩
noncomputable def zp_Sw (I : z_I) (j : Nat) : Int := (I 31 j).toInt
noncomputable def zp_U (I : z_I) (j : Nat) : Bool := decide (¬ zb_hx I (zp_C I j))
noncomputable def zp_m (I : z_I) (j : Nat) : Int := zp_C I j / 100 % 24
noncomputable def zp_B (c : z_C) (I : z_I) (j : Nat) : Int := if (I 34 j).toInt / 30 < zp_m I j ∨ Int.bmod (zp_m I j + zb_ax c I 1 (zp_m I j) (I 34 j).toInt) (2 ^ 32) < (I 34 j).toInt / 30 then 3 else if (I 38 j).toInt = (I 32 j).toInt then 0 else 4
noncomputable def zr_Sw (I : z_I) (j : Nat) : Int := (I 34 j).toInt
noncomputable def zr_C (I : z_I) (j : Nat) : Int := (I 36 j).toInt
noncomputable def zr_V (I : z_I) (j : Nat) : Int := (I 40 j).toInt
noncomputable def zr_U (I : z_I) (j : Nat) : Bool := decide (¬ zb_hm I (zr_C I j))
noncomputable def zr_W (I : z_I) (a : Int) : Bool := decide (¬ (I 33 a.toNat).toInt = 0)
noncomputable def zr_m (I : z_I) (j : Nat) : Int := zr_C I j / 100 % 24
noncomputable def zr_B (I : z_I) (j : Nat) : Int := if (I 37 j).toInt / 30 < zr_m I j ∨ Int.bmod (zr_m I j + zb_am I 1 (zr_m I j) (I 37 j).toInt) (2 ^ 32) < (I 37 j).toInt / 30 then 3 else if (I 39 j).toInt = (I 35 j).toInt then 0 else 4
theorem zp_B_0 {c : z_C} {I : z_I} {j : Nat} : 0 ≤ zp_B c I j := by
  unfold zp_B
  split
  · decide
  · split <;> decide
theorem zx_B3 {a b : Prop} [Decidable a] [Decidable b] (h : a) : (if a then 3 else if b then 0 else 4 : Int) = 3 := if_pos h
theorem zx_B0 {a b : Prop} [Decidable a] [Decidable b] (h : ¬ a) (h2 : b) : (if a then 3 else if b then 0 else 4 : Int) = 0 := by rw [if_neg h, if_pos h2]
theorem zx_B4 {a b : Prop} [Decidable a] [Decidable b] (h : ¬ a) (h2 : ¬ b) : (if a then 3 else if b then 0 else 4 : Int) = 4 := by rw [if_neg h, if_neg h2]
noncomputable def zp_Fw (c : z_C) (I : z_I) (s : Int) : Nat → (Nat → Int) × Int := zf_F (zp_Sw I) (zp_C I) (zp_U I) (zp_B c I) s (I 30 8).toNatClampNeg (zp_Vw I)
noncomputable def zr_Fw (I : z_I) (s : Int) : Nat → (Nat → Int) × (Int → Bool) × Int := zg_F (zr_Sw I) (zr_C I) (zr_U I) (zr_B I) s (zr_V I) (zr_W I)
theorem zb_wr1 {C a k : Nat} (h : ¬ a = C) (hC : ¬ C = 1000) : z_wr [(C, 999)] a k = false := by
  have e1 : (C == a) = false := beq_eq_false_iff_ne.mpr (fun q => h q.symm)
  have e2 : (C == 1000) = false := beq_eq_false_iff_ne.mpr hC
  show ((C == a || (C == 1000 && decide (100 ≤ a))) && ((999 == k) || (999 == 999)) || false) = false
  rw [e1, e2]
  rfl
/-- in the middle of the way: all but the VERDICTS stands -/
theorem zp_v_K {c : z_C} {I K : z_I} {V : Nat → Int} {j : Nat} (hf : ∀ a k, ¬ a = 36 → K a k = I a k) (hV : ∀ i, (K 36 i).toInt = V i) : zf_vw (zp_C K) (zp_U K) (zp_B c K) (K 30 8).toNatClampNeg (zp_Vw K) j = zf_vw (zp_C I) (zp_U I) (zp_B c I) (I 30 8).toNatClampNeg V j := by
  have e1 : zp_C K = zp_C I := funext fun i => by unfold zp_C; rw [hf _ _ (by decide)]
  have e2 : zp_U K = zp_U I := funext fun i => by
    unfold zp_U
    rw [e1]
    exact decide_eq_decide.mpr (not_congr (zb_hx_c (fun j => hf _ _ (by decide))))
  have e3 : zp_B c K = zp_B c I := funext fun i => by
    unfold zp_B zp_m
    rw [e1, hf 34 i (by decide), hf 38 i (by decide), hf 32 i (by decide), zb_ax_c (fun a q ha => hf a q (by omega))]
  have e4 : zp_Vw K = V := funext hV
  rw [e1, e2, e3, e4, hf 30 8 (by decide)]
/-- one more POUR is judged -/
theorem zp_step {c : z_C} {I In K : z_I} {s : Int} {y : Nat} {z : Int32} (hH : ∀ i, (In 36 i).toInt = (zp_Fw c I s y).1 i) (eK : K = z_up In 36 y z) (hz : z.toInt = zf_vw (zp_C I) (zp_U I) (zp_B c I) (I 30 8).toNatClampNeg (zp_Fw c I s y).1 y) (hc : zp_Sw I y = s ∧ (zp_Fw c I s y).1 y = -1) : ∀ i, (K 36 i).toInt = (zp_Fw c I s (y + 1)).1 i := fun i => by
  have e : (zp_Fw c I s (y + 1)).1 = _ := zf_F_1 hc
  rw [eK, z_up_j, e]
  by_cases q : i = y
  · rw [if_pos q]
    simp only [if_pos q]
    exact hz
  · rw [if_neg q]
    simp only [if_neg q]
    exact hH i
theorem zp_good {c : z_C} {I : z_I} {s : Int} {y : Nat} {z : Int} (hz : z = zf_vw (zp_C I) (zp_U I) (zp_B c I) (I 30 8).toNatClampNeg (zp_Fw c I s y).1 y) (hc : zp_Sw I y = s ∧ (zp_Fw c I s y).1 y = -1) : (zp_Fw c I s (y + 1)).2 = (zp_Fw c I s y).2 + if z = 0 then 1 else 0 := by
  have e : (zp_Fw c I s (y + 1)).2 = _ := zf_F_2 hc
  rw [e, hz]
  rfl
theorem zp_F_n {c : z_C} {I : z_I} {s : Int} {y : Nat} (h : ¬ (zp_Sw I y = s ∧ (zp_Fw c I s y).1 y = -1)) : zp_Fw c I s (y + 1) = zp_Fw c I s y := zf_F_n h
/-! what is told of a POUR -/
noncomputable def zp_t (v : Nat → Int) (w r : Int) : Prop := (0 ≤ w ∧ w ≤ 6 ∧ r = v w.toNat) ∨ (¬ (0 ≤ w ∧ w ≤ 6) ∧ r = -1)
theorem zp_t_i {v : Nat → Int} {w r : Int} {k : Nat} (hw : w = (k : Int)) (hk : k ≤ 6) (hr : r = v k) : zp_t v w r := Or.inl ⟨by omega, by omega, by subst hw; exact hr⟩
theorem zp_t_u {v v1 : Nat → Int} {w r r1 : Int} (h : zp_t v w r) (h1 : zp_t v1 w r1) (e : ∀ k, v1 k = v k) : r1 = r := by
  rcases h with ⟨a1, a2, a3⟩ | ⟨a1, a2⟩ <;> rcases h1 with ⟨b1, b2, b3⟩ | ⟨b1, b2⟩
  · rw [a3, b3, e]
  · exact absurd ⟨a1, a2⟩ b1
  · exact absurd ⟨b1, b2⟩ a1
  · rw [a2, b2]
noncomputable def zp_txw (I : z_I) (j k : Nat) : Int := if k = 0 then (I 31 j).toInt else if k = 1 then (I 32 j).toInt else if k = 2 then (I 33 j).toInt else if k = 3 then (I 34 j).toInt else if k = 4 then (I 35 j).toInt else if k = 5 then (I 36 j).toInt else (I 37 j).toInt
noncomputable def zp_tm (I : z_I) (j k : Nat) : Int := if k = 0 then (I 34 j).toInt else if k = 1 then (I 35 j).toInt else if k = 2 then (I 36 j).toInt else if k = 3 then (I 37 j).toInt else if k = 4 then (I 38 j).toInt else if k = 5 then (I 40 j).toInt else if (I 42 j).toInt = 0 then 0 else 1
theorem zb_wr2 {C D a k : Nat} (h : ¬ a = C) (h2 : ¬ a = D) (hC : ¬ C = 1000) (hD : ¬ D = 1000) : z_wr [(C, 999), (D, 999)] a k = false := by
  have e1 : (C == a) = false := beq_eq_false_iff_ne.mpr (fun q => h q.symm)
  have e2 : (C == 1000) = false := beq_eq_false_iff_ne.mpr hC
  have e3 : (D == a) = false := beq_eq_false_iff_ne.mpr (fun q => h2 q.symm)
  have e4 : (D == 1000) = false := beq_eq_false_iff_ne.mpr hD
  show ((C == a || (C == 1000 && decide (100 ≤ a))) && ((999 == k) || (999 == 999)) || ((D == a || (D == 1000 && decide (100 ≤ a))) && ((999 == k) || (999 == 999)) || false)) = false
  rw [e1, e2, e3, e4]
  rfl
/-- in the middle of the reference's way -/
theorem zr_v_K {I K : z_I} {W : Int → Bool} {j : Nat} (hf : ∀ a k, ¬ a = 40 → ¬ a = 33 → K a k = I a k) (hW : zr_W K (zr_C I j) = W (zr_C I j)) : zg_v (zr_C K) (zr_U K) (zr_B K) (zr_W K) j = zg_v (zr_C I) (zr_U I) (zr_B I) W j := by
  have e1 : zr_C K = zr_C I := funext fun i => by unfold zr_C; rw [hf _ _ (by decide) (by decide)]
  have e2 : zr_U K = zr_U I := funext fun i => by
    unfold zr_U
    rw [e1]
    exact decide_eq_decide.mpr (not_congr (zb_hm_c (fun j => hf _ _ (by decide) (by decide))))
  have e3 : zr_B K = zr_B I := funext fun i => by
    unfold zr_B zr_m
    rw [e1, hf 37 i (by decide) (by decide), hf 39 i (by decide) (by decide), hf 35 i (by decide) (by decide), zb_am_c (fun j => ⟨hf _ _ (by decide) (by decide), hf _ _ (by decide) (by decide), hf _ _ (by decide) (by decide), hf _ _ (by decide) (by decide), hf _ _ (by decide) (by decide), hf _ _ (by decide) (by decide)⟩) (hf _ _ (by decide) (by decide))]
  rw [e1, e2, e3]
  unfold zg_v
  rw [hW]
/-- one more POUR is judged, the reference -/
theorem zr_stepw {I In K K1 : z_I} {s : Int} {y : Nat} {z x o : Int32} (hH : ∀ i, (In 40 i).toInt = (zr_Fw I s y).1 i) (hW : ∀ a : Int, 0 ≤ a → a ≤ 99999 → zr_W In a = (zr_Fw I s y).2.1 a) (eK : K = z_up In 40 y z) (eK1 : K1 = z_up K 33 x.toNatClampNeg o) (ho : ¬ o.toInt = 0) (hx : x.toInt = zr_C I y) (hx0 : 0 ≤ x.toInt) (hz : z.toInt = zg_v (zr_C I) (zr_U I) (zr_B I) (zr_Fw I s y).2.1 y) (hc : zr_Sw I y = s ∧ ¬ 0 ≤ (zr_Fw I s y).1 y) : (∀ i, (K1 40 i).toInt = (zr_Fw I s (y + 1)).1 i) ∧ ∀ a : Int, 0 ≤ a → a ≤ 99999 → zr_W K1 a = (zr_Fw I s (y + 1)).2.1 a := by
  have e1 : (zr_Fw I s (y + 1)).1 = _ := zg_F_1 hc
  have e2 : (zr_Fw I s (y + 1)).2.1 = _ := zg_F_2 hc
  refine ⟨fun i => ?_, fun a a0 a9 => ?_⟩
  · rw [eK1, z_up_n (by decide), eK, z_up_j, e1]
    by_cases q : i = y
    · rw [if_pos q]
      simp only [if_pos q]
      exact hz
    · rw [if_neg q]
      simp only [if_neg q]
      exact hH i
  · rw [e2]
    have h9 := hW a a0 a9
    unfold zr_W at *
    rw [eK1, z_up_j]
    by_cases q : a = zr_C I y
    · have q1 : a.toNat = x.toNatClampNeg := by
        show a.toNat = x.toInt.toNat
        rw [hx, q]
      rw [if_pos q1]
      simp only [if_pos q]
      exact decide_eq_true ho
    · have q1 : ¬ a.toNat = x.toNatClampNeg := fun w => q (by
        have w1 : a.toNat = x.toInt.toNat := w
        omega)
      rw [if_neg q1, eK, z_up_n (by decide)]
      simp only [if_neg q]
      exact h9
theorem zr_good {I : z_I} {s : Int} {y : Nat} {z : Int} (hz : z = zg_v (zr_C I) (zr_U I) (zr_B I) (zr_Fw I s y).2.1 y) (hc : zr_Sw I y = s ∧ ¬ 0 ≤ (zr_Fw I s y).1 y) : (zr_Fw I s (y + 1)).2.2 = (zr_Fw I s y).2.2 + if z = 0 then 1 else 0 := by
  have e : (zr_Fw I s (y + 1)).2.2 = _ := zg_F_3 hc
  rw [e, hz]
  rfl
theorem zr_F_n {I : z_I} {s : Int} {y : Nat} (h : ¬ (zr_Sw I y = s ∧ ¬ 0 ≤ (zr_Fw I s y).1 y)) : zr_Fw I s (y + 1) = zr_Fw I s y := zg_F_n h
set_option maxHeartbeats 8000000 in
set_option maxRecDepth 100000 in
theorem sx_X8_has_p (l : Launch) (G : z_G) (ad : Nat → Nat) (c : z_C) (I : z_I) (hP : z_iP I) (a1 : Int32) : z_M l yX8_has wsX8_has { frames := 1, cells := 0, slots := 0, locals := 12 } [.ref (ad 30), .int a1] G (shC c, ad, I, JX, PC c ad) (fun r u1 => u1 = (shC c, ad, I, JX, PC c ad) ∧ ((r = 1 ∧ 0 ≤ a1.toInt ∧ a1.toInt < (I 30 8).toInt) ∨ (r = 0 ∧ ¬ (0 ≤ a1.toInt ∧ a1.toInt < (I 30 8).toInt)))) 0 0 := by
  intro sz
  refine z_headQ (cc := cX8_has) (maxL := 2) (ret := (some .boolean)) (by decide) rfl (Nat.le_of_ble_eq_true rfl) ?_
  intro p e s m below meth c0 ls hIn hK hsz hW hl
  obtain ⟨hx, hb, hr, hml, hown, hts, hlocks, hname⟩ := hIn
  subst hsz
  have hown : s.vm.findClass RX8 = some m.cls := hown
  have hA : ∀ q : Nat, s.heap.size ≤ q → z_A (shC c, ad, I, JX, PC c ad) s.heap.size q := fun q h => Or.inr h
  generalize hAe : z_A (shC c, ad, I, JX, PC c ad) s.heap.size = A at *
  have hS : va_S A s.heap s.heap [] := va_S.rf
  have hl : lv_has ls 2 [(0, .ref (ad 30)), (1, .int a1)] := hl
  refine lv_iload_n hx hb dX8_has_0 rfl (lv_at hl 1 rfl) ?_
  refine lv_if_lt (tgt := 23) hx hb dX8_has_1 (by decide) (fun c1 => ?_) (fun c1 => ?_)
  · have g2 := z_f_lt rfl z_l0 c1
    have b3 := Int32.toInt_lt a1
    refine lv_iconst (v := 0) hx hb dX8_has_23 (by decide) ?_
    exact z_zret hx hb hr (by decide) hK hS (Nat.le_of_ble_eq_true rfl) (Nat.le_of_ble_eq_true rfl) hlocks dX8_has_24 (shC c, ad, I, JX, PC c ad) hW ⟨rfl, (Or.inr ⟨rfl, by omega⟩)⟩
  · have g4 := z_f_nlt rfl z_l0 c1
    have b5 := Int32.toInt_lt a1
    refine lv_iload_n hx hb dX8_has_4 rfl (lv_at hl 1 rfl) ?_
    refine lv_aload_n hx hb dX8_has_5 rfl (lv_at hl 0 rfl) ?_
    have r6 : 0 ≤ (I 30 8).toInt ∧ (I 30 8).toInt ≤ 300 := hP
    refine z_get (T := TX8) (N := 9) (ci := 8) (i := 30) (v := .int (I 30 8)) hx hb hts zj_X8_has_X8 hown hK hW rfl rfl 8 (by decide) (hts (.fieldLink RX8 36 "PetrolBoard$Pours" "number" "I") (me_s (me_l (List.mem_of_getElem? (i := 0) rfl)))) (fun _ h => h) rfl dX8_has_6 ?_
    refine lv_icmp_ge (tgt := 23) hx hb dX8_has_9 (by decide) (fun c7 => ?_) (fun c7 => ?_)
    · have g8 := z_f_ge rfl rfl c7
      refine lv_iconst (v := 0) hx hb dX8_has_23 (by decide) ?_
      exact z_zret hx hb hr (by decide) hK hS (Nat.le_of_ble_eq_true rfl) (Nat.le_of_ble_eq_true rfl) hlocks dX8_has_24 (shC c, ad, I, JX, PC c ad) hW ⟨rfl, (Or.inr ⟨rfl, by omega⟩)⟩
    · have g9 := z_f_nge rfl rfl c7
      refine lv_iload_n hx hb dX8_has_12 rfl (lv_at hl 1 rfl) ?_
      refine lv_sipush (v := 300) hx hb dX8_has_13 (by decide) ?_
      refine lv_icmp_ge (tgt := 23) hx hb dX8_has_16 (by decide) (fun c10 => (by have g := z_f_ge rfl z_l300 c10; omega)) (fun c10 => ?_)
      have g11 := z_f_nge rfl z_l300 c10
      refine lv_iconst (v := 1) hx hb dX8_has_19 (by decide) ?_
      refine lv_goto (tgt := 24) hx hb dX8_has_20 (by decide) ?_
      exact z_zret hx hb hr (by decide) hK hS (Nat.le_of_ble_eq_true rfl) (Nat.le_of_ble_eq_true rfl) hlocks dX8_has_24 (shC c, ad, I, JX, PC c ad) hW ⟨rfl, (Or.inl ⟨rfl, by omega⟩)⟩
set_option maxHeartbeats 8000000 in
set_option maxRecDepth 100000 in
theorem sx_X11_verdictOn_p (l : Launch) (G : z_G) (ad : Nat → Nat) (c : z_C) (I : z_I) (hP : z_iP I) (hO : z_iO I) (a1 : Int32) (hc : z_okc c) (h10 : c.1 ≤ 10) (hon : (I 21 2).toInt = (c.2.1 : Int)) (hmo : ∀ j, j < c.2.1 → 0 ≤ (I (200 + 5 * j) 0).toInt) (q1 : 0 ≤ a1.toInt ∧ a1.toInt < (I 30 8).toInt) (hD : ∀ j : Nat, (j : Int) < (I 30 8).toInt → 0 ≤ (I 34 j).toInt) : z_MS l yX11_verdictOn wsX11_verdictOn { frames := 4, cells := 0, slots := 0, locals := 86 } [.ref (ad 0), .int a1] G (shC c, ad, I, JX, PC c ad) (fun r u1 => u1 = (shC c, ad, I, JX, PC c ad) ∧ (r.toInt = zf_vw (zp_C I) (zp_U I) (zp_B c I) (I 30 8).toNatClampNeg (zp_Vw I) a1.toNatClampNeg)) 0 0 := by
  intro sz
  refine z_headS (cc := cX11_verdictOn) (maxL := 5) (ret := (some .int)) (by decide) rfl (Nat.le_of_ble_eq_true rfl) ?_
  intro p e s m below meth c0 ls hIn hK hsz hW hl hSt
  obtain ⟨hx, hb, hr, hml, hown, hts, hlocks, hname⟩ := hIn
  subst hsz
  have hown : s.vm.findClass RX11 = some m.cls := hown
  have hA : ∀ q : Nat, s.heap.size ≤ q → z_A (shC c, ad, I, JX, PC c ad) s.heap.size q := fun q h => Or.inr h
  generalize hAe : z_A (shC c, ad, I, JX, PC c ad) s.heap.size = A at *
  have hS : va_S A s.heap s.heap [] := va_S.rf
  have hl : lv_has ls 5 [(0, .ref (ad 0)), (1, .int a1)] := hl
  refine lv_aload_n hx hb dX11_verdictOn_0 rfl (lv_at hl 0 rfl) ?_
  refine z_get (T := TX11) (N := 13) (ci := 11) (i := 0) (v := .ref (ad 30)) hx hb hts zj_X11_verdictOn_X11 hown hK hW rfl rfl 6 (by decide) (hts (.fieldLink RX11 44 "PetrolBoard" "pours" "LPetrolBoard$Pours;") (me_s (me_l (me_l (me_l (me_l (me_l (me_l (List.mem_of_getElem? (i := 0) rfl))))))))) (fun _ h => h) rfl dX11_verdictOn_1 ?_
  refine lv_iload_n hx hb dX11_verdictOn_4 rfl (lv_at hl 1 rfl) ?_
  refine z_ci hW hS hA (va_runV (As := [.int a1]) (rest := []) ⟨hx, hb, hml, hown, hts⟩ (sx_X8_has_p l G ad c I (by show 0 ≤ (I 30 8).toInt ∧ (I 30 8).toInt ≤ 300; exact hP) a1 _) (cwV 1 hts gX11_verdictOn_X8_has rfl rfl rfl (by decide +kernel) ⟨Nat.le_of_ble_eq_true rfl, Nat.le_of_ble_eq_true rfl⟩) (z_preV (i := 30) hK hW rfl rfl) rfl rfl hl.1 rfl (lv_room (Nat.le_of_ble_eq_true rfl)) dX11_verdictOn_5 ⟨Nat.le_of_ble_eq_true rfl, Nat.le_of_ble_eq_true rfl⟩) (fun r u1 H locs hp hW hS => ?_)
  obtain ⟨e9, hp⟩ := hp
  rw [e9] at hW
  rcases hp with ⟨rfl, h1⟩ | ⟨rfl, h1⟩
  · have h2 := h1
    have r3 : 0 ≤ (I 30 8).toInt ∧ (I 30 8).toInt ≤ 300 := hP
    refine lv_if_ne (tgt := 13) hx hb dX11_verdictOn_8 (by decide) (fun c4 => ?_) (fun c4 => absurd c4 (by decide))
    refine lv_aload_n hx hb dX11_verdictOn_13 rfl (lv_at hl 0 rfl) ?_
    refine z_get (T := TX11) (N := 13) (ci := 11) (i := 0) (v := .ref (ad 30)) hx hb hts zj_X11_verdictOn_X11 hown hK hW rfl rfl 6 (by decide) (hts (.fieldLink RX11 44 "PetrolBoard" "pours" "LPetrolBoard$Pours;") (me_s (me_l (me_l (me_l (me_l (me_l (me_l (List.mem_of_getElem? (i := 0) rfl))))))))) (fun _ h => h) rfl dX11_verdictOn_14 ?_
    refine z_get (T := TX8) (N := 9) (ci := 8) (i := 30) (v := .ref (ad 33)) hx hb hts zj_X11_verdictOn_X8 hown hK hW rfl rfl 2 (by decide) (hts (.fieldLink RX11 211 "PetrolBoard$Pours" "coupon" "[I") (me_s (me_l (me_l (me_l (me_l (me_l (me_l (List.mem_of_getElem? (i := 1) rfl))))))))) (fun _ h => h) rfl dX11_verdictOn_17 ?_
    refine lv_iload_n hx hb dX11_verdictOn_20 rfl (lv_at hl 1 rfl) ?_
    refine z_iald (i := 33) hx hb hK hW rfl (z_ix rfl (by omega) (by omega)) dX11_verdictOn_21 ?_
    refine lv_topi (fun x5 ex5 => ?_)
    have hv6 : (I 33 a1.toNatClampNeg).toInt = x5.toInt := by rw [ex5]
    have hz7 := z_clt (x := a1) rfl (by omega)
    have hd8 := hD a1.toNatClampNeg (by omega)
    refine lv_istore_n (lv' := [(2, .int x5), (0, .ref (ad 0)), (1, .int a1)]) hx hb dX11_verdictOn_22 rfl hl (by decide) rfl (fun ls hl => ?_)
    refine lv_aload_n hx hb dX11_verdictOn_23 rfl (lv_at hl 1 rfl) ?_
    refine z_get (T := TX11) (N := 13) (ci := 11) (i := 0) (v := .ref (ad 26)) hx hb hts zj_X11_verdictOn_X11 hown hK hW rfl rfl 5 (by decide) (hts (.fieldLink RX11 37 "PetrolBoard" "coupons" "LPetrolBoard$Coupons;") (me_s (me_l (me_l (me_l (me_l (me_l (me_l (List.mem_of_getElem? (i := 2) rfl))))))))) (fun _ h => h) rfl dX11_verdictOn_24 ?_
    refine lv_iload_n hx hb dX11_verdictOn_27 rfl (lv_at hl 0 rfl) ?_
    refine z_ci hW hS hA (va_runV (As := [.int x5]) (rest := []) ⟨hx, hb, hml, hown, hts⟩ (sx_X0_has_c l G ad c I  x5 _) (cwV 1 hts gX11_verdictOn_X0_has rfl rfl rfl (by decide +kernel) ⟨Nat.le_of_ble_eq_true rfl, Nat.le_of_ble_eq_true rfl⟩) (z_preV (i := 26) hK hW rfl rfl) rfl rfl hl.1 rfl (lv_room (Nat.le_of_ble_eq_true rfl)) dX11_verdictOn_28 ⟨Nat.le_of_ble_eq_true rfl, Nat.le_of_ble_eq_true rfl⟩) (fun r u1 H locs hp hW hS => ?_)
    obtain ⟨e9, hp⟩ := hp
    rw [e9] at hW
    rcases hp with ⟨rfl, hb9⟩ | ⟨rfl, hb9⟩
    · refine lv_if_ne (tgt := 36) hx hb dX11_verdictOn_31 (by decide) (fun c10 => ?_) (fun c10 => absurd c10 (by decide))
      refine lv_aload_n hx hb dX11_verdictOn_36 rfl (lv_at hl 1 rfl) ?_
      refine z_get (T := TX11) (N := 13) (ci := 11) (i := 0) (v := .ref (ad 30)) hx hb hts zj_X11_verdictOn_X11 hown hK hW rfl rfl 6 (by decide) (hts (.fieldLink RX11 44 "PetrolBoard" "pours" "LPetrolBoard$Pours;") (me_s (me_l (me_l (me_l (me_l (me_l (me_l (List.mem_of_getElem? (i := 0) rfl))))))))) (fun _ h => h) rfl dX11_verdictOn_37 ?_
      refine lv_iload_n hx hb dX11_verdictOn_40 rfl (lv_at hl 0 rfl) ?_
      refine z_ci hW hS hA (va_runV (As := [.int x5]) (rest := []) ⟨hx, hb, hml, hown, hts⟩ (sx_X8_wasHandedIn_c l G ad c I (by show 0 ≤ (I 30 8).toInt ∧ (I 30 8).toInt ≤ 300; exact hP) x5 _) (cwV 1 hts gX11_verdictOn_X8_wasHandedIn rfl rfl rfl (by decide +kernel) ⟨Nat.le_of_ble_eq_true rfl, Nat.le_of_ble_eq_true rfl⟩) (z_preV (i := 30) hK hW rfl rfl) rfl rfl hl.1 rfl (lv_room (Nat.le_of_ble_eq_true rfl)) dX11_verdictOn_41 ⟨Nat.le_of_ble_eq_true rfl, Nat.le_of_ble_eq_true rfl⟩) (fun r u1 H locs hp hW hS => ?_)
      obtain ⟨e9, hp⟩ := hp
      rw [e9] at hW
      rcases hp with ⟨rfl, hb11⟩ | ⟨rfl, hb11⟩
      · refine lv_if_eq (tgt := 49) hx hb dX11_verdictOn_44 (by decide) (fun c12 => absurd c12 (by decide)) (fun c12 => ?_)
        refine lv_iconst (v := 2) hx hb dX11_verdictOn_47 (by decide) ?_
        exact z_iret hx hb hr hK hS (Nat.le_of_ble_eq_true rfl) (Nat.le_of_ble_eq_true rfl) hlocks dX11_verdictOn_48 (shC c, ad, I, JX, PC c ad) hW ⟨rfl, (by rw [zf_vw_2 (by unfold zp_U zp_C; rw [hv6]; exact decide_eq_false (fun q => q hb9)) (by show zf_h (zp_C I) (zp_Vw I) (I 33 a1.toNatClampNeg).toInt (I 30 8).toNatClampNeg = _; rw [hv6]; exact hb11)]; decide)⟩
      · refine lv_if_eq (tgt := 49) hx hb dX11_verdictOn_44 (by decide) (fun c13 => ?_) (fun c13 => absurd (by decide) c13)
        refine lv_iload_n hx hb dX11_verdictOn_49 rfl (lv_at hl 0 rfl) ?_
        refine z_ci hW hS hA (va_runS (As := [.int x5]) (rest := []) ⟨hx, hb, hml, hown, hts⟩ (sx_X0_monthOf_c l G ad c I x5 (by have q := hb9; unfold zb_hx at q; omega) _) (va_cwS 1 hts gX11_verdictOn_X0_monthOf rfl rfl rfl (by decide +kernel) ⟨Nat.le_of_ble_eq_true rfl, Nat.le_of_ble_eq_true rfl⟩) (z_preS hK hW) rfl rfl hl.1 rfl (lv_room (Nat.le_of_ble_eq_true rfl)) dX11_verdictOn_50 ⟨Nat.le_of_ble_eq_true rfl, Nat.le_of_ble_eq_true rfl⟩) (fun r u1 H locs hp hW hS => ?_)
        obtain ⟨e9, hp⟩ := hp
        rw [e9] at hW
        refine lv_topi (fun x14 ex14 => ?_)
        rw [← ex14] at hp
        have hP15 := hp
        refine lv_istore_n (lv' := [(3, .int x14), (2, .int x5), (0, .ref (ad 0)), (1, .int a1)]) hx hb dX11_verdictOn_53 rfl hl (by decide) rfl (fun ls hl => ?_)
        refine lv_aload_n hx hb dX11_verdictOn_54 rfl (lv_at hl 2 rfl) ?_
        refine z_get (T := TX11) (N := 13) (ci := 11) (i := 0) (v := .ref (ad 30)) hx hb hts zj_X11_verdictOn_X11 hown hK hW rfl rfl 6 (by decide) (hts (.fieldLink RX11 44 "PetrolBoard" "pours" "LPetrolBoard$Pours;") (me_s (me_l (me_l (me_l (me_l (me_l (me_l (List.mem_of_getElem? (i := 0) rfl))))))))) (fun _ h => h) rfl dX11_verdictOn_55 ?_
        refine z_get (T := TX8) (N := 9) (ci := 8) (i := 30) (v := .ref (ad 34)) hx hb hts zj_X11_verdictOn_X8 hown hK hW rfl rfl 3 (by decide) (hts (.fieldLink RX11 214 "PetrolBoard$Pours" "day" "[I") (me_s (me_l (me_l (me_l (me_l (me_l (me_l (List.mem_of_getElem? (i := 3) rfl))))))))) (fun _ h => h) rfl dX11_verdictOn_58 ?_
        refine lv_iload_n hx hb dX11_verdictOn_61 rfl (lv_at hl 3 rfl) ?_
        refine z_iald (i := 34) hx hb hK hW rfl (z_ix rfl (by omega) (by omega)) dX11_verdictOn_62 ?_
        refine lv_topi (fun x16 ex16 => ?_)
        have hv17 : (I 34 a1.toNatClampNeg).toInt = x16.toInt := by rw [ex16]
        have hz18 := z_clt (x := a1) rfl (by omega)
        refine lv_bipush (v := 30) hx hb dX11_verdictOn_63 (by decide) ?_
        refine lv_idiv hx hb dX11_verdictOn_65 (by decide) ?_
        refine lv_topi (fun x19 ex19 => ?_)
        have tx19 := z_tdiv ex19 rfl z_l30 (by decide)
        refine lv_istore (lv' := [(4, .int x19), (3, .int x14), (2, .int x5), (0, .ref (ad 0)), (1, .int a1)]) hx hb dX11_verdictOn_66 hl (by decide) rfl (fun ls hl => ?_)
        refine lv_iload hx hb dX11_verdictOn_68 (lv_at hl 0 rfl) ?_
        refine lv_iload_n hx hb dX11_verdictOn_70 rfl (lv_at hl 1 rfl) ?_
        refine lv_icmp_lt (tgt := 99) hx hb dX11_verdictOn_71 (by decide) (fun c20 => ?_) (fun c20 => ?_)
        · have g21 := z_f_lt rfl rfl c20
          have b22 := Int32.toInt_lt x19
          have b23 := Int32.toInt_lt x14
          refine lv_iconst (v := 3) hx hb dX11_verdictOn_99 (by decide) ?_
          exact z_iret hx hb hr hK hS (Nat.le_of_ble_eq_true rfl) (Nat.le_of_ble_eq_true rfl) hlocks dX11_verdictOn_100 (shC c, ad, I, JX, PC c ad) hW ⟨rfl, (by have hm9 : zp_m I a1.toNatClampNeg = x14.toInt := (by unfold zp_m zp_C; rw [hv6]; omega); rw [zf_vw_3 (by unfold zp_U zp_C; rw [hv6]; exact decide_eq_false (fun q => q hb9)) (by show zf_h (zp_C I) (zp_Vw I) (I 33 a1.toNatClampNeg).toInt (I 30 8).toNatClampNeg = _; rw [hv6]; exact hb11)]; rw [show (3 : Int32).toInt = 3 by decide]; exact (zx_B3 (Or.inl (by omega))).symm)⟩
        · have g24 := z_f_nlt rfl rfl c20
          have b25 := Int32.toInt_lt x19
          have b26 := Int32.toInt_lt x14
          refine lv_iload hx hb dX11_verdictOn_74 (lv_at hl 0 rfl) ?_
          refine lv_iload_n hx hb dX11_verdictOn_76 rfl (lv_at hl 1 rfl) ?_
          refine lv_aload_n hx hb dX11_verdictOn_77 rfl (lv_at hl 3 rfl) ?_
          refine z_get (T := TX11) (N := 13) (ci := 11) (i := 0) (v := .ref (ad 21)) hx hb hts zj_X11_verdictOn_X11 hown hK hW rfl rfl 4 (by decide) (hts (.fieldLink RX11 30 "PetrolBoard" "orderBook" "LPetrolBoard$OrderBook;") (me_s (me_l (me_l (me_l (me_l (me_l (me_l (List.mem_of_getElem? (i := 4) rfl))))))))) (fun _ h => h) rfl dX11_verdictOn_78 ?_
          refine lv_iconst (v := 1) hx hb dX11_verdictOn_81 (by decide) ?_
          refine lv_iload_n hx hb dX11_verdictOn_82 rfl (lv_at hl 1 rfl) ?_
          refine lv_aload_n hx hb dX11_verdictOn_83 rfl (lv_at hl 3 rfl) ?_
          refine z_get (T := TX11) (N := 13) (ci := 11) (i := 0) (v := .ref (ad 30)) hx hb hts zj_X11_verdictOn_X11 hown hK hW rfl rfl 6 (by decide) (hts (.fieldLink RX11 44 "PetrolBoard" "pours" "LPetrolBoard$Pours;") (me_s (me_l (me_l (me_l (me_l (me_l (me_l (List.mem_of_getElem? (i := 0) rfl))))))))) (fun _ h => h) rfl dX11_verdictOn_84 ?_
          refine z_get (T := TX8) (N := 9) (ci := 8) (i := 30) (v := .ref (ad 34)) hx hb hts zj_X11_verdictOn_X8 hown hK hW rfl rfl 3 (by decide) (hts (.fieldLink RX11 214 "PetrolBoard$Pours" "day" "[I") (me_s (me_l (me_l (me_l (me_l (me_l (me_l (List.mem_of_getElem? (i := 3) rfl))))))))) (fun _ h => h) rfl dX11_verdictOn_87 ?_
          refine lv_iload_n hx hb dX11_verdictOn_90 rfl (lv_at hl 4 rfl) ?_
          refine z_iald (i := 34) hx hb hK hW rfl (z_ix rfl (by omega) (by omega)) dX11_verdictOn_91 ?_
          refine z_topi (v := x16) ex16.symm ?_
          refine z_ci hW hS hA (va_runV (As := [.int 1, .int x14, .int x16]) (rest := [.int x14, .int x19]) ⟨hx, hb, hml, hown, hts⟩ (sx_X6_amount_x l G ad c I (by show 0 ≤ (I 21 2).toInt ∧ (I 21 2).toInt ≤ 12; exact hO) 1 x14 x16 hc hon hmo (by decide) _) (cwV 3 hts gX11_verdictOn_X6_amount rfl rfl rfl (by decide +kernel) ⟨Nat.le_of_ble_eq_true rfl, Nat.le_of_ble_eq_true rfl⟩) (z_preVS (i := 21) hK hW hS hA hSt rfl rfl) rfl rfl hl.1 rfl (lv_room (Nat.le_of_ble_eq_true rfl)) dX11_verdictOn_92 ⟨Nat.le_of_ble_eq_true rfl, Nat.le_of_ble_eq_true rfl⟩) (fun r u1 H locs hp hW hS => ?_)
          obtain ⟨e9, hp⟩ := hp
          rw [e9] at hW
          refine lv_topi (fun x27 ex27 => ?_)
          rw [← ex27, show (1 : Int32).toInt = 1 by decide] at hp
          have hM28 : x27.toInt = zb_ax c I 1 x14.toInt x16.toInt := zb_f_e hp
          refine lv_iadd hx hb dX11_verdictOn_95 ?_
          refine lv_topi (fun x29 ex29 => ?_)
          have hdd30 := hv17
          refine lv_icmp_le (tgt := 101) hx hb dX11_verdictOn_96 (by decide) (fun c31 => ?_) (fun c31 => ?_)
          · have g32 := z_f_le rfl rfl c31
            have b33 := Int32.toInt_lt x29
            refine lv_aload_n hx hb dX11_verdictOn_101 rfl (lv_at hl 3 rfl) ?_
            refine z_get (T := TX11) (N := 13) (ci := 11) (i := 0) (v := .ref (ad 30)) hx hb hts zj_X11_verdictOn_X11 hown hK hW rfl rfl 6 (by decide) (hts (.fieldLink RX11 44 "PetrolBoard" "pours" "LPetrolBoard$Pours;") (me_s (me_l (me_l (me_l (me_l (me_l (me_l (List.mem_of_getElem? (i := 0) rfl))))))))) (fun _ h => h) rfl dX11_verdictOn_102 ?_
            refine z_get (T := TX8) (N := 9) (ci := 8) (i := 30) (v := .ref (ad 38)) hx hb hts zj_X11_verdictOn_X8 hown hK hW rfl rfl 7 (by decide) (hts (.fieldLink RX11 198 "PetrolBoard$Pours" "ownerThen" "[I") (me_s (me_l (me_l (me_l (me_l (me_l (me_l (List.mem_of_getElem? (i := 5) rfl))))))))) (fun _ h => h) rfl dX11_verdictOn_105 ?_
            refine lv_iload_n hx hb dX11_verdictOn_108 rfl (lv_at hl 4 rfl) ?_
            refine z_iald (i := 38) hx hb hK hW rfl (z_ix rfl (by omega) (by omega)) dX11_verdictOn_109 ?_
            refine lv_topi (fun x34 ex34 => ?_)
            have hv35 : (I 38 a1.toNatClampNeg).toInt = x34.toInt := by rw [ex34]
            have hz36 := z_clt (x := a1) rfl (by omega)
            refine lv_aload_n hx hb dX11_verdictOn_110 rfl (lv_at hl 3 rfl) ?_
            refine z_get (T := TX11) (N := 13) (ci := 11) (i := 0) (v := .ref (ad 30)) hx hb hts zj_X11_verdictOn_X11 hown hK hW rfl rfl 6 (by decide) (hts (.fieldLink RX11 44 "PetrolBoard" "pours" "LPetrolBoard$Pours;") (me_s (me_l (me_l (me_l (me_l (me_l (me_l (List.mem_of_getElem? (i := 0) rfl))))))))) (fun _ h => h) rfl dX11_verdictOn_111 ?_
            refine z_get (T := TX8) (N := 9) (ci := 8) (i := 30) (v := .ref (ad 32)) hx hb hts zj_X11_verdictOn_X8 hown hK hW rfl rfl 1 (by decide) (hts (.fieldLink RX11 217 "PetrolBoard$Pours" "holder" "[I") (me_s (me_l (me_l (me_l (me_l (me_l (me_l (List.mem_of_getElem? (i := 6) rfl))))))))) (fun _ h => h) rfl dX11_verdictOn_114 ?_
            refine lv_iload_n hx hb dX11_verdictOn_117 rfl (lv_at hl 4 rfl) ?_
            refine z_iald (i := 32) hx hb hK hW rfl (z_ix rfl (by omega) (by omega)) dX11_verdictOn_118 ?_
            refine lv_topi (fun x37 ex37 => ?_)
            have hv38 : (I 32 a1.toNatClampNeg).toInt = x37.toInt := by rw [ex37]
            have hz39 := z_clt (x := a1) rfl (by omega)
            refine lv_icmp_ne (tgt := 126) hx hb dX11_verdictOn_119 (by decide) (fun c40 => ?_) (fun c40 => ?_)
            · have g41 := z_f_ne rfl rfl c40
              have b42 := Int32.toInt_lt x34
              have b43 := Int32.toInt_lt x37
              refine lv_iconst (v := 4) hx hb dX11_verdictOn_126 (by decide) ?_
              exact z_iret hx hb hr hK hS (Nat.le_of_ble_eq_true rfl) (Nat.le_of_ble_eq_true rfl) hlocks dX11_verdictOn_127 (shC c, ad, I, JX, PC c ad) hW ⟨rfl, (by have hm9 : zp_m I a1.toNatClampNeg = x14.toInt := (by unfold zp_m zp_C; rw [hv6]; omega); have hbm : Int.bmod (zp_m I a1.toNatClampNeg + zb_ax c I 1 (zp_m I a1.toNatClampNeg) (I 34 a1.toNatClampNeg).toInt) (2 ^ 32) = x29.toInt := (by rw [ex29, Int32.toInt_add, hM28, hm9, hv17]); rw [zf_vw_3 (by unfold zp_U zp_C; rw [hv6]; exact decide_eq_false (fun q => q hb9)) (by show zf_h (zp_C I) (zp_Vw I) (I 33 a1.toNatClampNeg).toInt (I 30 8).toNatClampNeg = _; rw [hv6]; exact hb11)]; rw [show (4 : Int32).toInt = 4 by decide]; exact (zx_B4 (by omega) (by omega)).symm)⟩
            · have g44 := z_f_eq rfl rfl c40
              have b45 := Int32.toInt_lt x34
              have b46 := Int32.toInt_lt x37
              refine lv_iconst (v := 0) hx hb dX11_verdictOn_122 (by decide) ?_
              refine lv_goto (tgt := 127) hx hb dX11_verdictOn_123 (by decide) ?_
              exact z_iret hx hb hr hK hS (Nat.le_of_ble_eq_true rfl) (Nat.le_of_ble_eq_true rfl) hlocks dX11_verdictOn_127 (shC c, ad, I, JX, PC c ad) hW ⟨rfl, (by have hm9 : zp_m I a1.toNatClampNeg = x14.toInt := (by unfold zp_m zp_C; rw [hv6]; omega); have hbm : Int.bmod (zp_m I a1.toNatClampNeg + zb_ax c I 1 (zp_m I a1.toNatClampNeg) (I 34 a1.toNatClampNeg).toInt) (2 ^ 32) = x29.toInt := (by rw [ex29, Int32.toInt_add, hM28, hm9, hv17]); rw [zf_vw_3 (by unfold zp_U zp_C; rw [hv6]; exact decide_eq_false (fun q => q hb9)) (by show zf_h (zp_C I) (zp_Vw I) (I 33 a1.toNatClampNeg).toInt (I 30 8).toNatClampNeg = _; rw [hv6]; exact hb11)]; rw [show (0 : Int32).toInt = 0 by decide]; exact (zx_B0 (by omega) (by omega)).symm)⟩
          · have g47 := z_f_nle rfl rfl c31
            have b48 := Int32.toInt_lt x29
            refine lv_iconst (v := 3) hx hb dX11_verdictOn_99 (by decide) ?_
            exact z_iret hx hb hr hK hS (Nat.le_of_ble_eq_true rfl) (Nat.le_of_ble_eq_true rfl) hlocks dX11_verdictOn_100 (shC c, ad, I, JX, PC c ad) hW ⟨rfl, (by have hm9 : zp_m I a1.toNatClampNeg = x14.toInt := (by unfold zp_m zp_C; rw [hv6]; omega); have hbm : Int.bmod (zp_m I a1.toNatClampNeg + zb_ax c I 1 (zp_m I a1.toNatClampNeg) (I 34 a1.toNatClampNeg).toInt) (2 ^ 32) = x29.toInt := (by rw [ex29, Int32.toInt_add, hM28, hm9, hv17]); rw [zf_vw_3 (by unfold zp_U zp_C; rw [hv6]; exact decide_eq_false (fun q => q hb9)) (by show zf_h (zp_C I) (zp_Vw I) (I 33 a1.toNatClampNeg).toInt (I 30 8).toNatClampNeg = _; rw [hv6]; exact hb11)]; rw [show (3 : Int32).toInt = 3 by decide]; exact (zx_B3 (Or.inr (by omega))).symm)⟩
    · refine lv_if_ne (tgt := 36) hx hb dX11_verdictOn_31 (by decide) (fun c49 => absurd (by decide) c49) (fun c49 => ?_)
      refine lv_iconst (v := 1) hx hb dX11_verdictOn_34 (by decide) ?_
      exact z_iret hx hb hr hK hS (Nat.le_of_ble_eq_true rfl) (Nat.le_of_ble_eq_true rfl) hlocks dX11_verdictOn_35 (shC c, ad, I, JX, PC c ad) hW ⟨rfl, (by rw [zf_vw_1 (by unfold zp_U zp_C; rw [hv6]; exact decide_eq_true hb9)]; decide)⟩
  · have h50 := h1
    have r51 : 0 ≤ (I 30 8).toInt ∧ (I 30 8).toInt ≤ 300 := hP
    refine lv_if_ne (tgt := 13) hx hb dX11_verdictOn_8 (by decide) (fun c52 => absurd (by decide) c52) (fun c52 => ?_)
    refine lv_iconst (v := (-1)) hx hb dX11_verdictOn_11 (by decide) ?_
    exact z_iret hx hb hr hK hS (Nat.le_of_ble_eq_true rfl) (Nat.le_of_ble_eq_true rfl) hlocks dX11_verdictOn_12 (shC c, ad, I, JX, PC c ad) hW ⟨rfl, (by exfalso; omega)⟩
noncomputable def L_X11_handIn_p : z_L := [(36, 999)]
set_option maxHeartbeats 8000000 in
set_option maxRecDepth 100000 in
theorem sx_X11_handIn_p (l : Launch) (G : z_G) (ad : Nat → Nat) (c : z_C) (I : z_I) (hP : z_iP I) (hO : z_iO I) (hB : z_iB I) (a1 : Int32) (hc : z_okc c) (h10 : c.1 ≤ 10) (hon : (I 21 2).toInt = (c.2.1 : Int)) (hmo : ∀ j, j < c.2.1 → 0 ≤ (I (200 + 5 * j) 0).toInt) (hD : ∀ j : Nat, (j : Int) < (I 30 8).toInt → 0 ≤ (I 34 j).toInt) : z_MS l yX11_handIn wsX11_handIn { frames := 5, cells := 0, slots := 0, locals := 110 } [.ref (ad 0), .int a1] G (shC c, ad, I, JX, PC c ad) (fun r u1 => ∃ I1 : z_I, u1 = (shC c, ad, I1, JX, PC c ad) ∧ z_iP I1 ∧ z_iO I1 ∧ z_iB I1 ∧ z_fr L_X11_handIn_p I1 I ∧ (((0 ≤ a1.toInt ∧ a1.toInt < (I 0 8).toInt) ∧ r.toInt = (zp_Fw c I a1.toInt (I 30 8).toNatClampNeg).2 ∧ ∀ j, (I1 36 j).toInt = (zp_Fw c I a1.toInt (I 30 8).toNatClampNeg).1 j) ∨ (¬ (0 ≤ a1.toInt ∧ a1.toInt < (I 0 8).toInt) ∧ r.toInt = -1 ∧ ∀ j, I1 36 j = I 36 j))) 0 0 := sorry
set_option maxHeartbeats 8000000 in
set_option maxRecDepth 100000 in
theorem sx_X8_tell_p (l : Launch) (G : z_G) (ad : Nat → Nat) (c : z_C) (I : z_I) (hP : z_iP I) (a1 : Int32) (a2 : Int32) : z_M l yX8_tell wsX8_tell { frames := 2, cells := 0, slots := 0, locals := 33 } [.ref (ad 30), .int a1, .int a2] G (shC c, ad, I, JX, PC c ad) (fun r u1 => u1 = (shC c, ad, I, JX, PC c ad) ∧ ((¬ (0 ≤ a1.toInt ∧ a1.toInt < (I 30 8).toInt) ∧ r.toInt = -1) ∨ ((0 ≤ a1.toInt ∧ a1.toInt < (I 30 8).toInt) ∧ zp_t (zp_txw I a1.toNatClampNeg) a2.toInt r.toInt))) 0 0 := by
  intro sz
  refine z_headQ (cc := cX8_tell) (maxL := 3) (ret := (some .int)) (by decide) rfl (Nat.le_of_ble_eq_true rfl) ?_
  intro p e s m below meth c0 ls hIn hK hsz hW hl
  obtain ⟨hx, hb, hr, hml, hown, hts, hlocks, hname⟩ := hIn
  subst hsz
  have hown : s.vm.findClass RX8 = some m.cls := hown
  have hA : ∀ q : Nat, s.heap.size ≤ q → z_A (shC c, ad, I, JX, PC c ad) s.heap.size q := fun q h => Or.inr h
  generalize hAe : z_A (shC c, ad, I, JX, PC c ad) s.heap.size = A at *
  have hS : va_S A s.heap s.heap [] := va_S.rf
  have hl : lv_has ls 3 [(0, .ref (ad 30)), (1, .int a1), (2, .int a2)] := hl
  refine lv_aload_n hx hb dX8_tell_0 rfl (lv_at hl 0 rfl) ?_
  refine lv_iload_n hx hb dX8_tell_1 rfl (lv_at hl 1 rfl) ?_
  refine z_ci hW hS hA (va_runV (As := [.int a1]) (rest := []) ⟨hx, hb, hml, hown, hts⟩ (sx_X8_has_p l G ad c I (by show 0 ≤ (I 30 8).toInt ∧ (I 30 8).toInt ≤ 300; exact hP) a1 _) (cwV 1 hts gX8_tell_X8_has rfl rfl rfl (by decide +kernel) ⟨Nat.le_of_ble_eq_true rfl, Nat.le_of_ble_eq_true rfl⟩) (z_preV (i := 30) hK hW rfl rfl) rfl rfl hl.1 rfl (lv_room (Nat.le_of_ble_eq_true rfl)) dX8_tell_2 ⟨Nat.le_of_ble_eq_true rfl, Nat.le_of_ble_eq_true rfl⟩) (fun r u1 H locs hp hW hS => ?_)
  obtain ⟨e9, hp⟩ := hp
  rw [e9] at hW
  rcases hp with ⟨rfl, h1⟩ | ⟨rfl, h1⟩
  · have h2 := h1
    have r3 : 0 ≤ (I 30 8).toInt ∧ (I 30 8).toInt ≤ 300 := hP
    refine lv_if_ne (tgt := 10) hx hb dX8_tell_5 (by decide) (fun c4 => ?_) (fun c4 => absurd c4 (by decide))
    refine lv_iload_n hx hb dX8_tell_10 rfl (lv_at hl 2 rfl) ?_
    by_cases q5 : a2 = 0
    · refine lv_tableIn (tgt := 52) hx hb dX8_tell_11 (by rw [q5]; decide) (by rw [q5]; decide) (by rw [q5]; rfl) (by decide) ?_
      refine lv_aload_n hx hb dX8_tell_52 rfl (lv_at hl 0 rfl) ?_
      refine z_get (T := TX8) (N := 9) (ci := 8) (i := 30) (v := .ref (ad 31)) hx hb hts zj_X8_tell_X8 hown hK hW rfl rfl 0 (by decide) (hts (.fieldLink RX8 9 "PetrolBoard$Pours" "station" "[I") (me_s (me_l (List.mem_of_getElem? (i := 0) rfl)))) (fun _ h => h) rfl dX8_tell_53 ?_
      refine lv_iload_n hx hb dX8_tell_56 rfl (lv_at hl 1 rfl) ?_
      refine z_iald (i := 31) hx hb hK hW rfl (z_ix rfl (by omega) (by omega)) dX8_tell_57 ?_
      refine lv_topi (fun x6 ex6 => ?_)
      exact z_iret hx hb hr hK hS (Nat.le_of_ble_eq_true rfl) (Nat.le_of_ble_eq_true rfl) hlocks dX8_tell_58 (shC c, ad, I, JX, PC c ad) hW ⟨rfl, (Or.inr ⟨by omega, zp_t_i (k := 0) (show a2.toInt = 0 by rw [‹a2 = 0›]; decide) (by decide) (by rw [ex6]; rfl)⟩)⟩
    by_cases q7 : a2 = 1
    · refine lv_tableIn (tgt := 59) hx hb dX8_tell_11 (by rw [q7]; decide) (by rw [q7]; decide) (by rw [q7]; rfl) (by decide) ?_
      refine lv_aload_n hx hb dX8_tell_59 rfl (lv_at hl 0 rfl) ?_
      refine z_get (T := TX8) (N := 9) (ci := 8) (i := 30) (v := .ref (ad 32)) hx hb hts zj_X8_tell_X8 hown hK hW rfl rfl 1 (by decide) (hts (.fieldLink RX8 15 "PetrolBoard$Pours" "holder" "[I") (me_s (me_l (List.mem_of_getElem? (i := 1) rfl)))) (fun _ h => h) rfl dX8_tell_60 ?_
      refine lv_iload_n hx hb dX8_tell_63 rfl (lv_at hl 1 rfl) ?_
      refine z_iald (i := 32) hx hb hK hW rfl (z_ix rfl (by omega) (by omega)) dX8_tell_64 ?_
      refine lv_topi (fun x8 ex8 => ?_)
      exact z_iret hx hb hr hK hS (Nat.le_of_ble_eq_true rfl) (Nat.le_of_ble_eq_true rfl) hlocks dX8_tell_65 (shC c, ad, I, JX, PC c ad) hW ⟨rfl, (Or.inr ⟨by omega, zp_t_i (k := 1) (show a2.toInt = 1 by rw [‹a2 = 1›]; decide) (by decide) (by rw [ex8]; rfl)⟩)⟩
    by_cases q9 : a2 = 2
    · refine lv_tableIn (tgt := 66) hx hb dX8_tell_11 (by rw [q9]; decide) (by rw [q9]; decide) (by rw [q9]; rfl) (by decide) ?_
      refine lv_aload_n hx hb dX8_tell_66 rfl (lv_at hl 0 rfl) ?_
      refine z_get (T := TX8) (N := 9) (ci := 8) (i := 30) (v := .ref (ad 33)) hx hb hts zj_X8_tell_X8 hown hK hW rfl rfl 2 (by decide) (hts (.fieldLink RX8 18 "PetrolBoard$Pours" "coupon" "[I") (me_s (me_l (List.mem_of_getElem? (i := 2) rfl)))) (fun _ h => h) rfl dX8_tell_67 ?_
      refine lv_iload_n hx hb dX8_tell_70 rfl (lv_at hl 1 rfl) ?_
      refine z_iald (i := 33) hx hb hK hW rfl (z_ix rfl (by omega) (by omega)) dX8_tell_71 ?_
      refine lv_topi (fun x10 ex10 => ?_)
      exact z_iret hx hb hr hK hS (Nat.le_of_ble_eq_true rfl) (Nat.le_of_ble_eq_true rfl) hlocks dX8_tell_72 (shC c, ad, I, JX, PC c ad) hW ⟨rfl, (Or.inr ⟨by omega, zp_t_i (k := 2) (show a2.toInt = 2 by rw [‹a2 = 2›]; decide) (by decide) (by rw [ex10]; rfl)⟩)⟩
    by_cases q11 : a2 = 3
    · refine lv_tableIn (tgt := 73) hx hb dX8_tell_11 (by rw [q11]; decide) (by rw [q11]; decide) (by rw [q11]; rfl) (by decide) ?_
      refine lv_aload_n hx hb dX8_tell_73 rfl (lv_at hl 0 rfl) ?_
      refine z_get (T := TX8) (N := 9) (ci := 8) (i := 30) (v := .ref (ad 34)) hx hb hts zj_X8_tell_X8 hown hK hW rfl rfl 3 (by decide) (hts (.fieldLink RX8 21 "PetrolBoard$Pours" "day" "[I") (me_s (me_l (List.mem_of_getElem? (i := 3) rfl)))) (fun _ h => h) rfl dX8_tell_74 ?_
      refine lv_iload_n hx hb dX8_tell_77 rfl (lv_at hl 1 rfl) ?_
      refine z_iald (i := 34) hx hb hK hW rfl (z_ix rfl (by omega) (by omega)) dX8_tell_78 ?_
      refine lv_topi (fun x12 ex12 => ?_)
      exact z_iret hx hb hr hK hS (Nat.le_of_ble_eq_true rfl) (Nat.le_of_ble_eq_true rfl) hlocks dX8_tell_79 (shC c, ad, I, JX, PC c ad) hW ⟨rfl, (Or.inr ⟨by omega, zp_t_i (k := 3) (show a2.toInt = 3 by rw [‹a2 = 3›]; decide) (by decide) (by rw [ex12]; rfl)⟩)⟩
    by_cases q13 : a2 = 4
    · refine lv_tableIn (tgt := 80) hx hb dX8_tell_11 (by rw [q13]; decide) (by rw [q13]; decide) (by rw [q13]; rfl) (by decide) ?_
      refine lv_aload_n hx hb dX8_tell_80 rfl (lv_at hl 0 rfl) ?_
      refine z_get (T := TX8) (N := 9) (ci := 8) (i := 30) (v := .ref (ad 35)) hx hb hts zj_X8_tell_X8 hown hK hW rfl rfl 4 (by decide) (hts (.fieldLink RX8 24 "PetrolBoard$Pours" "tenths" "[I") (me_s (me_l (List.mem_of_getElem? (i := 4) rfl)))) (fun _ h => h) rfl dX8_tell_81 ?_
      refine lv_iload_n hx hb dX8_tell_84 rfl (lv_at hl 1 rfl) ?_
      refine z_iald (i := 35) hx hb hK hW rfl (z_ix rfl (by omega) (by omega)) dX8_tell_85 ?_
      refine lv_topi (fun x14 ex14 => ?_)
      exact z_iret hx hb hr hK hS (Nat.le_of_ble_eq_true rfl) (Nat.le_of_ble_eq_true rfl) hlocks dX8_tell_86 (shC c, ad, I, JX, PC c ad) hW ⟨rfl, (Or.inr ⟨by omega, zp_t_i (k := 4) (show a2.toInt = 4 by rw [‹a2 = 4›]; decide) (by decide) (by rw [ex14]; rfl)⟩)⟩
    by_cases q15 : a2 = 5
    · refine lv_tableIn (tgt := 87) hx hb dX8_tell_11 (by rw [q15]; decide) (by rw [q15]; decide) (by rw [q15]; rfl) (by decide) ?_
      refine lv_aload_n hx hb dX8_tell_87 rfl (lv_at hl 0 rfl) ?_
      refine z_get (T := TX8) (N := 9) (ci := 8) (i := 30) (v := .ref (ad 36)) hx hb hts zj_X8_tell_X8 hown hK hW rfl rfl 5 (by decide) (hts (.fieldLink RX8 27 "PetrolBoard$Pours" "verdict" "[I") (me_s (me_l (List.mem_of_getElem? (i := 5) rfl)))) (fun _ h => h) rfl dX8_tell_88 ?_
      refine lv_iload_n hx hb dX8_tell_91 rfl (lv_at hl 1 rfl) ?_
      refine z_iald (i := 36) hx hb hK hW rfl (z_ix rfl (by omega) (by omega)) dX8_tell_92 ?_
      refine lv_topi (fun x16 ex16 => ?_)
      exact z_iret hx hb hr hK hS (Nat.le_of_ble_eq_true rfl) (Nat.le_of_ble_eq_true rfl) hlocks dX8_tell_93 (shC c, ad, I, JX, PC c ad) hW ⟨rfl, (Or.inr ⟨by omega, zp_t_i (k := 5) (show a2.toInt = 5 by rw [‹a2 = 5›]; decide) (by decide) (by rw [ex16]; rfl)⟩)⟩
    by_cases q17 : a2 = 6
    · refine lv_tableIn (tgt := 94) hx hb dX8_tell_11 (by rw [q17]; decide) (by rw [q17]; decide) (by rw [q17]; rfl) (by decide) ?_
      refine lv_aload_n hx hb dX8_tell_94 rfl (lv_at hl 0 rfl) ?_
      refine z_get (T := TX8) (N := 9) (ci := 8) (i := 30) (v := .ref (ad 37)) hx hb hts zj_X8_tell_X8 hown hK hW rfl rfl 6 (by decide) (hts (.fieldLink RX8 30 "PetrolBoard$Pours" "dyed" "[I") (me_s (me_l (List.mem_of_getElem? (i := 6) rfl)))) (fun _ h => h) rfl dX8_tell_95 ?_
      refine lv_iload_n hx hb dX8_tell_98 rfl (lv_at hl 1 rfl) ?_
      refine z_iald (i := 37) hx hb hK hW rfl (z_ix rfl (by omega) (by omega)) dX8_tell_99 ?_
      refine lv_topi (fun x18 ex18 => ?_)
      exact z_iret hx hb hr hK hS (Nat.le_of_ble_eq_true rfl) (Nat.le_of_ble_eq_true rfl) hlocks dX8_tell_100 (shC c, ad, I, JX, PC c ad) hW ⟨rfl, (Or.inr ⟨by omega, zp_t_i (k := 6) (show a2.toInt = 6 by rw [‹a2 = 6›]; decide) (by decide) (by rw [ex18]; rfl)⟩)⟩
    have q5 := z_f_ne rfl z_l0 q5
    have q7 := z_f_ne rfl z_l1 q7
    have q9 := z_f_ne rfl z_l2 q9
    have q11 := z_f_ne rfl z_l3 q11
    have q13 := z_f_ne rfl z_l4 q13
    have q15 := z_f_ne rfl z_l5 q15
    have q17 := z_f_ne rfl z_l6 q17
    refine lv_tableOut (tgt := 101) hx hb dX8_tell_11 (by omega) (by decide) ?_
    refine lv_iconst (v := (-1)) hx hb dX8_tell_101 (by decide) ?_
    exact z_iret hx hb hr hK hS (Nat.le_of_ble_eq_true rfl) (Nat.le_of_ble_eq_true rfl) hlocks dX8_tell_102 (shC c, ad, I, JX, PC c ad) hW ⟨rfl, (by first | exact Or.inl ⟨by omega, by decide⟩ | exact Or.inr ⟨by omega, Or.inr ⟨by omega, by decide⟩⟩)⟩
  · have h19 := h1
    have r20 : 0 ≤ (I 30 8).toInt ∧ (I 30 8).toInt ≤ 300 := hP
    refine lv_if_ne (tgt := 10) hx hb dX8_tell_5 (by decide) (fun c21 => absurd (by decide) c21) (fun c21 => ?_)
    refine lv_iconst (v := (-1)) hx hb dX8_tell_8 (by decide) ?_
    exact z_iret hx hb hr hK hS (Nat.le_of_ble_eq_true rfl) (Nat.le_of_ble_eq_true rfl) hlocks dX8_tell_9 (shC c, ad, I, JX, PC c ad) hW ⟨rfl, (by first | exact Or.inl ⟨by omega, by decide⟩ | exact Or.inr ⟨by omega, Or.inr ⟨by omega, by decide⟩⟩)⟩
set_option maxHeartbeats 8000000 in
set_option maxRecDepth 100000 in
theorem sx_X11_poured_p (l : Launch) (G : z_G) (ad : Nat → Nat) (c : z_C) (I : z_I) (hP : z_iP I) (a1 : Int32) (a2 : Int32) : z_M l yX11_poured wsX11_poured { frames := 3, cells := 0, slots := 0, locals := 55 } [.ref (ad 0), .int a1, .int a2] G (shC c, ad, I, JX, PC c ad) (fun r u1 => u1 = (shC c, ad, I, JX, PC c ad) ∧ ((¬ (0 ≤ a1.toInt ∧ a1.toInt < (I 30 8).toInt) ∧ r.toInt = -1) ∨ ((0 ≤ a1.toInt ∧ a1.toInt < (I 30 8).toInt) ∧ zp_t (zp_txw I a1.toNatClampNeg) a2.toInt r.toInt))) 0 0 := by
  intro sz
  refine z_headQ (cc := cX11_poured) (maxL := 3) (ret := (some .int)) (by decide) rfl (Nat.le_of_ble_eq_true rfl) ?_
  intro p e s m below meth c0 ls hIn hK hsz hW hl
  obtain ⟨hx, hb, hr, hml, hown, hts, hlocks, hname⟩ := hIn
  subst hsz
  have hown : s.vm.findClass RX11 = some m.cls := hown
  have hA : ∀ q : Nat, s.heap.size ≤ q → z_A (shC c, ad, I, JX, PC c ad) s.heap.size q := fun q h => Or.inr h
  generalize hAe : z_A (shC c, ad, I, JX, PC c ad) s.heap.size = A at *
  have hS : va_S A s.heap s.heap [] := va_S.rf
  have hl : lv_has ls 3 [(0, .ref (ad 0)), (1, .int a1), (2, .int a2)] := hl
  refine lv_aload_n hx hb dX11_poured_0 rfl (lv_at hl 0 rfl) ?_
  refine z_get (T := TX11) (N := 13) (ci := 11) (i := 0) (v := .ref (ad 30)) hx hb hts zj_X11_poured_X11 hown hK hW rfl rfl 6 (by decide) (hts (.fieldLink RX11 44 "PetrolBoard" "pours" "LPetrolBoard$Pours;") (me_s (me_l (me_l (List.mem_of_getElem? (i := 0) rfl))))) (fun _ h => h) rfl dX11_poured_1 ?_
  refine lv_iload_n hx hb dX11_poured_4 rfl (lv_at hl 1 rfl) ?_
  refine lv_iload_n hx hb dX11_poured_5 rfl (lv_at hl 2 rfl) ?_
  refine z_ci hW hS hA (va_runV (As := [.int a1, .int a2]) (rest := []) ⟨hx, hb, hml, hown, hts⟩ (sx_X8_tell_p l G ad c I (by show 0 ≤ (I 30 8).toInt ∧ (I 30 8).toInt ≤ 300; exact hP) a1 a2 _) (cwV 2 hts gX11_poured_X8_tell rfl rfl rfl (by decide +kernel) ⟨Nat.le_of_ble_eq_true rfl, Nat.le_of_ble_eq_true rfl⟩) (z_preV (i := 30) hK hW rfl rfl) rfl rfl hl.1 rfl (lv_room (Nat.le_of_ble_eq_true rfl)) dX11_poured_6 ⟨Nat.le_of_ble_eq_true rfl, Nat.le_of_ble_eq_true rfl⟩) (fun r u1 H locs hp hW hS => ?_)
  obtain ⟨e9, hp⟩ := hp
  rw [e9] at hW
  refine lv_topi (fun x1 ex1 => ?_)
  rw [← ex1] at hp
  have hP2 := hp
  exact z_iret hx hb hr hK hS (Nat.le_of_ble_eq_true rfl) (Nat.le_of_ble_eq_true rfl) hlocks dX11_poured_9 (shC c, ad, I, JX, PC c ad) hW ⟨rfl, hP2⟩
set_option maxHeartbeats 8000000 in
set_option maxRecDepth 100000 in
theorem sx_X12_poured_p (l : Launch) (G : z_G) (ad : Nat → Nat) (I : z_I) (J : z_J) (hms : z_ims I) (a1 : Int32) (a2 : Int32) : z_M l yX12_poured wsX12_poured { frames := 1, cells := 0, slots := 0, locals := 12 } [.ref (ad 0), .int a1, .int a2] G (shM, ad, I, J, PM ad) (fun r u1 => u1 = (shM, ad, I, J, PM ad) ∧ ((¬ (0 ≤ a1.toInt ∧ a1.toInt < (I 0 55).toInt) ∧ r.toInt = -1) ∨ ((0 ≤ a1.toInt ∧ a1.toInt < (I 0 55).toInt) ∧ zp_t (zp_tm I a1.toNatClampNeg) a2.toInt r.toInt))) 0 0 := by
  intro sz
  refine z_headQ (cc := cX12_poured) (maxL := 3) (ret := (some .int)) (by decide) rfl (Nat.le_of_ble_eq_true rfl) ?_
  intro p e s m below meth c0 ls hIn hK hsz hW hl
  obtain ⟨hx, hb, hr, hml, hown, hts, hlocks, hname⟩ := hIn
  subst hsz
  have hown : s.vm.findClass RX12 = some m.cls := hown
  have hA : ∀ q : Nat, s.heap.size ≤ q → z_A (shM, ad, I, J, PM ad) s.heap.size q := fun q h => Or.inr h
  generalize hAe : z_A (shM, ad, I, J, PM ad) s.heap.size = A at *
  have hS : va_S A s.heap s.heap [] := va_S.rf
  have hl : lv_has ls 3 [(0, .ref (ad 0)), (1, .int a1), (2, .int a2)] := hl
  refine lv_iload_n hx hb dX12_poured_0 rfl (lv_at hl 1 rfl) ?_
  refine lv_if_lt (tgt := 12) hx hb dX12_poured_1 (by decide) (fun c1 => ?_) (fun c1 => ?_)
  · have g2 := z_f_lt rfl z_l0 c1
    have b3 := Int32.toInt_lt a1
    refine lv_iconst (v := (-1)) hx hb dX12_poured_12 (by decide) ?_
    exact z_iret hx hb hr hK hS (Nat.le_of_ble_eq_true rfl) (Nat.le_of_ble_eq_true rfl) hlocks dX12_poured_13 (shM, ad, I, J, PM ad) hW ⟨rfl, (by first | exact Or.inl ⟨by omega, by decide⟩ | exact Or.inr ⟨by omega, Or.inr ⟨by omega, by decide⟩⟩)⟩
  · have g4 := z_f_nlt rfl z_l0 c1
    have b5 := Int32.toInt_lt a1
    refine lv_iload_n hx hb dX12_poured_4 rfl (lv_at hl 1 rfl) ?_
    refine lv_aload_n hx hb dX12_poured_5 rfl (lv_at hl 0 rfl) ?_
    have r6 : 0 ≤ (I 0 55).toInt ∧ (I 0 55).toInt ≤ 300 := hms.2
    refine z_get (T := TX12) (N := 96) (ci := 12) (i := 0) (v := .int (I 0 55)) hx hb hts zj_X12_poured_X12 hown hK hW rfl rfl 55 (by decide) (hts (.fieldLink RX12 468 "PetrolBoardModel" "pours" "I") (me_s (me_l (List.mem_of_getElem? (i := 0) rfl)))) (fun _ h => h) rfl dX12_poured_6 ?_
    refine lv_icmp_lt (tgt := 14) hx hb dX12_poured_9 (by decide) (fun c7 => ?_) (fun c7 => ?_)
    · have g8 := z_f_lt rfl rfl c7
      refine lv_iload_n hx hb dX12_poured_14 rfl (lv_at hl 2 rfl) ?_
      by_cases q9 : a2 = 0
      · refine lv_tableIn (tgt := 56) hx hb dX12_poured_15 (by rw [q9]; decide) (by rw [q9]; decide) (by rw [q9]; rfl) (by decide) ?_
        refine lv_aload_n hx hb dX12_poured_56 rfl (lv_at hl 0 rfl) ?_
        refine z_get (T := TX12) (N := 96) (ci := 12) (i := 0) (v := .ref (ad 34)) hx hb hts zj_X12_poured_X12 hown hK hW rfl rfl 57 (by decide) (hts (.fieldLink RX12 118 "PetrolBoardModel" "pourAt" "[I") (me_s (me_l (List.mem_of_getElem? (i := 1) rfl)))) (fun _ h => h) rfl dX12_poured_57 ?_
        refine lv_iload_n hx hb dX12_poured_60 rfl (lv_at hl 1 rfl) ?_
        refine z_iald (i := 34) hx hb hK hW rfl (z_ix rfl (by omega) (by omega)) dX12_poured_61 ?_
        refine lv_topi (fun x10 ex10 => ?_)
        exact z_iret hx hb hr hK hS (Nat.le_of_ble_eq_true rfl) (Nat.le_of_ble_eq_true rfl) hlocks dX12_poured_62 (shM, ad, I, J, PM ad) hW ⟨rfl, (Or.inr ⟨by omega, zp_t_i (k := 0) (show a2.toInt = 0 by rw [‹a2 = 0›]; decide) (by decide) (by rw [ex10]; rfl)⟩)⟩
      by_cases q11 : a2 = 1
      · refine lv_tableIn (tgt := 63) hx hb dX12_poured_15 (by rw [q11]; decide) (by rw [q11]; decide) (by rw [q11]; rfl) (by decide) ?_
        refine lv_aload_n hx hb dX12_poured_63 rfl (lv_at hl 0 rfl) ?_
        refine z_get (T := TX12) (N := 96) (ci := 12) (i := 0) (v := .ref (ad 35)) hx hb hts zj_X12_poured_X12 hown hK hW rfl rfl 58 (by decide) (hts (.fieldLink RX12 121 "PetrolBoardModel" "pourWho" "[I") (me_s (me_l (List.mem_of_getElem? (i := 2) rfl)))) (fun _ h => h) rfl dX12_poured_64 ?_
        refine lv_iload_n hx hb dX12_poured_67 rfl (lv_at hl 1 rfl) ?_
        refine z_iald (i := 35) hx hb hK hW rfl (z_ix rfl (by omega) (by omega)) dX12_poured_68 ?_
        refine lv_topi (fun x12 ex12 => ?_)
        exact z_iret hx hb hr hK hS (Nat.le_of_ble_eq_true rfl) (Nat.le_of_ble_eq_true rfl) hlocks dX12_poured_69 (shM, ad, I, J, PM ad) hW ⟨rfl, (Or.inr ⟨by omega, zp_t_i (k := 1) (show a2.toInt = 1 by rw [‹a2 = 1›]; decide) (by decide) (by rw [ex12]; rfl)⟩)⟩
      by_cases q13 : a2 = 2
      · refine lv_tableIn (tgt := 70) hx hb dX12_poured_15 (by rw [q13]; decide) (by rw [q13]; decide) (by rw [q13]; rfl) (by decide) ?_
        refine lv_aload_n hx hb dX12_poured_70 rfl (lv_at hl 0 rfl) ?_
        refine z_get (T := TX12) (N := 96) (ci := 12) (i := 0) (v := .ref (ad 36)) hx hb hts zj_X12_poured_X12 hown hK hW rfl rfl 59 (by decide) (hts (.fieldLink RX12 124 "PetrolBoardModel" "pourCoupon" "[I") (me_s (me_l (List.mem_of_getElem? (i := 3) rfl)))) (fun _ h => h) rfl dX12_poured_71 ?_
        refine lv_iload_n hx hb dX12_poured_74 rfl (lv_at hl 1 rfl) ?_
        refine z_iald (i := 36) hx hb hK hW rfl (z_ix rfl (by omega) (by omega)) dX12_poured_75 ?_
        refine lv_topi (fun x14 ex14 => ?_)
        exact z_iret hx hb hr hK hS (Nat.le_of_ble_eq_true rfl) (Nat.le_of_ble_eq_true rfl) hlocks dX12_poured_76 (shM, ad, I, J, PM ad) hW ⟨rfl, (Or.inr ⟨by omega, zp_t_i (k := 2) (show a2.toInt = 2 by rw [‹a2 = 2›]; decide) (by decide) (by rw [ex14]; rfl)⟩)⟩
      by_cases q15 : a2 = 3
      · refine lv_tableIn (tgt := 77) hx hb dX12_poured_15 (by rw [q15]; decide) (by rw [q15]; decide) (by rw [q15]; rfl) (by decide) ?_
        refine lv_aload_n hx hb dX12_poured_77 rfl (lv_at hl 0 rfl) ?_
        refine z_get (T := TX12) (N := 96) (ci := 12) (i := 0) (v := .ref (ad 37)) hx hb hts zj_X12_poured_X12 hown hK hW rfl rfl 60 (by decide) (hts (.fieldLink RX12 127 "PetrolBoardModel" "pourDay" "[I") (me_s (me_l (List.mem_of_getElem? (i := 4) rfl)))) (fun _ h => h) rfl dX12_poured_78 ?_
        refine lv_iload_n hx hb dX12_poured_81 rfl (lv_at hl 1 rfl) ?_
        refine z_iald (i := 37) hx hb hK hW rfl (z_ix rfl (by omega) (by omega)) dX12_poured_82 ?_
        refine lv_topi (fun x16 ex16 => ?_)
        exact z_iret hx hb hr hK hS (Nat.le_of_ble_eq_true rfl) (Nat.le_of_ble_eq_true rfl) hlocks dX12_poured_83 (shM, ad, I, J, PM ad) hW ⟨rfl, (Or.inr ⟨by omega, zp_t_i (k := 3) (show a2.toInt = 3 by rw [‹a2 = 3›]; decide) (by decide) (by rw [ex16]; rfl)⟩)⟩
      by_cases q17 : a2 = 4
      · refine lv_tableIn (tgt := 84) hx hb dX12_poured_15 (by rw [q17]; decide) (by rw [q17]; decide) (by rw [q17]; rfl) (by decide) ?_
        refine lv_aload_n hx hb dX12_poured_84 rfl (lv_at hl 0 rfl) ?_
        refine z_get (T := TX12) (N := 96) (ci := 12) (i := 0) (v := .ref (ad 38)) hx hb hts zj_X12_poured_X12 hown hK hW rfl rfl 61 (by decide) (hts (.fieldLink RX12 130 "PetrolBoardModel" "pourTenths" "[I") (me_s (me_l (List.mem_of_getElem? (i := 5) rfl)))) (fun _ h => h) rfl dX12_poured_85 ?_
        refine lv_iload_n hx hb dX12_poured_88 rfl (lv_at hl 1 rfl) ?_
        refine z_iald (i := 38) hx hb hK hW rfl (z_ix rfl (by omega) (by omega)) dX12_poured_89 ?_
        refine lv_topi (fun x18 ex18 => ?_)
        exact z_iret hx hb hr hK hS (Nat.le_of_ble_eq_true rfl) (Nat.le_of_ble_eq_true rfl) hlocks dX12_poured_90 (shM, ad, I, J, PM ad) hW ⟨rfl, (Or.inr ⟨by omega, zp_t_i (k := 4) (show a2.toInt = 4 by rw [‹a2 = 4›]; decide) (by decide) (by rw [ex18]; rfl)⟩)⟩
      by_cases q19 : a2 = 5
      · refine lv_tableIn (tgt := 91) hx hb dX12_poured_15 (by rw [q19]; decide) (by rw [q19]; decide) (by rw [q19]; rfl) (by decide) ?_
        refine lv_aload_n hx hb dX12_poured_91 rfl (lv_at hl 0 rfl) ?_
        refine z_get (T := TX12) (N := 96) (ci := 12) (i := 0) (v := .ref (ad 40)) hx hb hts zj_X12_poured_X12 hown hK hW rfl rfl 63 (by decide) (hts (.fieldLink RX12 136 "PetrolBoardModel" "pourJudged" "[I") (me_s (me_l (List.mem_of_getElem? (i := 6) rfl)))) (fun _ h => h) rfl dX12_poured_92 ?_
        refine lv_iload_n hx hb dX12_poured_95 rfl (lv_at hl 1 rfl) ?_
        refine z_iald (i := 40) hx hb hK hW rfl (z_ix rfl (by omega) (by omega)) dX12_poured_96 ?_
        refine lv_topi (fun x20 ex20 => ?_)
        exact z_iret hx hb hr hK hS (Nat.le_of_ble_eq_true rfl) (Nat.le_of_ble_eq_true rfl) hlocks dX12_poured_97 (shM, ad, I, J, PM ad) hW ⟨rfl, (Or.inr ⟨by omega, zp_t_i (k := 5) (show a2.toInt = 5 by rw [‹a2 = 5›]; decide) (by decide) (by rw [ex20]; rfl)⟩)⟩
      by_cases q21 : a2 = 6
      · refine lv_tableIn (tgt := 98) hx hb dX12_poured_15 (by rw [q21]; decide) (by rw [q21]; decide) (by rw [q21]; rfl) (by decide) ?_
        refine lv_aload_n hx hb dX12_poured_98 rfl (lv_at hl 0 rfl) ?_
        refine z_get (T := TX12) (N := 96) (ci := 12) (i := 0) (v := .ref (ad 42)) hx hb hts zj_X12_poured_X12 hown hK hW rfl rfl 65 (by decide) (hts (.fieldLink RX12 142 "PetrolBoardModel" "pourDyed" "[Z") (me_s (me_l (List.mem_of_getElem? (i := 7) rfl)))) (fun _ h => h) rfl dX12_poured_99 ?_
        refine lv_iload_n hx hb dX12_poured_102 rfl (lv_at hl 1 rfl) ?_
        refine z_zald (i := 42) hx hb hK hW rfl (z_ix rfl (by omega) (by omega)) dX12_poured_103 ?_
        refine lv_topi (fun x22 ex22 => ?_)
        have hv23 : (I 42 a1.toNatClampNeg).toInt = x22.toInt := by rw [ex22]
        have hz24 := z_clt (x := a1) rfl (by omega)
        refine lv_if_eq (tgt := 111) hx hb dX12_poured_104 (by decide) (fun c25 => ?_) (fun c25 => ?_)
        · have g26 := z_f_eq rfl z_l0 c25
          have b27 := Int32.toInt_lt x22
          refine lv_iconst (v := 0) hx hb dX12_poured_111 (by decide) ?_
          exact z_iret hx hb hr hK hS (Nat.le_of_ble_eq_true rfl) (Nat.le_of_ble_eq_true rfl) hlocks dX12_poured_112 (shM, ad, I, J, PM ad) hW ⟨rfl, (Or.inr ⟨by omega, zp_t_i (k := 6) (show a2.toInt = 6 by rw [‹a2 = 6›]; decide) (by decide) (by show _ = (if (I 42 a1.toNatClampNeg).toInt = 0 then (0 : Int) else 1); rw [if_pos (by omega)]; decide)⟩)⟩
        · have g28 := z_f_ne rfl z_l0 c25
          have b29 := Int32.toInt_lt x22
          refine lv_iconst (v := 1) hx hb dX12_poured_107 (by decide) ?_
          refine lv_goto (tgt := 112) hx hb dX12_poured_108 (by decide) ?_
          exact z_iret hx hb hr hK hS (Nat.le_of_ble_eq_true rfl) (Nat.le_of_ble_eq_true rfl) hlocks dX12_poured_112 (shM, ad, I, J, PM ad) hW ⟨rfl, (Or.inr ⟨by omega, zp_t_i (k := 6) (show a2.toInt = 6 by rw [‹a2 = 6›]; decide) (by decide) (by show _ = (if (I 42 a1.toNatClampNeg).toInt = 0 then (0 : Int) else 1); rw [if_neg (by omega)]; decide)⟩)⟩
      have q9 := z_f_ne rfl z_l0 q9
      have q11 := z_f_ne rfl z_l1 q11
      have q13 := z_f_ne rfl z_l2 q13
      have q15 := z_f_ne rfl z_l3 q15
      have q17 := z_f_ne rfl z_l4 q17
      have q19 := z_f_ne rfl z_l5 q19
      have q21 := z_f_ne rfl z_l6 q21
      refine lv_tableOut (tgt := 113) hx hb dX12_poured_15 (by omega) (by decide) ?_
      refine lv_iconst (v := (-1)) hx hb dX12_poured_113 (by decide) ?_
      exact z_iret hx hb hr hK hS (Nat.le_of_ble_eq_true rfl) (Nat.le_of_ble_eq_true rfl) hlocks dX12_poured_114 (shM, ad, I, J, PM ad) hW ⟨rfl, (by first | exact Or.inl ⟨by omega, by decide⟩ | exact Or.inr ⟨by omega, Or.inr ⟨by omega, by decide⟩⟩)⟩
    · have g30 := z_f_nlt rfl rfl c7
      refine lv_iconst (v := (-1)) hx hb dX12_poured_12 (by decide) ?_
      exact z_iret hx hb hr hK hS (Nat.le_of_ble_eq_true rfl) (Nat.le_of_ble_eq_true rfl) hlocks dX12_poured_13 (shM, ad, I, J, PM ad) hW ⟨rfl, (by first | exact Or.inl ⟨by omega, by decide⟩ | exact Or.inr ⟨by omega, Or.inr ⟨by omega, by decide⟩⟩)⟩
noncomputable def L_X8_add_p : z_L := [(31, 999), (32, 999), (33, 999), (34, 999), (36, 999), (30, 8)]
set_option maxHeartbeats 8000000 in
set_option maxRecDepth 100000 in
theorem sx_X8_add_p (l : Launch) (G : z_G) (ad : Nat → Nat) (c : z_C) (I : z_I) (hP : z_iP I) (a1 : Int32) (a2 : Int32) (a3 : Int32) (a4 : Int32) : z_M l yX8_add wsX8_add { frames := 1, cells := 0, slots := 0, locals := 12 } [.ref (ad 30), .int a1, .int a2, .int a3, .int a4] G (shC c, ad, I, JX, PC c ad) (fun r u1 => ∃ I1 : z_I, u1 = (shC c, ad, I1, JX, PC c ad) ∧ z_iP I1 ∧ z_fr L_X8_add_p I1 I ∧ (((I 30 8).toInt < 300 ∧ r.toInt = (I 30 8).toInt ∧ (I1 30 8).toInt = (I 30 8).toInt + 1 ∧ (∀ j, I1 31 j = if j = (I 30 8).toNatClampNeg then a1 else I 31 j) ∧ (∀ j, I1 32 j = if j = (I 30 8).toNatClampNeg then a2 else I 32 j) ∧ (∀ j, I1 33 j = if j = (I 30 8).toNatClampNeg then a3 else I 33 j) ∧ (∀ j, I1 34 j = if j = (I 30 8).toNatClampNeg then a4 else I 34 j) ∧ (∀ j, I1 36 j = if j = (I 30 8).toNatClampNeg then (-1) else I 36 j)) ∨ (¬ (I 30 8).toInt < 300 ∧ r.toInt = -1 ∧ (I1 30 8).toInt = (I 30 8).toInt ∧ ∀ j, I1 31 j = I 31 j ∧ I1 32 j = I 32 j ∧ I1 33 j = I 33 j ∧ I1 34 j = I 34 j ∧ I1 36 j = I 36 j))) 0 0 := by
  intro sz
  refine z_headQ (cc := cX8_add) (maxL := 5) (ret := (some .int)) (by decide) rfl (Nat.le_of_ble_eq_true rfl) ?_
  intro p e s m below meth c0 ls hIn hK hsz hW hl
  obtain ⟨hx, hb, hr, hml, hown, hts, hlocks, hname⟩ := hIn
  subst hsz
  have hown : s.vm.findClass RX8 = some m.cls := hown
  have hA : ∀ q : Nat, s.heap.size ≤ q → z_A (shC c, ad, I, JX, PC c ad) s.heap.size q := fun q h => Or.inr h
  generalize hAe : z_A (shC c, ad, I, JX, PC c ad) s.heap.size = A at *
  have hS : va_S A s.heap s.heap [] := va_S.rf
  have hl : lv_has ls 5 [(0, .ref (ad 30)), (1, .int a1), (2, .int a2), (3, .int a3), (4, .int a4)] := hl
  refine lv_aload_n hx hb dX8_add_0 rfl (lv_at hl 0 rfl) ?_
  have r1 : 0 ≤ (I 30 8).toInt ∧ (I 30 8).toInt ≤ 300 := hP
  refine z_get (T := TX8) (N := 9) (ci := 8) (i := 30) (v := .int (I 30 8)) hx hb hts zj_X8_add_X8 hown hK hW rfl rfl 8 (by decide) (hts (.fieldLink RX8 36 "PetrolBoard$Pours" "number" "I") (me_s (me_l (List.mem_of_getElem? (i := 0) rfl)))) (fun _ h => h) rfl dX8_add_1 ?_
  refine lv_sipush (v := 300) hx hb dX8_add_4 (by decide) ?_
  refine lv_icmp_lt (tgt := 12) hx hb dX8_add_7 (by decide) (fun c2 => ?_) (fun c2 => ?_)
  · have g3 := z_f_lt rfl z_l300 c2
    refine lv_aload_n hx hb dX8_add_12 rfl (lv_at hl 0 rfl) ?_
    refine z_get (T := TX8) (N := 9) (ci := 8) (i := 30) (v := .ref (ad 31)) hx hb hts zj_X8_add_X8 hown hK hW rfl rfl 0 (by decide) (hts (.fieldLink RX8 9 "PetrolBoard$Pours" "station" "[I") (me_s (me_l (List.mem_of_getElem? (i := 1) rfl)))) (fun _ h => h) rfl dX8_add_13 ?_
    refine lv_aload_n hx hb dX8_add_16 rfl (lv_at hl 0 rfl) ?_
    refine z_get (T := TX8) (N := 9) (ci := 8) (i := 30) (v := .int (I 30 8)) hx hb hts zj_X8_add_X8 hown hK hW rfl rfl 8 (by decide) (hts (.fieldLink RX8 36 "PetrolBoard$Pours" "number" "I") (me_s (me_l (List.mem_of_getElem? (i := 0) rfl)))) (fun _ h => h) rfl dX8_add_17 ?_
    refine lv_iload_n hx hb dX8_add_20 rfl (lv_at hl 1 rfl) ?_
    refine z_iast (i := 31) hx hb hK hW hS rfl (z_ix rfl (by omega) (by omega)) dX8_add_21 (fun H locs hz1 hW hS => ?_)
    obtain ⟨I4, eI4⟩ : ∃ K : z_I, K = z_up I 31 (I 30 8).toNatClampNeg a1 := ⟨_, rfl⟩
    rw [← eI4] at hW
    have f5 := z_fr_a z_fr_0 (show z_wa L_X8_add_p 31 = true by decide) eI4
    refine lv_aload_n hx hb dX8_add_22 rfl (lv_at hl 0 rfl) ?_
    refine z_get (T := TX8) (N := 9) (ci := 8) (i := 30) (v := .ref (ad 32)) hx hb hts zj_X8_add_X8 hown hK hW rfl rfl 1 (by decide) (hts (.fieldLink RX8 15 "PetrolBoard$Pours" "holder" "[I") (me_s (me_l (List.mem_of_getElem? (i := 2) rfl)))) (fun _ h => h) rfl dX8_add_23 ?_
    refine lv_aload_n hx hb dX8_add_26 rfl (lv_at hl 0 rfl) ?_
    refine z_get (T := TX8) (N := 9) (ci := 8) (i := 30) (v := .int (I 30 8)) hx hb hts zj_X8_add_X8 hown hK hW rfl rfl 8 (by decide) (hts (.fieldLink RX8 36 "PetrolBoard$Pours" "number" "I") (me_s (me_l (List.mem_of_getElem? (i := 0) rfl)))) (fun _ h => h) (congrArg Value.int (by rw [eI4, z_up_n (by decide)])) dX8_add_27 ?_
    refine lv_iload_n hx hb dX8_add_30 rfl (lv_at hl 2 rfl) ?_
    refine z_iast (i := 32) hx hb hK hW hS rfl (z_ix rfl (by omega) (by omega)) dX8_add_31 (fun H locs hz1 hW hS => ?_)
    obtain ⟨I6, eI6⟩ : ∃ K : z_I, K = z_up I4 32 (I 30 8).toNatClampNeg a2 := ⟨_, rfl⟩
    rw [← eI6] at hW
    have f7 := z_fr_a f5 (show z_wa L_X8_add_p 32 = true by decide) eI6
    refine lv_aload_n hx hb dX8_add_32 rfl (lv_at hl 0 rfl) ?_
    refine z_get (T := TX8) (N := 9) (ci := 8) (i := 30) (v := .ref (ad 33)) hx hb hts zj_X8_add_X8 hown hK hW rfl rfl 2 (by decide) (hts (.fieldLink RX8 18 "PetrolBoard$Pours" "coupon" "[I") (me_s (me_l (List.mem_of_getElem? (i := 3) rfl)))) (fun _ h => h) rfl dX8_add_33 ?_
    refine lv_aload_n hx hb dX8_add_36 rfl (lv_at hl 0 rfl) ?_
    refine z_get (T := TX8) (N := 9) (ci := 8) (i := 30) (v := .int (I 30 8)) hx hb hts zj_X8_add_X8 hown hK hW rfl rfl 8 (by decide) (hts (.fieldLink RX8 36 "PetrolBoard$Pours" "number" "I") (me_s (me_l (List.mem_of_getElem? (i := 0) rfl)))) (fun _ h => h) (congrArg Value.int (by rw [eI6, z_up_n (by decide), eI4, z_up_n (by decide)])) dX8_add_37 ?_
    refine lv_iload_n hx hb dX8_add_40 rfl (lv_at hl 3 rfl) ?_
    refine z_iast (i := 33) hx hb hK hW hS rfl (z_ix rfl (by omega) (by omega)) dX8_add_41 (fun H locs hz1 hW hS => ?_)
    obtain ⟨I8, eI8⟩ : ∃ K : z_I, K = z_up I6 33 (I 30 8).toNatClampNeg a3 := ⟨_, rfl⟩
    rw [← eI8] at hW
    have f9 := z_fr_a f7 (show z_wa L_X8_add_p 33 = true by decide) eI8
    refine lv_aload_n hx hb dX8_add_42 rfl (lv_at hl 0 rfl) ?_
    refine z_get (T := TX8) (N := 9) (ci := 8) (i := 30) (v := .ref (ad 34)) hx hb hts zj_X8_add_X8 hown hK hW rfl rfl 3 (by decide) (hts (.fieldLink RX8 21 "PetrolBoard$Pours" "day" "[I") (me_s (me_l (List.mem_of_getElem? (i := 4) rfl)))) (fun _ h => h) rfl dX8_add_43 ?_
    refine lv_aload_n hx hb dX8_add_46 rfl (lv_at hl 0 rfl) ?_
    refine z_get (T := TX8) (N := 9) (ci := 8) (i := 30) (v := .int (I 30 8)) hx hb hts zj_X8_add_X8 hown hK hW rfl rfl 8 (by decide) (hts (.fieldLink RX8 36 "PetrolBoard$Pours" "number" "I") (me_s (me_l (List.mem_of_getElem? (i := 0) rfl)))) (fun _ h => h) (congrArg Value.int (by rw [eI8, z_up_n (by decide), eI6, z_up_n (by decide), eI4, z_up_n (by decide)])) dX8_add_47 ?_
    refine lv_iload hx hb dX8_add_50 (lv_at hl 4 rfl) ?_
    refine z_iast (i := 34) hx hb hK hW hS rfl (z_ix rfl (by omega) (by omega)) dX8_add_52 (fun H locs hz1 hW hS => ?_)
    obtain ⟨I10, eI10⟩ : ∃ K : z_I, K = z_up I8 34 (I 30 8).toNatClampNeg a4 := ⟨_, rfl⟩
    rw [← eI10] at hW
    have f11 := z_fr_a f9 (show z_wa L_X8_add_p 34 = true by decide) eI10
    refine lv_aload_n hx hb dX8_add_53 rfl (lv_at hl 0 rfl) ?_
    refine z_get (T := TX8) (N := 9) (ci := 8) (i := 30) (v := .ref (ad 36)) hx hb hts zj_X8_add_X8 hown hK hW rfl rfl 5 (by decide) (hts (.fieldLink RX8 27 "PetrolBoard$Pours" "verdict" "[I") (me_s (me_l (List.mem_of_getElem? (i := 5) rfl)))) (fun _ h => h) rfl dX8_add_54 ?_
    refine lv_aload_n hx hb dX8_add_57 rfl (lv_at hl 0 rfl) ?_
    refine z_get (T := TX8) (N := 9) (ci := 8) (i := 30) (v := .int (I 30 8)) hx hb hts zj_X8_add_X8 hown hK hW rfl rfl 8 (by decide) (hts (.fieldLink RX8 36 "PetrolBoard$Pours" "number" "I") (me_s (me_l (List.mem_of_getElem? (i := 0) rfl)))) (fun _ h => h) (congrArg Value.int (by rw [eI10, z_up_n (by decide), eI8, z_up_n (by decide), eI6, z_up_n (by decide), eI4, z_up_n (by decide)])) dX8_add_58 ?_
    refine lv_iconst (v := (-1)) hx hb dX8_add_61 (by decide) ?_
    refine z_iast (i := 36) hx hb hK hW hS rfl (z_ix rfl (by omega) (by omega)) dX8_add_62 (fun H locs hz1 hW hS => ?_)
    obtain ⟨I12, eI12⟩ : ∃ K : z_I, K = z_up I10 36 (I 30 8).toNatClampNeg (-1) := ⟨_, rfl⟩
    rw [← eI12] at hW
    have f13 := z_fr_a f11 (show z_wa L_X8_add_p 36 = true by decide) eI12
    refine lv_aload_n hx hb dX8_add_63 rfl (lv_at hl 0 rfl) ?_
    refine lv_dup hx hb dX8_add_64 rfl ?_
    refine z_get (T := TX8) (N := 9) (ci := 8) (i := 30) (v := .int (I 30 8)) hx hb hts zj_X8_add_X8 hown hK hW rfl rfl 8 (by decide) (hts (.fieldLink RX8 36 "PetrolBoard$Pours" "number" "I") (me_s (me_l (List.mem_of_getElem? (i := 0) rfl)))) (fun _ h => h) (congrArg Value.int (by rw [eI12, z_up_n (by decide), eI10, z_up_n (by decide), eI8, z_up_n (by decide), eI6, z_up_n (by decide), eI4, z_up_n (by decide)])) dX8_add_65 ?_
    refine lv_iconst (v := 1) hx hb dX8_add_68 (by decide) ?_
    refine lv_iadd hx hb dX8_add_69 ?_
    refine lv_topi (fun x14 ex14 => ?_)
    have tx14 : x14.toInt = (I 30 8).toInt + 1 := z_tadd ex14 rfl z_l1 (by omega) (by omega)
    refine z_put (T := TX8) (N := 9) (ci := 8) (i := 30) (v := .int x14) (I1 := z_up I12 30 8 x14) (J1 := JX) (P1 := PC c ad) hx hb hts zj_X8_add_X8 tyX8 tyX8_ok nmX8 hown hK hW hS rfl rfl 8 (by decide) (hts (.fieldLink RX8 36 "PetrolBoard$Pours" "number" "I") (me_s (me_l (List.mem_of_getElem? (i := 0) rfl)))) (fun _ h => h) rfl rfl rfl (by first | rfl | exact congrArg _ z_up_s) (fun a b h ty => z_vI h ty) dX8_add_70 (fun H locs hz1 hW hS => ?_)
    obtain ⟨I15, eI15⟩ : ∃ K : z_I, K = z_up I12 30 8 x14 := ⟨_, rfl⟩
    rw [← eI15] at hW
    have f16 := z_fr_k f13 (show z_wr L_X8_add_p 30 8 = true by decide) eI15
    refine lv_aload_n hx hb dX8_add_73 rfl (lv_at hl 0 rfl) ?_
    refine z_get (T := TX8) (N := 9) (ci := 8) (i := 30) (v := .int x14) hx hb hts zj_X8_add_X8 hown hK hW rfl rfl 8 (by decide) (hts (.fieldLink RX8 36 "PetrolBoard$Pours" "number" "I") (me_s (me_l (List.mem_of_getElem? (i := 0) rfl)))) (fun _ h => h) (congrArg Value.int (by rw [eI15, z_up_s])) dX8_add_74 ?_
    refine lv_iconst (v := 1) hx hb dX8_add_77 (by decide) ?_
    refine lv_isub hx hb dX8_add_78 ?_
    refine lv_topi (fun x17 ex17 => ?_)
    have tx17 : x17.toInt = x14.toInt - 1 := z_tsub ex17 rfl z_l1 (by omega) (by omega)
    exact z_iret hx hb hr hK hS (Nat.le_of_ble_eq_true rfl) (Nat.le_of_ble_eq_true rfl) hlocks dX8_add_79 (shC c, ad, I15, JX, PC c ad) hW ⟨I15, rfl, (by show 0 ≤ (I15 30 8).toInt ∧ (I15 30 8).toInt ≤ 300; rw [eI15, z_up_s]; omega), f16, (Or.inl ⟨by omega, by omega, (by have q9 : (I15 30 8) = x14 := (by rw [eI15, z_up_s]); show (I15 30 8).toInt = (I 30 8).toInt + 1; rw [q9]; first | done | omega), (fun j => by rw [eI15, z_up_n (by decide), eI12, z_up_n (by decide), eI10, z_up_n (by decide), eI8, z_up_n (by decide), eI6, z_up_n (by decide), eI4, z_up_j]), (fun j => by rw [eI15, z_up_n (by decide), eI12, z_up_n (by decide), eI10, z_up_n (by decide), eI8, z_up_n (by decide), eI6, z_up_j, eI4, z_up_n (by decide)]), (fun j => by rw [eI15, z_up_n (by decide), eI12, z_up_n (by decide), eI10, z_up_n (by decide), eI8, z_up_j, eI6, z_up_n (by decide), eI4, z_up_n (by decide)]), (fun j => by rw [eI15, z_up_n (by decide), eI12, z_up_n (by decide), eI10, z_up_j, eI8, z_up_n (by decide), eI6, z_up_n (by decide), eI4, z_up_n (by decide)]), (fun j => by rw [eI15, z_up_n (by decide), eI12, z_up_j, eI10, z_up_n (by decide), eI8, z_up_n (by decide), eI6, z_up_n (by decide), eI4, z_up_n (by decide)])⟩)⟩
  · have g18 := z_f_nlt rfl z_l300 c2
    refine lv_iconst (v := (-1)) hx hb dX8_add_10 (by decide) ?_
    exact z_iret hx hb hr hK hS (Nat.le_of_ble_eq_true rfl) (Nat.le_of_ble_eq_true rfl) hlocks dX8_add_11 (shC c, ad, I, JX, PC c ad) hW ⟨I, rfl, (by show 0 ≤ (I 30 8).toInt ∧ (I 30 8).toInt ≤ 300; exact hP), z_fr_0, (Or.inr ⟨by omega, by decide, (by show (I 30 8).toInt = (I 30 8).toInt; omega), (fun j => ⟨rfl, rfl, rfl, rfl, rfl⟩)⟩)⟩
noncomputable def L_X11_pour_p : z_L := [(31, 999), (32, 999), (33, 999), (34, 999), (36, 999), (30, 8), (35, 999), (37, 999), (38, 999)]
set_option maxHeartbeats 8000000 in
set_option maxRecDepth 100000 in
theorem sx_X11_pour_p (l : Launch) (G : z_G) (ad : Nat → Nat) (c : z_C) (I : z_I) (hP : z_iP I) (hO : z_iO I) (hH : z_iH I) (hB : z_iB I) (hC : z_iC I) (a1 : Int32) (a2 : Int32) (a3 : Int32) (hc : z_okc c) (h10 : c.1 ≤ 10) (hon : (I 21 2).toInt = (c.2.1 : Int)) (hmo : ∀ j, j < c.2.1 → 0 ≤ (I (200 + 5 * j) 0).toInt) : z_MS l yX11_pour wsX11_pour { frames := 4, cells := 0, slots := 0, locals := 86 } [.ref (ad 0), .int a1, .int a2, .int a3] G (shC c, ad, I, JX, PC c ad) (fun r u1 => ∃ I1 : z_I, u1 = (shC c, ad, I1, JX, PC c ad) ∧ z_iP I1 ∧ z_iO I1 ∧ z_iH I1 ∧ z_iB I1 ∧ z_iC I1 ∧ z_fr L_X11_pour_p I1 I ∧ (((0 ≤ a1.toInt ∧ a1.toInt < (I 0 8).toInt ∧ 0 ≤ a2.toInt ∧ a2.toInt < (I 1 5).toInt ∧ 0 ≤ a3.toInt ∧ a3.toInt ≤ 99999 ∧ (I 30 8).toInt < 300) ∧ r.toInt = (I 30 8).toInt ∧ (I1 30 8).toInt = (I 30 8).toInt + 1 ∧ ∃ te dy ow : Int32, te.toInt = zb_ax c I 0 ((I 0 0).toInt / 30) (I 0 0).toInt ∧ ((dy.toInt = 1 ∧ z_fx I a2 = 2) ∨ (dy.toInt = 0 ∧ ¬ z_fx I a2 = 2)) ∧ ow.toInt = zb_OX I a3.toInt ∧ zp_rX I1 I (I 30 8).toNatClampNeg a1 a2 a3 (I 0 0) te (-1) dy ow) ∨ (¬ (0 ≤ a1.toInt ∧ a1.toInt < (I 0 8).toInt ∧ 0 ≤ a2.toInt ∧ a2.toInt < (I 1 5).toInt ∧ 0 ≤ a3.toInt ∧ a3.toInt ≤ 99999 ∧ (I 30 8).toInt < 300) ∧ r.toInt = -1 ∧ (I1 30 8).toInt = (I 30 8).toInt ∧ zp_sX I1 I))) 0 0 := sorry
set_option maxHeartbeats 8000000 in
set_option maxRecDepth 100000 in
theorem sx_X12_judges_p (l : Launch) (G : z_G) (ad : Nat → Nat) (I : z_I) (J : z_J) (hms : z_ims I) (hApc : z_rg 36 0 99999 I) (hmb : z_imb I) (hAtf : z_rg 11 0 288 I) (hAtm : z_rg 12 0 24 I) (a1 : Int32) (q1 : 0 ≤ a1.toInt ∧ a1.toInt ≤ 299) (q2 : a1.toInt < (I 0 55).toInt) (hIs : ∀ b : Nat, b < 720 → 0 ≤ (I 31 b).toInt ∧ (I 31 b).toInt ≤ 100) (hD : ∀ j : Nat, (j : Int) < (I 0 55).toInt → 0 ≤ (I 37 j).toInt) : z_M l yX12_judges wsX12_judges { frames := 3, cells := 0, slots := 0, locals := 62 } [.ref (ad 0), .int a1] G (shM, ad, I, J, PM ad) (fun r u1 => u1 = (shM, ad, I, J, PM ad) ∧ (r.toInt = zg_v (zr_C I) (zr_U I) (zr_B I) (zr_W I) a1.toNatClampNeg)) 0 0 := by
  intro sz
  refine z_headQ (cc := cX12_judges) (maxL := 5) (ret := (some .int)) (by decide) rfl (Nat.le_of_ble_eq_true rfl) ?_
  intro p e s m below meth c0 ls hIn hK hsz hW hl
  obtain ⟨hx, hb, hr, hml, hown, hts, hlocks, hname⟩ := hIn
  subst hsz
  have hown : s.vm.findClass RX12 = some m.cls := hown
  have hA : ∀ q : Nat, s.heap.size ≤ q → z_A (shM, ad, I, J, PM ad) s.heap.size q := fun q h => Or.inr h
  generalize hAe : z_A (shM, ad, I, J, PM ad) s.heap.size = A at *
  have hS : va_S A s.heap s.heap [] := va_S.rf
  have hl : lv_has ls 5 [(0, .ref (ad 0)), (1, .int a1)] := hl
  refine lv_aload_n hx hb dX12_judges_0 rfl (lv_at hl 0 rfl) ?_
  refine z_get (T := TX12) (N := 96) (ci := 12) (i := 0) (v := .ref (ad 36)) hx hb hts zj_X12_judges_X12 hown hK hW rfl rfl 59 (by decide) (hts (.fieldLink RX12 124 "PetrolBoardModel" "pourCoupon" "[I") (me_s (me_l (me_l (List.mem_of_getElem? (i := 0) rfl))))) (fun _ h => h) rfl dX12_judges_1 ?_
  refine lv_iload_n hx hb dX12_judges_4 rfl (lv_at hl 1 rfl) ?_
  refine z_iald (i := 36) hx hb hK hW rfl (z_ix rfl (by omega) (by omega)) dX12_judges_5 ?_
  refine lv_topi (fun x1 ex1 => ?_)
  have h2 : 0 ≤ x1.toInt ∧ x1.toInt ≤ 99999 := by rw [ex1]; exact hApc _
  have hv3 : (I 36 a1.toNatClampNeg).toInt = x1.toInt := by rw [ex1]
  have hz4 := z_clt (x := a1) rfl (by omega)
  have hd5 := hD a1.toNatClampNeg (by omega)
  refine lv_istore_n (lv' := [(2, .int x1), (0, .ref (ad 0)), (1, .int a1)]) hx hb dX12_judges_6 rfl hl (by decide) rfl (fun ls hl => ?_)
  refine lv_aload_n hx hb dX12_judges_7 rfl (lv_at hl 1 rfl) ?_
  refine lv_iload_n hx hb dX12_judges_8 rfl (lv_at hl 0 rfl) ?_
  refine z_ci hW hS hA (va_runV (As := [.int x1]) (rest := []) ⟨hx, hb, hml, hown, hts⟩ (sx_X12_isCoupon_c l G ad I J x1 hIs _) (cwV 1 hts gX12_judges_X12_isCoupon rfl rfl rfl (by decide +kernel) ⟨Nat.le_of_ble_eq_true rfl, Nat.le_of_ble_eq_true rfl⟩) (z_preV (i := 0) hK hW rfl rfl) rfl rfl hl.1 rfl (lv_room (Nat.le_of_ble_eq_true rfl)) dX12_judges_9 ⟨Nat.le_of_ble_eq_true rfl, Nat.le_of_ble_eq_true rfl⟩) (fun r u1 H locs hp hW hS => ?_)
  obtain ⟨e9, hp⟩ := hp
  rw [e9] at hW
  rcases hp with ⟨rfl, hb6⟩ | ⟨rfl, hb6⟩
  · refine lv_if_ne (tgt := 17) hx hb dX12_judges_12 (by decide) (fun c7 => ?_) (fun c7 => absurd c7 (by decide))
    refine lv_aload_n hx hb dX12_judges_17 rfl (lv_at hl 1 rfl) ?_
    refine z_get (T := TX12) (N := 96) (ci := 12) (i := 0) (v := .ref (ad 33)) hx hb hts zj_X12_judges_X12 hown hK hW rfl rfl 53 (by decide) (hts (.fieldLink RX12 114 "PetrolBoardModel" "wasIn" "[Z") (me_s (me_l (me_l (List.mem_of_getElem? (i := 1) rfl))))) (fun _ h => h) rfl dX12_judges_18 ?_
    refine lv_iload_n hx hb dX12_judges_21 rfl (lv_at hl 0 rfl) ?_
    refine z_zald (i := 33) hx hb hK hW rfl (z_ix rfl (by omega) (by omega)) dX12_judges_22 ?_
    refine lv_topi (fun x8 ex8 => ?_)
    have hv9 : (I 33 x1.toNatClampNeg).toInt = x8.toInt := by rw [ex8]
    have hz10 := z_clt (x := x1) rfl (by omega)
    refine lv_if_eq (tgt := 28) hx hb dX12_judges_23 (by decide) (fun c11 => ?_) (fun c11 => ?_)
    · have g12 := z_f_eq rfl z_l0 c11
      have b13 := Int32.toInt_lt x8
      refine lv_iload_n hx hb dX12_judges_28 rfl (lv_at hl 0 rfl) ?_
      refine lv_bipush (v := 100) hx hb dX12_judges_29 (by decide) ?_
      refine lv_idiv hx hb dX12_judges_31 (by decide) ?_
      refine lv_topi (fun x14 ex14 => ?_)
      have tx14 := z_tdiv ex14 rfl z_l100 (by decide)
      refine lv_bipush (v := 24) hx hb dX12_judges_32 (by decide) ?_
      refine lv_irem hx hb dX12_judges_34 (by decide) ?_
      refine lv_topi (fun x15 ex15 => ?_)
      have tx15 := z_trem ex15 rfl z_l24 (by decide)
      refine lv_istore_n (lv' := [(3, .int x15), (2, .int x1), (0, .ref (ad 0)), (1, .int a1)]) hx hb dX12_judges_35 rfl hl (by decide) rfl (fun ls hl => ?_)
      refine lv_aload_n hx hb dX12_judges_36 rfl (lv_at hl 2 rfl) ?_
      refine z_get (T := TX12) (N := 96) (ci := 12) (i := 0) (v := .ref (ad 37)) hx hb hts zj_X12_judges_X12 hown hK hW rfl rfl 60 (by decide) (hts (.fieldLink RX12 127 "PetrolBoardModel" "pourDay" "[I") (me_s (me_l (me_l (List.mem_of_getElem? (i := 2) rfl))))) (fun _ h => h) rfl dX12_judges_37 ?_
      refine lv_iload_n hx hb dX12_judges_40 rfl (lv_at hl 3 rfl) ?_
      refine z_iald (i := 37) hx hb hK hW rfl (z_ix rfl (by omega) (by omega)) dX12_judges_41 ?_
      refine lv_topi (fun x16 ex16 => ?_)
      have hv17 : (I 37 a1.toNatClampNeg).toInt = x16.toInt := by rw [ex16]
      have hz18 := z_clt (x := a1) rfl (by omega)
      refine lv_bipush (v := 30) hx hb dX12_judges_42 (by decide) ?_
      refine lv_idiv hx hb dX12_judges_44 (by decide) ?_
      refine lv_topi (fun x19 ex19 => ?_)
      have tx19 := z_tdiv ex19 rfl z_l30 (by decide)
      refine lv_istore (lv' := [(4, .int x19), (3, .int x15), (2, .int x1), (0, .ref (ad 0)), (1, .int a1)]) hx hb dX12_judges_45 hl (by decide) rfl (fun ls hl => ?_)
      refine lv_iload hx hb dX12_judges_47 (lv_at hl 0 rfl) ?_
      refine lv_iload_n hx hb dX12_judges_49 rfl (lv_at hl 1 rfl) ?_
      refine lv_icmp_lt (tgt := 72) hx hb dX12_judges_50 (by decide) (fun c20 => ?_) (fun c20 => ?_)
      · have g21 := z_f_lt rfl rfl c20
        have b22 := Int32.toInt_lt x19
        refine lv_iconst (v := 3) hx hb dX12_judges_72 (by decide) ?_
        exact z_iret hx hb hr hK hS (Nat.le_of_ble_eq_true rfl) (Nat.le_of_ble_eq_true rfl) hlocks dX12_judges_73 (shM, ad, I, J, PM ad) hW ⟨rfl, (by have hm9 : zr_m I a1.toNatClampNeg = x15.toInt := (by unfold zr_m zr_C; rw [hv3]; have q9 := hb6; unfold zb_hm at q9; omega); rw [zg_v_3 (by unfold zr_U zr_C; rw [hv3]; exact decide_eq_false (fun q => q hb6)) (by unfold zr_W zr_C; rw [hv3]; exact decide_eq_false (show ¬ ¬ (I 33 x1.toNatClampNeg).toInt = 0 by omega)), show (3 : Int32).toInt = 3 by decide]; exact (zx_B3 (Or.inl (by omega))).symm)⟩
      · have g23 := z_f_nlt rfl rfl c20
        have b24 := Int32.toInt_lt x19
        refine lv_iload hx hb dX12_judges_53 (lv_at hl 0 rfl) ?_
        refine lv_iload_n hx hb dX12_judges_55 rfl (lv_at hl 1 rfl) ?_
        refine lv_aload_n hx hb dX12_judges_56 rfl (lv_at hl 3 rfl) ?_
        refine lv_iload_n hx hb dX12_judges_57 rfl (lv_at hl 1 rfl) ?_
        refine lv_aload_n hx hb dX12_judges_58 rfl (lv_at hl 3 rfl) ?_
        refine z_get (T := TX12) (N := 96) (ci := 12) (i := 0) (v := .ref (ad 37)) hx hb hts zj_X12_judges_X12 hown hK hW rfl rfl 60 (by decide) (hts (.fieldLink RX12 127 "PetrolBoardModel" "pourDay" "[I") (me_s (me_l (me_l (List.mem_of_getElem? (i := 2) rfl))))) (fun _ h => h) rfl dX12_judges_59 ?_
        refine lv_iload_n hx hb dX12_judges_62 rfl (lv_at hl 4 rfl) ?_
        refine z_iald (i := 37) hx hb hK hW rfl (z_ix rfl (by omega) (by omega)) dX12_judges_63 ?_
        refine z_topi (v := x16) ex16.symm ?_
        refine lv_iconst (v := 4) hx hb dX12_judges_64 (by decide) ?_
        refine z_ci hW hS hA (va_runV (As := [.int x15, .int x16, .int 4]) (rest := [.int x15, .int x19]) ⟨hx, hb, hml, hown, hts⟩ (sx_X12_number_x l G ad I J ⟨(by show 0 ≤ (I 0 13).toInt ∧ (I 0 13).toInt ≤ 12; exact hmb.1), (by show 0 ≤ (I 0 14).toInt ∧ (I 0 14).toInt ≤ 288; exact hmb.2)⟩ hAtf hAtm x15 x16 4 (by decide) _) (cwV 3 hts gX12_judges_X12_number rfl rfl rfl (by decide +kernel) ⟨Nat.le_of_ble_eq_true rfl, Nat.le_of_ble_eq_true rfl⟩) (z_preV (i := 0) hK hW rfl rfl) rfl rfl hl.1 rfl (lv_room (Nat.le_of_ble_eq_true rfl)) dX12_judges_65 ⟨Nat.le_of_ble_eq_true rfl, Nat.le_of_ble_eq_true rfl⟩) (fun r u1 H locs hp hW hS => ?_)
        obtain ⟨e9, hp⟩ := hp
        rw [e9] at hW
        refine lv_topi (fun x25 ex25 => ?_)
        rw [← ex25, show (4 : Int32).toInt - 3 = 1 by decide] at hp
        have hM26 : x25.toInt = zb_am I 1 x15.toInt x16.toInt := zb_f_e hp
        refine lv_iadd hx hb dX12_judges_68 ?_
        refine lv_topi (fun x27 ex27 => ?_)
        refine lv_icmp_le (tgt := 74) hx hb dX12_judges_69 (by decide) (fun c28 => ?_) (fun c28 => ?_)
        · have g29 := z_f_le rfl rfl c28
          have b30 := Int32.toInt_lt x27
          refine lv_aload_n hx hb dX12_judges_74 rfl (lv_at hl 3 rfl) ?_
          refine z_get (T := TX12) (N := 96) (ci := 12) (i := 0) (v := .ref (ad 39)) hx hb hts zj_X12_judges_X12 hown hK hW rfl rfl 62 (by decide) (hts (.fieldLink RX12 133 "PetrolBoardModel" "pourOwner" "[I") (me_s (me_l (me_l (List.mem_of_getElem? (i := 3) rfl))))) (fun _ h => h) rfl dX12_judges_75 ?_
          refine lv_iload_n hx hb dX12_judges_78 rfl (lv_at hl 4 rfl) ?_
          refine z_iald (i := 39) hx hb hK hW rfl (z_ix rfl (by omega) (by omega)) dX12_judges_79 ?_
          refine lv_topi (fun x31 ex31 => ?_)
          have hv32 : (I 39 a1.toNatClampNeg).toInt = x31.toInt := by rw [ex31]
          have hz33 := z_clt (x := a1) rfl (by omega)
          refine lv_aload_n hx hb dX12_judges_80 rfl (lv_at hl 3 rfl) ?_
          refine z_get (T := TX12) (N := 96) (ci := 12) (i := 0) (v := .ref (ad 35)) hx hb hts zj_X12_judges_X12 hown hK hW rfl rfl 58 (by decide) (hts (.fieldLink RX12 121 "PetrolBoardModel" "pourWho" "[I") (me_s (me_l (me_l (List.mem_of_getElem? (i := 4) rfl))))) (fun _ h => h) rfl dX12_judges_81 ?_
          refine lv_iload_n hx hb dX12_judges_84 rfl (lv_at hl 4 rfl) ?_
          refine z_iald (i := 35) hx hb hK hW rfl (z_ix rfl (by omega) (by omega)) dX12_judges_85 ?_
          refine lv_topi (fun x34 ex34 => ?_)
          have hv35 : (I 35 a1.toNatClampNeg).toInt = x34.toInt := by rw [ex34]
          have hz36 := z_clt (x := a1) rfl (by omega)
          refine lv_icmp_ne (tgt := 93) hx hb dX12_judges_86 (by decide) (fun c37 => ?_) (fun c37 => ?_)
          · have g38 := z_f_ne rfl rfl c37
            have b39 := Int32.toInt_lt x31
            have b40 := Int32.toInt_lt x34
            refine lv_iconst (v := 4) hx hb dX12_judges_93 (by decide) ?_
            exact z_iret hx hb hr hK hS (Nat.le_of_ble_eq_true rfl) (Nat.le_of_ble_eq_true rfl) hlocks dX12_judges_94 (shM, ad, I, J, PM ad) hW ⟨rfl, (by have hm9 : zr_m I a1.toNatClampNeg = x15.toInt := (by unfold zr_m zr_C; rw [hv3]; have q9 := hb6; unfold zb_hm at q9; omega); have hbm : Int.bmod (zr_m I a1.toNatClampNeg + zb_am I 1 (zr_m I a1.toNatClampNeg) (I 37 a1.toNatClampNeg).toInt) (2 ^ 32) = x27.toInt := (by rw [ex27, Int32.toInt_add, hM26, hm9, hv17]); rw [zg_v_3 (by unfold zr_U zr_C; rw [hv3]; exact decide_eq_false (fun q => q hb6)) (by unfold zr_W zr_C; rw [hv3]; exact decide_eq_false (show ¬ ¬ (I 33 x1.toNatClampNeg).toInt = 0 by omega)), show (4 : Int32).toInt = 4 by decide]; exact (zx_B4 (by omega) (by omega)).symm)⟩
          · have g41 := z_f_eq rfl rfl c37
            have b42 := Int32.toInt_lt x31
            have b43 := Int32.toInt_lt x34
            refine lv_iconst (v := 0) hx hb dX12_judges_89 (by decide) ?_
            refine lv_goto (tgt := 94) hx hb dX12_judges_90 (by decide) ?_
            exact z_iret hx hb hr hK hS (Nat.le_of_ble_eq_true rfl) (Nat.le_of_ble_eq_true rfl) hlocks dX12_judges_94 (shM, ad, I, J, PM ad) hW ⟨rfl, (by have hm9 : zr_m I a1.toNatClampNeg = x15.toInt := (by unfold zr_m zr_C; rw [hv3]; have q9 := hb6; unfold zb_hm at q9; omega); have hbm : Int.bmod (zr_m I a1.toNatClampNeg + zb_am I 1 (zr_m I a1.toNatClampNeg) (I 37 a1.toNatClampNeg).toInt) (2 ^ 32) = x27.toInt := (by rw [ex27, Int32.toInt_add, hM26, hm9, hv17]); rw [zg_v_3 (by unfold zr_U zr_C; rw [hv3]; exact decide_eq_false (fun q => q hb6)) (by unfold zr_W zr_C; rw [hv3]; exact decide_eq_false (show ¬ ¬ (I 33 x1.toNatClampNeg).toInt = 0 by omega)), show (0 : Int32).toInt = 0 by decide]; exact (zx_B0 (by omega) (by omega)).symm)⟩
        · have g44 := z_f_nle rfl rfl c28
          have b45 := Int32.toInt_lt x27
          refine lv_iconst (v := 3) hx hb dX12_judges_72 (by decide) ?_
          exact z_iret hx hb hr hK hS (Nat.le_of_ble_eq_true rfl) (Nat.le_of_ble_eq_true rfl) hlocks dX12_judges_73 (shM, ad, I, J, PM ad) hW ⟨rfl, (by have hm9 : zr_m I a1.toNatClampNeg = x15.toInt := (by unfold zr_m zr_C; rw [hv3]; have q9 := hb6; unfold zb_hm at q9; omega); have hbm : Int.bmod (zr_m I a1.toNatClampNeg + zb_am I 1 (zr_m I a1.toNatClampNeg) (I 37 a1.toNatClampNeg).toInt) (2 ^ 32) = x27.toInt := (by rw [ex27, Int32.toInt_add, hM26, hm9, hv17]); rw [zg_v_3 (by unfold zr_U zr_C; rw [hv3]; exact decide_eq_false (fun q => q hb6)) (by unfold zr_W zr_C; rw [hv3]; exact decide_eq_false (show ¬ ¬ (I 33 x1.toNatClampNeg).toInt = 0 by omega)), show (3 : Int32).toInt = 3 by decide]; exact (zx_B3 (Or.inr (by omega))).symm)⟩
    · have g46 := z_f_ne rfl z_l0 c11
      have b47 := Int32.toInt_lt x8
      refine lv_iconst (v := 2) hx hb dX12_judges_26 (by decide) ?_
      exact z_iret hx hb hr hK hS (Nat.le_of_ble_eq_true rfl) (Nat.le_of_ble_eq_true rfl) hlocks dX12_judges_27 (shM, ad, I, J, PM ad) hW ⟨rfl, (by rw [zg_v_2 (by unfold zr_U zr_C; rw [hv3]; exact decide_eq_false (fun q => q hb6)) (by unfold zr_W zr_C; rw [hv3]; exact decide_eq_true (show ¬ (I 33 x1.toNatClampNeg).toInt = 0 by omega))]; decide)⟩
  · refine lv_if_ne (tgt := 17) hx hb dX12_judges_12 (by decide) (fun c48 => absurd (by decide) c48) (fun c48 => ?_)
    refine lv_iconst (v := 1) hx hb dX12_judges_15 (by decide) ?_
    exact z_iret hx hb hr hK hS (Nat.le_of_ble_eq_true rfl) (Nat.le_of_ble_eq_true rfl) hlocks dX12_judges_16 (shM, ad, I, J, PM ad) hW ⟨rfl, (by rw [zg_v_1 (by unfold zr_U zr_C; rw [hv3]; exact decide_eq_true hb6)]; decide)⟩
noncomputable def L_X12_handIn_p : z_L := [(40, 999), (33, 999)]
set_option maxHeartbeats 8000000 in
set_option maxRecDepth 100000 in
theorem sx_X12_handIn_p (l : Launch) (G : z_G) (ad : Nat → Nat) (I : z_I) (J : z_J) (hms : z_ims I) (hApc : z_rg 36 0 99999 I) (hmb : z_imb I) (hAtf : z_rg 11 0 288 I) (hAtm : z_rg 12 0 24 I) (a1 : Int32) (hIs : ∀ b : Nat, b < 720 → 0 ≤ (I 31 b).toInt ∧ (I 31 b).toInt ≤ 100) (hD : ∀ j : Nat, (j : Int) < (I 0 55).toInt → 0 ≤ (I 37 j).toInt) : z_M l yX12_handIn wsX12_handIn { frames := 4, cells := 0, slots := 0, locals := 86 } [.ref (ad 0), .int a1] G (shM, ad, I, J, PM ad) (fun r u1 => ∃ (I1 : z_I) (J1 : z_J), u1 = (shM, ad, I1, J1, PM ad) ∧ z_ims I1 ∧ z_rg 36 0 99999 I1 ∧ z_imb I1 ∧ z_rg 11 0 288 I1 ∧ z_rg 12 0 24 I1 ∧ z_fr L_X12_handIn_p I1 I ∧ (((0 ≤ a1.toInt ∧ a1.toInt < (I 0 54).toInt) ∧ r.toInt = (zr_Fw I a1.toInt (I 0 55).toNatClampNeg).2.2 ∧ (∀ j, (I1 40 j).toInt = (zr_Fw I a1.toInt (I 0 55).toNatClampNeg).1 j) ∧ ∀ a : Int, 0 ≤ a → a ≤ 99999 → zr_W I1 a = (zr_Fw I a1.toInt (I 0 55).toNatClampNeg).2.1 a) ∨ (¬ (0 ≤ a1.toInt ∧ a1.toInt < (I 0 54).toInt) ∧ r.toInt = -1 ∧ ∀ j, I1 40 j = I 40 j ∧ I1 33 j = I 33 j))) 0 0 := sorry
noncomputable def L_X12_pour_p : z_L := [(34, 999), (35, 999), (36, 999), (37, 999), (38, 999), (39, 999), (40, 999), (42, 999), (41, 999), (0, 56), (0, 55)]
set_option maxHeartbeats 8000000 in
set_option maxRecDepth 100000 in
theorem sx_X12_pour_p (l : Launch) (G : z_G) (ad : Nat → Nat) (I : z_I) (J : z_J) (hma : z_ima I) (hms : z_ims I) (hApc : z_rg 36 0 99999 I) (hmb : z_imb I) (hAtf : z_rg 11 0 288 I) (hAtm : z_rg 12 0 24 I) (a1 : Int32) (a2 : Int32) (a3 : Int32) (hIs : ∀ b : Nat, b < 720 → 0 ≤ (I 31 b).toInt ∧ (I 31 b).toInt ≤ 100) : z_M l yX12_pour wsX12_pour { frames := 3, cells := 0, slots := 0, locals := 62 } [.ref (ad 0), .int a1, .int a2, .int a3] G (shM, ad, I, J, PM ad) (fun r u1 => ∃ (I1 : z_I) (J1 : z_J), u1 = (shM, ad, I1, J1, PM ad) ∧ z_ima I1 ∧ z_ims I1 ∧ z_rg 36 0 99999 I1 ∧ z_imb I1 ∧ z_rg 11 0 288 I1 ∧ z_rg 12 0 24 I1 ∧ z_fr L_X12_pour_p I1 I ∧ (((0 ≤ a1.toInt ∧ a1.toInt < (I 0 54).toInt ∧ 0 ≤ a2.toInt ∧ a2.toInt < (I 0 1).toInt ∧ 0 ≤ a3.toInt ∧ a3.toInt ≤ 99999 ∧ (I 0 55).toInt < 300) ∧ r.toInt = (I 0 55).toInt ∧ (I1 0 55).toInt = (I 0 55).toInt + 1 ∧ ∃ te dy ow : Int32, te.toInt = zb_am I 0 ((I 0 0).toInt / 30) (I 0 0).toInt ∧ ((¬ dy.toInt = 0 ∧ z_fm I a2 = 2) ∨ (dy.toInt = 0 ∧ ¬ z_fm I a2 = 2)) ∧ ow.toInt = zb_OM I a3.toInt ∧ zp_rM I1 I (I 0 55).toNatClampNeg a1 a2 a3 (I 0 0) te (-1) dy ow) ∨ (¬ (0 ≤ a1.toInt ∧ a1.toInt < (I 0 54).toInt ∧ 0 ≤ a2.toInt ∧ a2.toInt < (I 0 1).toInt ∧ 0 ≤ a3.toInt ∧ a3.toInt ≤ 99999 ∧ (I 0 55).toInt < 300) ∧ r.toInt = -1 ∧ (I1 0 55).toInt = (I 0 55).toInt ∧ zp_sM I1 I))) 0 0 := by
  intro sz
  refine z_headQ (cc := cX12_pour) (maxL := 4) (ret := (some .int)) (by decide) rfl (Nat.le_of_ble_eq_true rfl) ?_
  intro p e s m below meth c0 ls hIn hK hsz hW hl
  obtain ⟨hx, hb, hr, hml, hown, hts, hlocks, hname⟩ := hIn
  subst hsz
  have hown : s.vm.findClass RX12 = some m.cls := hown
  have hA : ∀ q : Nat, s.heap.size ≤ q → z_A (shM, ad, I, J, PM ad) s.heap.size q := fun q h => Or.inr h
  generalize hAe : z_A (shM, ad, I, J, PM ad) s.heap.size = A at *
  have hS : va_S A s.heap s.heap [] := va_S.rf
  have hl : lv_has ls 4 [(0, .ref (ad 0)), (1, .int a1), (2, .int a2), (3, .int a3)] := hl
  refine lv_aload_n hx hb dX12_pour_0 rfl (lv_at hl 0 rfl) ?_
  refine lv_iload_n hx hb dX12_pour_1 rfl (lv_at hl 1 rfl) ?_
  refine z_ci hW hS hA (va_runV (As := [.int a1]) (rest := []) ⟨hx, hb, hml, hown, hts⟩ (sx_X12_isStation_e l G ad I J ⟨(by show 0 ≤ (I 0 54).toInt ∧ (I 0 54).toInt ≤ 10; exact hms.1), (by show 0 ≤ (I 0 55).toInt ∧ (I 0 55).toInt ≤ 300; exact hms.2)⟩ a1 _) (cwV 1 hts gX12_pour_X12_isStation rfl rfl rfl (by decide +kernel) ⟨Nat.le_of_ble_eq_true rfl, Nat.le_of_ble_eq_true rfl⟩) (z_preV (i := 0) hK hW rfl rfl) rfl rfl hl.1 rfl (lv_room (Nat.le_of_ble_eq_true rfl)) dX12_pour_2 ⟨Nat.le_of_ble_eq_true rfl, Nat.le_of_ble_eq_true rfl⟩) (fun r u1 H locs hp hW hS => ?_)
  obtain ⟨e9, hp⟩ := hp
  rw [e9] at hW
  rcases hp with ⟨rfl, h1⟩ | ⟨rfl, h1⟩
  · have h2 := h1
    have r3 : 0 ≤ (I 0 54).toInt ∧ (I 0 54).toInt ≤ 10 := hms.1
    refine lv_if_eq (tgt := 37) hx hb dX12_pour_5 (by decide) (fun c4 => absurd c4 (by decide)) (fun c4 => ?_)
    refine lv_aload_n hx hb dX12_pour_8 rfl (lv_at hl 0 rfl) ?_
    refine lv_iload_n hx hb dX12_pour_9 rfl (lv_at hl 2 rfl) ?_
    refine z_ci hW hS hA (va_runV (As := [.int a2]) (rest := []) ⟨hx, hb, hml, hown, hts⟩ (sx_X12_isHolder_e l G ad I J ⟨(by show 0 ≤ (I 0 0).toInt ∧ (I 0 0).toInt ≤ 719; exact hma.1), (by show 0 ≤ (I 0 1).toInt ∧ (I 0 1).toInt ≤ 30; exact hma.2.1), (by show 0 ≤ (I 0 2).toInt ∧ (I 0 2).toInt ≤ 200; exact hma.2.2)⟩ a2 _) (cwV 1 hts gX12_pour_X12_isHolder rfl rfl rfl (by decide +kernel) ⟨Nat.le_of_ble_eq_true rfl, Nat.le_of_ble_eq_true rfl⟩) (z_preV (i := 0) hK hW rfl rfl) rfl rfl hl.1 rfl (lv_room (Nat.le_of_ble_eq_true rfl)) dX12_pour_10 ⟨Nat.le_of_ble_eq_true rfl, Nat.le_of_ble_eq_true rfl⟩) (fun r u1 H locs hp hW hS => ?_)
    obtain ⟨e9, hp⟩ := hp
    rw [e9] at hW
    rcases hp with ⟨rfl, h5⟩ | ⟨rfl, h5⟩
    · have h6 := h5
      have r7 : 0 ≤ (I 0 1).toInt ∧ (I 0 1).toInt ≤ 30 := hma.2.1
      refine lv_if_eq (tgt := 37) hx hb dX12_pour_13 (by decide) (fun c8 => absurd c8 (by decide)) (fun c8 => ?_)
      refine lv_iload_n hx hb dX12_pour_16 rfl (lv_at hl 3 rfl) ?_
      refine lv_iconst (v := 0) hx hb dX12_pour_17 (by decide) ?_
      refine lv_ldcw (v := 99999) hx hb hown (hts (.constant RX12 467 (99999)) (me_s (me_l (me_l (List.mem_of_getElem? (i := 0) rfl))))) dX12_pour_18 ?_
      refine z_ci hW hS hA (va_runS (As := [.int a3, .int 0, .int 99999]) (rest := []) ⟨hx, hb, hml, hown, hts⟩ (sx_X12_within_e l G ad I J  a3 0 99999 _) (va_cwS 3 hts gX12_pour_X12_within rfl rfl rfl (by decide +kernel) ⟨Nat.le_of_ble_eq_true rfl, Nat.le_of_ble_eq_true rfl⟩) (z_preS hK hW) rfl rfl hl.1 rfl (lv_room (Nat.le_of_ble_eq_true rfl)) dX12_pour_21 ⟨Nat.le_of_ble_eq_true rfl, Nat.le_of_ble_eq_true rfl⟩) (fun r u1 H locs hp hW hS => ?_)
      obtain ⟨e9, hp⟩ := hp
      rw [e9] at hW
      rcases hp with ⟨rfl, h9⟩ | ⟨rfl, h9⟩
      · have h11 := h9
        have z12 := z_l0
        have z13 := z_l99999
        refine lv_if_eq (tgt := 37) hx hb dX12_pour_24 (by decide) (fun c14 => absurd c14 (by decide)) (fun c14 => ?_)
        refine lv_aload_n hx hb dX12_pour_27 rfl (lv_at hl 0 rfl) ?_
        have r15 : 0 ≤ (I 0 55).toInt ∧ (I 0 55).toInt ≤ 300 := hms.2
        refine z_get (T := TX12) (N := 96) (ci := 12) (i := 0) (v := .int (I 0 55)) hx hb hts zj_X12_pour_X12 hown hK hW rfl rfl 55 (by decide) (hts (.fieldLink RX12 468 "PetrolBoardModel" "pours" "I") (me_s (me_l (me_l (List.mem_of_getElem? (i := 1) rfl))))) (fun _ h => h) rfl dX12_pour_28 ?_
        refine lv_sipush (v := 300) hx hb dX12_pour_31 (by decide) ?_
        refine lv_icmp_ne (tgt := 39) hx hb dX12_pour_34 (by decide) (fun c16 => ?_) (fun c16 => ?_)
        · have g17 := z_f_ne rfl z_l300 c16
          refine lv_aload_n hx hb dX12_pour_39 rfl (lv_at hl 0 rfl) ?_
          refine z_get (T := TX12) (N := 96) (ci := 12) (i := 0) (v := .ref (ad 34)) hx hb hts zj_X12_pour_X12 hown hK hW rfl rfl 57 (by decide) (hts (.fieldLink RX12 118 "PetrolBoardModel" "pourAt" "[I") (me_s (me_l (me_l (List.mem_of_getElem? (i := 2) rfl))))) (fun _ h => h) rfl dX12_pour_40 ?_
          refine lv_aload_n hx hb dX12_pour_43 rfl (lv_at hl 0 rfl) ?_
          refine z_get (T := TX12) (N := 96) (ci := 12) (i := 0) (v := .int (I 0 55)) hx hb hts zj_X12_pour_X12 hown hK hW rfl rfl 55 (by decide) (hts (.fieldLink RX12 468 "PetrolBoardModel" "pours" "I") (me_s (me_l (me_l (List.mem_of_getElem? (i := 1) rfl))))) (fun _ h => h) rfl dX12_pour_44 ?_
          refine lv_iload_n hx hb dX12_pour_47 rfl (lv_at hl 1 rfl) ?_
          refine z_iast (i := 34) hx hb hK hW hS rfl (z_ix rfl (by omega) (by omega)) dX12_pour_48 (fun H locs hz1 hW hS => ?_)
          obtain ⟨I18, eI18⟩ : ∃ K : z_I, K = z_up I 34 (I 0 55).toNatClampNeg a1 := ⟨_, rfl⟩
          rw [← eI18] at hW
          have f19 := z_fr_a z_fr_0 (show z_wa L_X12_pour_p 34 = true by decide) eI18
          have a20 := z_rg_n hApc (by decide) eI18
          have a21 := z_rg_n hAtf (by decide) eI18
          have a22 := z_rg_n hAtm (by decide) eI18
          refine lv_aload_n hx hb dX12_pour_49 rfl (lv_at hl 0 rfl) ?_
          refine z_get (T := TX12) (N := 96) (ci := 12) (i := 0) (v := .ref (ad 35)) hx hb hts zj_X12_pour_X12 hown hK hW rfl rfl 58 (by decide) (hts (.fieldLink RX12 121 "PetrolBoardModel" "pourWho" "[I") (me_s (me_l (me_l (List.mem_of_getElem? (i := 3) rfl))))) (fun _ h => h) rfl dX12_pour_50 ?_
          refine lv_aload_n hx hb dX12_pour_53 rfl (lv_at hl 0 rfl) ?_
          refine z_get (T := TX12) (N := 96) (ci := 12) (i := 0) (v := .int (I 0 55)) hx hb hts zj_X12_pour_X12 hown hK hW rfl rfl 55 (by decide) (hts (.fieldLink RX12 468 "PetrolBoardModel" "pours" "I") (me_s (me_l (me_l (List.mem_of_getElem? (i := 1) rfl))))) (fun _ h => h) (congrArg Value.int (by rw [eI18, z_up_n (by decide)])) dX12_pour_54 ?_
          refine lv_iload_n hx hb dX12_pour_57 rfl (lv_at hl 2 rfl) ?_
          refine z_iast (i := 35) hx hb hK hW hS rfl (z_ix rfl (by omega) (by omega)) dX12_pour_58 (fun H locs hz1 hW hS => ?_)
          obtain ⟨I23, eI23⟩ : ∃ K : z_I, K = z_up I18 35 (I 0 55).toNatClampNeg a2 := ⟨_, rfl⟩
          rw [← eI23] at hW
          have f24 := z_fr_a f19 (show z_wa L_X12_pour_p 35 = true by decide) eI23
          have a25 := z_rg_n a20 (by decide) eI23
          have a26 := z_rg_n a21 (by decide) eI23
          have a27 := z_rg_n a22 (by decide) eI23
          refine lv_aload_n hx hb dX12_pour_59 rfl (lv_at hl 0 rfl) ?_
          refine z_get (T := TX12) (N := 96) (ci := 12) (i := 0) (v := .ref (ad 36)) hx hb hts zj_X12_pour_X12 hown hK hW rfl rfl 59 (by decide) (hts (.fieldLink RX12 124 "PetrolBoardModel" "pourCoupon" "[I") (me_s (me_l (me_l (List.mem_of_getElem? (i := 4) rfl))))) (fun _ h => h) rfl dX12_pour_60 ?_
          refine lv_aload_n hx hb dX12_pour_63 rfl (lv_at hl 0 rfl) ?_
          refine z_get (T := TX12) (N := 96) (ci := 12) (i := 0) (v := .int (I 0 55)) hx hb hts zj_X12_pour_X12 hown hK hW rfl rfl 55 (by decide) (hts (.fieldLink RX12 468 "PetrolBoardModel" "pours" "I") (me_s (me_l (me_l (List.mem_of_getElem? (i := 1) rfl))))) (fun _ h => h) (congrArg Value.int (by rw [eI23, z_up_n (by decide), eI18, z_up_n (by decide)])) dX12_pour_64 ?_
          refine lv_iload_n hx hb dX12_pour_67 rfl (lv_at hl 3 rfl) ?_
          refine z_iast (i := 36) hx hb hK hW hS rfl (z_ix rfl (by omega) (by omega)) dX12_pour_68 (fun H locs hz1 hW hS => ?_)
          obtain ⟨I28, eI28⟩ : ∃ K : z_I, K = z_up I23 36 (I 0 55).toNatClampNeg a3 := ⟨_, rfl⟩
          rw [← eI28] at hW
          have f29 := z_fr_a f24 (show z_wa L_X12_pour_p 36 = true by decide) eI28
          have a30 := z_rg_a a25 (by omega) eI28
          have a31 := z_rg_n a26 (by decide) eI28
          have a32 := z_rg_n a27 (by decide) eI28
          refine lv_aload_n hx hb dX12_pour_69 rfl (lv_at hl 0 rfl) ?_
          refine z_get (T := TX12) (N := 96) (ci := 12) (i := 0) (v := .ref (ad 37)) hx hb hts zj_X12_pour_X12 hown hK hW rfl rfl 60 (by decide) (hts (.fieldLink RX12 127 "PetrolBoardModel" "pourDay" "[I") (me_s (me_l (me_l (List.mem_of_getElem? (i := 5) rfl))))) (fun _ h => h) rfl dX12_pour_70 ?_
          refine lv_aload_n hx hb dX12_pour_73 rfl (lv_at hl 0 rfl) ?_
          refine z_get (T := TX12) (N := 96) (ci := 12) (i := 0) (v := .int (I 0 55)) hx hb hts zj_X12_pour_X12 hown hK hW rfl rfl 55 (by decide) (hts (.fieldLink RX12 468 "PetrolBoardModel" "pours" "I") (me_s (me_l (me_l (List.mem_of_getElem? (i := 1) rfl))))) (fun _ h => h) (congrArg Value.int (by rw [eI28, z_up_n (by decide), eI23, z_up_n (by decide), eI18, z_up_n (by decide)])) dX12_pour_74 ?_
          refine lv_aload_n hx hb dX12_pour_77 rfl (lv_at hl 0 rfl) ?_
          have r33 : 0 ≤ (I 0 0).toInt ∧ (I 0 0).toInt ≤ 719 := hma.1
          refine z_get (T := TX12) (N := 96) (ci := 12) (i := 0) (v := .int (I 0 0)) hx hb hts zj_X12_pour_X12 hown hK hW rfl rfl 0 (by decide) (hts (.fieldLink RX12 232 "PetrolBoardModel" "today" "I") (me_s (me_l (me_l (List.mem_of_getElem? (i := 6) rfl))))) (fun _ h => h) (congrArg Value.int (by rw [eI28, z_up_n (by decide), eI23, z_up_n (by decide), eI18, z_up_n (by decide)])) dX12_pour_78 ?_
          refine z_iast (i := 37) hx hb hK hW hS rfl (z_ix rfl (by omega) (by omega)) dX12_pour_81 (fun H locs hz1 hW hS => ?_)
          obtain ⟨I34, eI34⟩ : ∃ K : z_I, K = z_up I28 37 (I 0 55).toNatClampNeg (I 0 0) := ⟨_, rfl⟩
          rw [← eI34] at hW
          have f35 := z_fr_a f29 (show z_wa L_X12_pour_p 37 = true by decide) eI34
          have a36 := z_rg_n a30 (by decide) eI34
          have a37 := z_rg_n a31 (by decide) eI34
          have a38 := z_rg_n a32 (by decide) eI34
          refine lv_aload_n hx hb dX12_pour_82 rfl (lv_at hl 0 rfl) ?_
          refine z_get (T := TX12) (N := 96) (ci := 12) (i := 0) (v := .ref (ad 38)) hx hb hts zj_X12_pour_X12 hown hK hW rfl rfl 61 (by decide) (hts (.fieldLink RX12 130 "PetrolBoardModel" "pourTenths" "[I") (me_s (me_l (me_l (List.mem_of_getElem? (i := 7) rfl))))) (fun _ h => h) rfl dX12_pour_83 ?_
          refine lv_aload_n hx hb dX12_pour_86 rfl (lv_at hl 0 rfl) ?_
          refine z_get (T := TX12) (N := 96) (ci := 12) (i := 0) (v := .int (I 0 55)) hx hb hts zj_X12_pour_X12 hown hK hW rfl rfl 55 (by decide) (hts (.fieldLink RX12 468 "PetrolBoardModel" "pours" "I") (me_s (me_l (me_l (List.mem_of_getElem? (i := 1) rfl))))) (fun _ h => h) (congrArg Value.int (by rw [eI34, z_up_n (by decide), eI28, z_up_n (by decide), eI23, z_up_n (by decide), eI18, z_up_n (by decide)])) dX12_pour_87 ?_
          refine lv_aload_n hx hb dX12_pour_90 rfl (lv_at hl 0 rfl) ?_
          refine lv_aload_n hx hb dX12_pour_91 rfl (lv_at hl 0 rfl) ?_
          refine z_get (T := TX12) (N := 96) (ci := 12) (i := 0) (v := .int (I 0 0)) hx hb hts zj_X12_pour_X12 hown hK hW rfl rfl 0 (by decide) (hts (.fieldLink RX12 232 "PetrolBoardModel" "today" "I") (me_s (me_l (me_l (List.mem_of_getElem? (i := 6) rfl))))) (fun _ h => h) (congrArg Value.int (by rw [eI34, z_up_n (by decide), eI28, z_up_n (by decide), eI23, z_up_n (by decide), eI18, z_up_n (by decide)])) dX12_pour_92 ?_
          refine lv_bipush (v := 30) hx hb dX12_pour_95 (by decide) ?_
          refine lv_idiv hx hb dX12_pour_97 (by decide) ?_
          refine lv_topi (fun x39 ex39 => ?_)
          have tx39 := z_tdiv ex39 rfl z_l30 (by decide)
          refine lv_aload_n hx hb dX12_pour_98 rfl (lv_at hl 0 rfl) ?_
          refine z_get (T := TX12) (N := 96) (ci := 12) (i := 0) (v := .int (I 0 0)) hx hb hts zj_X12_pour_X12 hown hK hW rfl rfl 0 (by decide) (hts (.fieldLink RX12 232 "PetrolBoardModel" "today" "I") (me_s (me_l (me_l (List.mem_of_getElem? (i := 6) rfl))))) (fun _ h => h) (congrArg Value.int (by rw [eI34, z_up_n (by decide), eI28, z_up_n (by decide), eI23, z_up_n (by decide), eI18, z_up_n (by decide)])) dX12_pour_99 ?_
          refine lv_iconst (v := 3) hx hb dX12_pour_102 (by decide) ?_
          refine z_ci hW hS hA (va_runV (As := [.int x39, .int (I 0 0), .int 3]) (rest := [.int (I 0 55), .ref (ad 38)]) ⟨hx, hb, hml, hown, hts⟩ (sx_X12_number_x l G ad I34 J ⟨(by show 0 ≤ (I34 0 13).toInt ∧ (I34 0 13).toInt ≤ 12; rw [eI34, z_up_n (by decide), eI28, z_up_n (by decide), eI23, z_up_n (by decide), eI18, z_up_n (by decide)]; exact hmb.1), (by show 0 ≤ (I34 0 14).toInt ∧ (I34 0 14).toInt ≤ 288; rw [eI34, z_up_n (by decide), eI28, z_up_n (by decide), eI23, z_up_n (by decide), eI18, z_up_n (by decide)]; exact hmb.2)⟩ a37 a38 x39 (I 0 0) 3 (by decide) _) (cwV 3 hts gX12_pour_X12_number rfl rfl rfl (by decide +kernel) ⟨Nat.le_of_ble_eq_true rfl, Nat.le_of_ble_eq_true rfl⟩) (z_preV (i := 0) hK hW rfl rfl) rfl rfl hl.1 rfl (lv_room (Nat.le_of_ble_eq_true rfl)) dX12_pour_103 ⟨Nat.le_of_ble_eq_true rfl, Nat.le_of_ble_eq_true rfl⟩) (fun r u1 H locs hp hW hS => ?_)
          obtain ⟨e9, hp⟩ := hp
          rw [e9] at hW
          refine lv_topi (fun x40 ex40 => ?_)
          rw [← ex40, show (3 : Int32).toInt - 3 = 0 by decide] at hp
          have hM41 : x40.toInt = zb_am I34 0 x39.toInt (I 0 0).toInt := zb_f_e hp
          refine z_iast (i := 38) hx hb hK hW hS rfl (z_ix rfl (by omega) (by omega)) dX12_pour_106 (fun H locs hz1 hW hS => ?_)
          obtain ⟨I42, eI42⟩ : ∃ K : z_I, K = z_up I34 38 (I 0 55).toNatClampNeg x40 := ⟨_, rfl⟩
          rw [← eI42] at hW
          have f43 := z_fr_a f35 (show z_wa L_X12_pour_p 38 = true by decide) eI42
          have a44 := z_rg_n a36 (by decide) eI42
          have a45 := z_rg_n a37 (by decide) eI42
          have a46 := z_rg_n a38 (by decide) eI42
          refine lv_aload_n hx hb dX12_pour_107 rfl (lv_at hl 0 rfl) ?_
          refine z_get (T := TX12) (N := 96) (ci := 12) (i := 0) (v := .ref (ad 39)) hx hb hts zj_X12_pour_X12 hown hK hW rfl rfl 62 (by decide) (hts (.fieldLink RX12 133 "PetrolBoardModel" "pourOwner" "[I") (me_s (me_l (me_l (List.mem_of_getElem? (i := 8) rfl))))) (fun _ h => h) rfl dX12_pour_108 ?_
          refine lv_aload_n hx hb dX12_pour_111 rfl (lv_at hl 0 rfl) ?_
          refine z_get (T := TX12) (N := 96) (ci := 12) (i := 0) (v := .int (I 0 55)) hx hb hts zj_X12_pour_X12 hown hK hW rfl rfl 55 (by decide) (hts (.fieldLink RX12 468 "PetrolBoardModel" "pours" "I") (me_s (me_l (me_l (List.mem_of_getElem? (i := 1) rfl))))) (fun _ h => h) (congrArg Value.int (by rw [eI42, z_up_n (by decide), eI34, z_up_n (by decide), eI28, z_up_n (by decide), eI23, z_up_n (by decide), eI18, z_up_n (by decide)])) dX12_pour_112 ?_
          refine lv_aload_n hx hb dX12_pour_115 rfl (lv_at hl 0 rfl) ?_
          refine lv_iload_n hx hb dX12_pour_116 rfl (lv_at hl 3 rfl) ?_
          refine z_ci hW hS hA (va_runV (As := [.int a3]) (rest := [.int (I 0 55), .ref (ad 39)]) ⟨hx, hb, hml, hown, hts⟩ (sx_X12_isCoupon_c l G ad I42 J a3 (fun b hb => by rw [f43 31 b (z_wr_c (by decide))]; exact hIs b hb) _) (cwV 1 hts gX12_pour_X12_isCoupon rfl rfl rfl (by decide +kernel) ⟨Nat.le_of_ble_eq_true rfl, Nat.le_of_ble_eq_true rfl⟩) (z_preV (i := 0) hK hW rfl rfl) rfl rfl hl.1 rfl (lv_room (Nat.le_of_ble_eq_true rfl)) dX12_pour_117 ⟨Nat.le_of_ble_eq_true rfl, Nat.le_of_ble_eq_true rfl⟩) (fun r u1 H locs hp hW hS => ?_)
          obtain ⟨e9, hp⟩ := hp
          rw [e9] at hW
          rcases hp with ⟨rfl, hb47⟩ | ⟨rfl, hb47⟩
          · refine lv_if_eq (tgt := 131) hx hb dX12_pour_120 (by decide) (fun c48 => absurd c48 (by decide)) (fun c48 => ?_)
            refine lv_aload_n hx hb dX12_pour_123 rfl (lv_at hl 0 rfl) ?_
            refine lv_iload_n hx hb dX12_pour_124 rfl (lv_at hl 3 rfl) ?_
            refine z_ci hW hS hA (va_runV (As := [.int a3]) (rest := [.int (I 0 55), .ref (ad 39)]) ⟨hx, hb, hml, hown, hts⟩ (sx_X12_heldBy_c l G ad I42 J  a3 (by have q := hb47; unfold zb_hm at q; omega) _) (cwV 1 hts gX12_pour_X12_heldBy rfl rfl rfl (by decide +kernel) ⟨Nat.le_of_ble_eq_true rfl, Nat.le_of_ble_eq_true rfl⟩) (z_preV (i := 0) hK hW rfl rfl) rfl rfl hl.1 rfl (lv_room (Nat.le_of_ble_eq_true rfl)) dX12_pour_125 ⟨Nat.le_of_ble_eq_true rfl, Nat.le_of_ble_eq_true rfl⟩) (fun r u1 H locs hp hW hS => ?_)
            obtain ⟨e9, hp⟩ := hp
            rw [e9] at hW
            refine lv_topi (fun x49 ex49 => ?_)
            rw [← ex49] at hp
            have hP50 := hp
            refine lv_goto (tgt := 132) hx hb dX12_pour_128 (by decide) ?_
            refine z_iast (i := 39) hx hb hK hW hS rfl (z_ix rfl (by omega) (by omega)) dX12_pour_132 (fun H locs hz1 hW hS => ?_)
            obtain ⟨I51, eI51⟩ : ∃ K : z_I, K = z_up I42 39 (I 0 55).toNatClampNeg x49 := ⟨_, rfl⟩
            rw [← eI51] at hW
            have f52 := z_fr_a f43 (show z_wa L_X12_pour_p 39 = true by decide) eI51
            have a53 := z_rg_n a44 (by decide) eI51
            have a54 := z_rg_n a45 (by decide) eI51
            have a55 := z_rg_n a46 (by decide) eI51
            refine lv_aload_n hx hb dX12_pour_133 rfl (lv_at hl 0 rfl) ?_
            refine z_get (T := TX12) (N := 96) (ci := 12) (i := 0) (v := .ref (ad 40)) hx hb hts zj_X12_pour_X12 hown hK hW rfl rfl 63 (by decide) (hts (.fieldLink RX12 136 "PetrolBoardModel" "pourJudged" "[I") (me_s (me_l (me_l (List.mem_of_getElem? (i := 9) rfl))))) (fun _ h => h) rfl dX12_pour_134 ?_
            refine lv_aload_n hx hb dX12_pour_137 rfl (lv_at hl 0 rfl) ?_
            refine z_get (T := TX12) (N := 96) (ci := 12) (i := 0) (v := .int (I 0 55)) hx hb hts zj_X12_pour_X12 hown hK hW rfl rfl 55 (by decide) (hts (.fieldLink RX12 468 "PetrolBoardModel" "pours" "I") (me_s (me_l (me_l (List.mem_of_getElem? (i := 1) rfl))))) (fun _ h => h) (congrArg Value.int (by rw [eI51, z_up_n (by decide), eI42, z_up_n (by decide), eI34, z_up_n (by decide), eI28, z_up_n (by decide), eI23, z_up_n (by decide), eI18, z_up_n (by decide)])) dX12_pour_138 ?_
            refine lv_iconst (v := (-1)) hx hb dX12_pour_141 (by decide) ?_
            refine z_iast (i := 40) hx hb hK hW hS rfl (z_ix rfl (by omega) (by omega)) dX12_pour_142 (fun H locs hz1 hW hS => ?_)
            obtain ⟨I56, eI56⟩ : ∃ K : z_I, K = z_up I51 40 (I 0 55).toNatClampNeg (-1) := ⟨_, rfl⟩
            rw [← eI56] at hW
            have f57 := z_fr_a f52 (show z_wa L_X12_pour_p 40 = true by decide) eI56
            have a58 := z_rg_n a53 (by decide) eI56
            have a59 := z_rg_n a54 (by decide) eI56
            have a60 := z_rg_n a55 (by decide) eI56
            refine lv_aload_n hx hb dX12_pour_143 rfl (lv_at hl 0 rfl) ?_
            refine z_get (T := TX12) (N := 96) (ci := 12) (i := 0) (v := .ref (ad 42)) hx hb hts zj_X12_pour_X12 hown hK hW rfl rfl 65 (by decide) (hts (.fieldLink RX12 142 "PetrolBoardModel" "pourDyed" "[Z") (me_s (me_l (me_l (List.mem_of_getElem? (i := 10) rfl))))) (fun _ h => h) rfl dX12_pour_144 ?_
            refine lv_aload_n hx hb dX12_pour_147 rfl (lv_at hl 0 rfl) ?_
            refine z_get (T := TX12) (N := 96) (ci := 12) (i := 0) (v := .int (I 0 55)) hx hb hts zj_X12_pour_X12 hown hK hW rfl rfl 55 (by decide) (hts (.fieldLink RX12 468 "PetrolBoardModel" "pours" "I") (me_s (me_l (me_l (List.mem_of_getElem? (i := 1) rfl))))) (fun _ h => h) (congrArg Value.int (by rw [eI56, z_up_n (by decide), eI51, z_up_n (by decide), eI42, z_up_n (by decide), eI34, z_up_n (by decide), eI28, z_up_n (by decide), eI23, z_up_n (by decide), eI18, z_up_n (by decide)])) dX12_pour_148 ?_
            refine lv_aload_n hx hb dX12_pour_151 rfl (lv_at hl 0 rfl) ?_
            refine lv_iload_n hx hb dX12_pour_152 rfl (lv_at hl 2 rfl) ?_
            refine lv_aload_n hx hb dX12_pour_153 rfl (lv_at hl 0 rfl) ?_
            refine z_get (T := TX12) (N := 96) (ci := 12) (i := 0) (v := .int (I 0 0)) hx hb hts zj_X12_pour_X12 hown hK hW rfl rfl 0 (by decide) (hts (.fieldLink RX12 232 "PetrolBoardModel" "today" "I") (me_s (me_l (me_l (List.mem_of_getElem? (i := 6) rfl))))) (fun _ h => h) (congrArg Value.int (by rw [eI56, z_up_n (by decide), eI51, z_up_n (by decide), eI42, z_up_n (by decide), eI34, z_up_n (by decide), eI28, z_up_n (by decide), eI23, z_up_n (by decide), eI18, z_up_n (by decide)])) dX12_pour_154 ?_
            refine lv_aload_n hx hb dX12_pour_157 rfl (lv_at hl 0 rfl) ?_
            refine z_get (T := TX12) (N := 96) (ci := 12) (i := 0) (v := .int (I 0 0)) hx hb hts zj_X12_pour_X12 hown hK hW rfl rfl 0 (by decide) (hts (.fieldLink RX12 232 "PetrolBoardModel" "today" "I") (me_s (me_l (me_l (List.mem_of_getElem? (i := 6) rfl))))) (fun _ h => h) (congrArg Value.int (by rw [eI56, z_up_n (by decide), eI51, z_up_n (by decide), eI42, z_up_n (by decide), eI34, z_up_n (by decide), eI28, z_up_n (by decide), eI23, z_up_n (by decide), eI18, z_up_n (by decide)])) dX12_pour_158 ?_
            refine z_ci hW hS hA (va_runV (As := [.int a2, .int (I 0 0), .int (I 0 0)]) (rest := [.int (I 0 55), .ref (ad 42)]) ⟨hx, hb, hml, hown, hts⟩ (sx_X12_kindOn_r l G ad I56 J ⟨(by show 0 ≤ (I56 0 0).toInt ∧ (I56 0 0).toInt ≤ 719; rw [eI56, z_up_n (by decide), eI51, z_up_n (by decide), eI42, z_up_n (by decide), eI34, z_up_n (by decide), eI28, z_up_n (by decide), eI23, z_up_n (by decide), eI18, z_up_n (by decide)]; exact hma.1), (by show 0 ≤ (I56 0 1).toInt ∧ (I56 0 1).toInt ≤ 30; rw [eI56, z_up_n (by decide), eI51, z_up_n (by decide), eI42, z_up_n (by decide), eI34, z_up_n (by decide), eI28, z_up_n (by decide), eI23, z_up_n (by decide), eI18, z_up_n (by decide)]; exact hma.2.1), (by show 0 ≤ (I56 0 2).toInt ∧ (I56 0 2).toInt ≤ 200; rw [eI56, z_up_n (by decide), eI51, z_up_n (by decide), eI42, z_up_n (by decide), eI34, z_up_n (by decide), eI28, z_up_n (by decide), eI23, z_up_n (by decide), eI18, z_up_n (by decide)]; exact hma.2.2)⟩ a2 (I 0 0) (I 0 0) _) (cwV 3 hts gX12_pour_X12_kindOn rfl rfl rfl (by decide +kernel) ⟨Nat.le_of_ble_eq_true rfl, Nat.le_of_ble_eq_true rfl⟩) (z_preV (i := 0) hK hW rfl rfl) rfl rfl hl.1 rfl (lv_room (Nat.le_of_ble_eq_true rfl)) dX12_pour_161 ⟨Nat.le_of_ble_eq_true rfl, Nat.le_of_ble_eq_true rfl⟩) (fun r u1 H locs hp hW hS => ?_)
            obtain ⟨e9, hp⟩ := hp
            rw [e9] at hW
            refine lv_topi (fun x61 ex61 => ?_)
            have h62 := hp
            rw [← ex61] at h62
            refine lv_iconst (v := 2) hx hb dX12_pour_164 (by decide) ?_
            refine lv_icmp_ne (tgt := 172) hx hb dX12_pour_165 (by decide) (fun c63 => ?_) (fun c63 => ?_)
            · have g64 := z_f_ne rfl z_l2 c63
              have b65 := Int32.toInt_lt x61
              refine lv_iconst (v := 0) hx hb dX12_pour_172 (by decide) ?_
              refine z_zast (i := 42) hx hb hK hW hS rfl (z_ix rfl (by omega) (by omega)) dX12_pour_173 (fun H locs hz1 hW hS => ?_)
              obtain ⟨I66, eI66⟩ : ∃ K : z_I, K = z_up I56 42 (I 0 55).toNatClampNeg (vp_nar .boolean 0) := ⟨_, rfl⟩
              rw [← eI66] at hW
              have f67 := z_fr_a f57 (show z_wa L_X12_pour_p 42 = true by decide) eI66
              have a68 := z_rg_n a58 (by decide) eI66
              have a69 := z_rg_n a59 (by decide) eI66
              have a70 := z_rg_n a60 (by decide) eI66
              refine lv_aload_n hx hb dX12_pour_174 rfl (lv_at hl 0 rfl) ?_
              refine z_get (T := TX12) (N := 96) (ci := 12) (i := 0) (v := .ref (ad 41)) hx hb hts zj_X12_pour_X12 hown hK hW rfl rfl 64 (by decide) (hts (.fieldLink RX12 139 "PetrolBoardModel" "pourCome" "[I") (me_s (me_l (me_l (List.mem_of_getElem? (i := 11) rfl))))) (fun _ h => h) rfl dX12_pour_175 ?_
              refine lv_aload_n hx hb dX12_pour_178 rfl (lv_at hl 0 rfl) ?_
              refine z_get (T := TX12) (N := 96) (ci := 12) (i := 0) (v := .int (I 0 55)) hx hb hts zj_X12_pour_X12 hown hK hW rfl rfl 55 (by decide) (hts (.fieldLink RX12 468 "PetrolBoardModel" "pours" "I") (me_s (me_l (me_l (List.mem_of_getElem? (i := 1) rfl))))) (fun _ h => h) (congrArg Value.int (by rw [eI66, z_up_n (by decide), eI56, z_up_n (by decide), eI51, z_up_n (by decide), eI42, z_up_n (by decide), eI34, z_up_n (by decide), eI28, z_up_n (by decide), eI23, z_up_n (by decide), eI18, z_up_n (by decide)])) dX12_pour_179 ?_
              refine lv_aload_n hx hb dX12_pour_182 rfl (lv_at hl 0 rfl) ?_
              refine z_get (T := TX12) (N := 96) (ci := 12) (i := 0) (v := .int (I 0 56)) hx hb hts zj_X12_pour_X12 hown hK hW rfl rfl 56 (by decide) (hts (.fieldLink RX12 471 "PetrolBoardModel" "comes" "I") (me_s (me_l (me_l (List.mem_of_getElem? (i := 12) rfl))))) (fun _ h => h) (congrArg Value.int (by rw [eI66, z_up_n (by decide), eI56, z_up_n (by decide), eI51, z_up_n (by decide), eI42, z_up_n (by decide), eI34, z_up_n (by decide), eI28, z_up_n (by decide), eI23, z_up_n (by decide), eI18, z_up_n (by decide)])) dX12_pour_183 ?_
              refine z_iast (i := 41) hx hb hK hW hS rfl (z_ix rfl (by omega) (by omega)) dX12_pour_186 (fun H locs hz1 hW hS => ?_)
              obtain ⟨I71, eI71⟩ : ∃ K : z_I, K = z_up I66 41 (I 0 55).toNatClampNeg (I 0 56) := ⟨_, rfl⟩
              rw [← eI71] at hW
              have f72 := z_fr_a f67 (show z_wa L_X12_pour_p 41 = true by decide) eI71
              have a73 := z_rg_n a68 (by decide) eI71
              have a74 := z_rg_n a69 (by decide) eI71
              have a75 := z_rg_n a70 (by decide) eI71
              refine lv_aload_n hx hb dX12_pour_187 rfl (lv_at hl 0 rfl) ?_
              refine lv_dup hx hb dX12_pour_188 rfl ?_
              refine z_get (T := TX12) (N := 96) (ci := 12) (i := 0) (v := .int (I 0 56)) hx hb hts zj_X12_pour_X12 hown hK hW rfl rfl 56 (by decide) (hts (.fieldLink RX12 471 "PetrolBoardModel" "comes" "I") (me_s (me_l (me_l (List.mem_of_getElem? (i := 12) rfl))))) (fun _ h => h) (congrArg Value.int (by rw [eI71, z_up_n (by decide), eI66, z_up_n (by decide), eI56, z_up_n (by decide), eI51, z_up_n (by decide), eI42, z_up_n (by decide), eI34, z_up_n (by decide), eI28, z_up_n (by decide), eI23, z_up_n (by decide), eI18, z_up_n (by decide)])) dX12_pour_189 ?_
              refine lv_iconst (v := 1) hx hb dX12_pour_192 (by decide) ?_
              refine lv_iadd hx hb dX12_pour_193 ?_
              refine lv_topi (fun x76 ex76 => ?_)
              refine z_put (T := TX12) (N := 96) (ci := 12) (i := 0) (v := .int x76) (I1 := z_up I71 0 56 x76) (J1 := J) (P1 := PM ad) hx hb hts zj_X12_pour_X12 tyX12 tyX12_ok nmX12 hown hK hW hS rfl rfl 56 (by decide) (hts (.fieldLink RX12 471 "PetrolBoardModel" "comes" "I") (me_s (me_l (me_l (List.mem_of_getElem? (i := 12) rfl))))) (fun _ h => h) rfl rfl rfl (by first | rfl | exact congrArg _ z_up_s) (fun a b h ty => z_vI h ty) dX12_pour_194 (fun H locs hz1 hW hS => ?_)
              obtain ⟨I77, eI77⟩ : ∃ K : z_I, K = z_up I71 0 56 x76 := ⟨_, rfl⟩
              rw [← eI77] at hW
              have f78 := z_fr_k f72 (show z_wr L_X12_pour_p 0 56 = true by decide) eI77
              have a79 := z_rg_n a73 (by decide) eI77
              have a80 := z_rg_n a74 (by decide) eI77
              have a81 := z_rg_n a75 (by decide) eI77
              refine lv_aload_n hx hb dX12_pour_197 rfl (lv_at hl 0 rfl) ?_
              refine lv_dup hx hb dX12_pour_198 rfl ?_
              refine z_get (T := TX12) (N := 96) (ci := 12) (i := 0) (v := .int (I 0 55)) hx hb hts zj_X12_pour_X12 hown hK hW rfl rfl 55 (by decide) (hts (.fieldLink RX12 468 "PetrolBoardModel" "pours" "I") (me_s (me_l (me_l (List.mem_of_getElem? (i := 1) rfl))))) (fun _ h => h) (congrArg Value.int (by rw [eI77, z_up_k (by decide), eI71, z_up_n (by decide), eI66, z_up_n (by decide), eI56, z_up_n (by decide), eI51, z_up_n (by decide), eI42, z_up_n (by decide), eI34, z_up_n (by decide), eI28, z_up_n (by decide), eI23, z_up_n (by decide), eI18, z_up_n (by decide)])) dX12_pour_199 ?_
              refine lv_iconst (v := 1) hx hb dX12_pour_202 (by decide) ?_
              refine lv_iadd hx hb dX12_pour_203 ?_
              refine lv_topi (fun x82 ex82 => ?_)
              have tx82 : x82.toInt = (I 0 55).toInt + 1 := z_tadd ex82 rfl z_l1 (by omega) (by omega)
              refine z_put (T := TX12) (N := 96) (ci := 12) (i := 0) (v := .int x82) (I1 := z_up I77 0 55 x82) (J1 := J) (P1 := PM ad) hx hb hts zj_X12_pour_X12 tyX12 tyX12_ok nmX12 hown hK hW hS rfl rfl 55 (by decide) (hts (.fieldLink RX12 468 "PetrolBoardModel" "pours" "I") (me_s (me_l (me_l (List.mem_of_getElem? (i := 1) rfl))))) (fun _ h => h) rfl rfl rfl (by first | rfl | exact congrArg _ z_up_s) (fun a b h ty => z_vI h ty) dX12_pour_204 (fun H locs hz1 hW hS => ?_)
              obtain ⟨I83, eI83⟩ : ∃ K : z_I, K = z_up I77 0 55 x82 := ⟨_, rfl⟩
              rw [← eI83] at hW
              have f84 := z_fr_k f78 (show z_wr L_X12_pour_p 0 55 = true by decide) eI83
              have a85 := z_rg_n a79 (by decide) eI83
              have a86 := z_rg_n a80 (by decide) eI83
              have a87 := z_rg_n a81 (by decide) eI83
              refine lv_aload_n hx hb dX12_pour_207 rfl (lv_at hl 0 rfl) ?_
              refine z_get (T := TX12) (N := 96) (ci := 12) (i := 0) (v := .int x82) hx hb hts zj_X12_pour_X12 hown hK hW rfl rfl 55 (by decide) (hts (.fieldLink RX12 468 "PetrolBoardModel" "pours" "I") (me_s (me_l (me_l (List.mem_of_getElem? (i := 1) rfl))))) (fun _ h => h) (congrArg Value.int (by rw [eI83, z_up_s])) dX12_pour_208 ?_
              refine lv_iconst (v := 1) hx hb dX12_pour_211 (by decide) ?_
              refine lv_isub hx hb dX12_pour_212 ?_
              refine lv_topi (fun x88 ex88 => ?_)
              have tx88 : x88.toInt = x82.toInt - 1 := z_tsub ex88 rfl z_l1 (by omega) (by omega)
              exact z_iret hx hb hr hK hS (Nat.le_of_ble_eq_true rfl) (Nat.le_of_ble_eq_true rfl) hlocks dX12_pour_213 (shM, ad, I83, J, PM ad) hW ⟨I83, J, rfl, ⟨(by show 0 ≤ (I83 0 0).toInt ∧ (I83 0 0).toInt ≤ 719; rw [eI83, z_up_k (by decide), eI77, z_up_k (by decide), eI71, z_up_n (by decide), eI66, z_up_n (by decide), eI56, z_up_n (by decide), eI51, z_up_n (by decide), eI42, z_up_n (by decide), eI34, z_up_n (by decide), eI28, z_up_n (by decide), eI23, z_up_n (by decide), eI18, z_up_n (by decide)]; exact hma.1), (by show 0 ≤ (I83 0 1).toInt ∧ (I83 0 1).toInt ≤ 30; rw [eI83, z_up_k (by decide), eI77, z_up_k (by decide), eI71, z_up_n (by decide), eI66, z_up_n (by decide), eI56, z_up_n (by decide), eI51, z_up_n (by decide), eI42, z_up_n (by decide), eI34, z_up_n (by decide), eI28, z_up_n (by decide), eI23, z_up_n (by decide), eI18, z_up_n (by decide)]; exact hma.2.1), (by show 0 ≤ (I83 0 2).toInt ∧ (I83 0 2).toInt ≤ 200; rw [eI83, z_up_k (by decide), eI77, z_up_k (by decide), eI71, z_up_n (by decide), eI66, z_up_n (by decide), eI56, z_up_n (by decide), eI51, z_up_n (by decide), eI42, z_up_n (by decide), eI34, z_up_n (by decide), eI28, z_up_n (by decide), eI23, z_up_n (by decide), eI18, z_up_n (by decide)]; exact hma.2.2)⟩, ⟨(by show 0 ≤ (I83 0 54).toInt ∧ (I83 0 54).toInt ≤ 10; rw [eI83, z_up_k (by decide), eI77, z_up_k (by decide), eI71, z_up_n (by decide), eI66, z_up_n (by decide), eI56, z_up_n (by decide), eI51, z_up_n (by decide), eI42, z_up_n (by decide), eI34, z_up_n (by decide), eI28, z_up_n (by decide), eI23, z_up_n (by decide), eI18, z_up_n (by decide)]; exact hms.1), (by show 0 ≤ (I83 0 55).toInt ∧ (I83 0 55).toInt ≤ 300; rw [eI83, z_up_s]; omega)⟩, a85, ⟨(by show 0 ≤ (I83 0 13).toInt ∧ (I83 0 13).toInt ≤ 12; rw [eI83, z_up_k (by decide), eI77, z_up_k (by decide), eI71, z_up_n (by decide), eI66, z_up_n (by decide), eI56, z_up_n (by decide), eI51, z_up_n (by decide), eI42, z_up_n (by decide), eI34, z_up_n (by decide), eI28, z_up_n (by decide), eI23, z_up_n (by decide), eI18, z_up_n (by decide)]; exact hmb.1), (by show 0 ≤ (I83 0 14).toInt ∧ (I83 0 14).toInt ≤ 288; rw [eI83, z_up_k (by decide), eI77, z_up_k (by decide), eI71, z_up_n (by decide), eI66, z_up_n (by decide), eI56, z_up_n (by decide), eI51, z_up_n (by decide), eI42, z_up_n (by decide), eI34, z_up_n (by decide), eI28, z_up_n (by decide), eI23, z_up_n (by decide), eI18, z_up_n (by decide)]; exact hmb.2)⟩, a86, a87, f84, (Or.inl ⟨by omega, by omega, (by have q9 : (I83 0 55) = x82 := (by rw [eI83, z_up_s]); show (I83 0 55).toInt = (I 0 55).toInt + 1; rw [q9]; first | done | omega), x40, (vp_nar .boolean 0), x49, (by have q1 : (I34 0 0).toInt = (I 0 0).toInt := (by rw [f35 0 0 (by decide)]); rw [hM41, zb_am_c (fun j => ⟨f35 11 _ (z_wr_c (by decide)), f35 12 _ (z_wr_c (by decide)), f35 13 _ (z_wr_c (by decide)), f35 14 _ (z_wr_c (by decide)), f35 15 _ (z_wr_c (by decide)), f35 16 _ (z_wr_c (by decide))⟩) (f35 0 13 (by decide)), show x39.toInt = (I 0 0).toInt / 30 by omega]), (Or.inr ⟨by decide, by rw [← ((show x61.toInt = z_fm I56 a2 from (by unfold z_fm; rw [f57 0 0 (by decide)]; exact h62)).trans (z_fm_c (a := a2) (fun j => ⟨f57 6 j (z_wr_c (by decide)), f57 7 j (z_wr_c (by decide)), f57 8 j (z_wr_c (by decide)), f57 9 j (z_wr_c (by decide)), f57 10 j (z_wr_c (by decide))⟩) (f57 0 0 (by decide)) (f57 0 2 (by decide))))]; omega⟩), (by unfold zb_OM; rw [if_pos ((zb_hm_c (I := I) (fun j => f43 31 j (z_wr_c (by decide)))).mp hb47), hP50, zb_P_c (fun j => f43 32 j (z_wr_c (by decide)))]), (fun j => by rw [eI83, z_up_n (by decide), eI77, z_up_n (by decide), eI71, z_up_n (by decide), eI66, z_up_n (by decide), eI56, z_up_n (by decide), eI51, z_up_n (by decide), eI42, z_up_n (by decide), eI34, z_up_n (by decide), eI28, z_up_n (by decide), eI23, z_up_n (by decide), eI18, z_up_j]), (fun j => by rw [eI83, z_up_n (by decide), eI77, z_up_n (by decide), eI71, z_up_n (by decide), eI66, z_up_n (by decide), eI56, z_up_n (by decide), eI51, z_up_n (by decide), eI42, z_up_n (by decide), eI34, z_up_n (by decide), eI28, z_up_n (by decide), eI23, z_up_j, eI18, z_up_n (by decide)]), (fun j => by rw [eI83, z_up_n (by decide), eI77, z_up_n (by decide), eI71, z_up_n (by decide), eI66, z_up_n (by decide), eI56, z_up_n (by decide), eI51, z_up_n (by decide), eI42, z_up_n (by decide), eI34, z_up_n (by decide), eI28, z_up_j, eI23, z_up_n (by decide), eI18, z_up_n (by decide)]), (fun j => by rw [eI83, z_up_n (by decide), eI77, z_up_n (by decide), eI71, z_up_n (by decide), eI66, z_up_n (by decide), eI56, z_up_n (by decide), eI51, z_up_n (by decide), eI42, z_up_n (by decide), eI34, z_up_j, eI28, z_up_n (by decide), eI23, z_up_n (by decide), eI18, z_up_n (by decide)]), (fun j => by rw [eI83, z_up_n (by decide), eI77, z_up_n (by decide), eI71, z_up_n (by decide), eI66, z_up_n (by decide), eI56, z_up_n (by decide), eI51, z_up_n (by decide), eI42, z_up_j, eI34, z_up_n (by decide), eI28, z_up_n (by decide), eI23, z_up_n (by decide), eI18, z_up_n (by decide)]), (fun j => by rw [eI83, z_up_n (by decide), eI77, z_up_n (by decide), eI71, z_up_n (by decide), eI66, z_up_n (by decide), eI56, z_up_j, eI51, z_up_n (by decide), eI42, z_up_n (by decide), eI34, z_up_n (by decide), eI28, z_up_n (by decide), eI23, z_up_n (by decide), eI18, z_up_n (by decide)]), (fun j => by rw [eI83, z_up_n (by decide), eI77, z_up_n (by decide), eI71, z_up_n (by decide), eI66, z_up_j, eI56, z_up_n (by decide), eI51, z_up_n (by decide), eI42, z_up_n (by decide), eI34, z_up_n (by decide), eI28, z_up_n (by decide), eI23, z_up_n (by decide), eI18, z_up_n (by decide)]), (fun j => by rw [eI83, z_up_n (by decide), eI77, z_up_n (by decide), eI71, z_up_n (by decide), eI66, z_up_n (by decide), eI56, z_up_n (by decide), eI51, z_up_j, eI42, z_up_n (by decide), eI34, z_up_n (by decide), eI28, z_up_n (by decide), eI23, z_up_n (by decide), eI18, z_up_n (by decide)])⟩)⟩
            · have g89 := z_f_eq rfl z_l2 c63
              have b90 := Int32.toInt_lt x61
              refine lv_iconst (v := 1) hx hb dX12_pour_168 (by decide) ?_
              refine lv_goto (tgt := 173) hx hb dX12_pour_169 (by decide) ?_
              refine z_zast (i := 42) hx hb hK hW hS rfl (z_ix rfl (by omega) (by omega)) dX12_pour_173 (fun H locs hz1 hW hS => ?_)
              obtain ⟨I91, eI91⟩ : ∃ K : z_I, K = z_up I56 42 (I 0 55).toNatClampNeg (vp_nar .boolean 1) := ⟨_, rfl⟩
              rw [← eI91] at hW
              have f92 := z_fr_a f57 (show z_wa L_X12_pour_p 42 = true by decide) eI91
              have a93 := z_rg_n a58 (by decide) eI91
              have a94 := z_rg_n a59 (by decide) eI91
              have a95 := z_rg_n a60 (by decide) eI91
              refine lv_aload_n hx hb dX12_pour_174 rfl (lv_at hl 0 rfl) ?_
              refine z_get (T := TX12) (N := 96) (ci := 12) (i := 0) (v := .ref (ad 41)) hx hb hts zj_X12_pour_X12 hown hK hW rfl rfl 64 (by decide) (hts (.fieldLink RX12 139 "PetrolBoardModel" "pourCome" "[I") (me_s (me_l (me_l (List.mem_of_getElem? (i := 11) rfl))))) (fun _ h => h) rfl dX12_pour_175 ?_
              refine lv_aload_n hx hb dX12_pour_178 rfl (lv_at hl 0 rfl) ?_
              refine z_get (T := TX12) (N := 96) (ci := 12) (i := 0) (v := .int (I 0 55)) hx hb hts zj_X12_pour_X12 hown hK hW rfl rfl 55 (by decide) (hts (.fieldLink RX12 468 "PetrolBoardModel" "pours" "I") (me_s (me_l (me_l (List.mem_of_getElem? (i := 1) rfl))))) (fun _ h => h) (congrArg Value.int (by rw [eI91, z_up_n (by decide), eI56, z_up_n (by decide), eI51, z_up_n (by decide), eI42, z_up_n (by decide), eI34, z_up_n (by decide), eI28, z_up_n (by decide), eI23, z_up_n (by decide), eI18, z_up_n (by decide)])) dX12_pour_179 ?_
              refine lv_aload_n hx hb dX12_pour_182 rfl (lv_at hl 0 rfl) ?_
              refine z_get (T := TX12) (N := 96) (ci := 12) (i := 0) (v := .int (I 0 56)) hx hb hts zj_X12_pour_X12 hown hK hW rfl rfl 56 (by decide) (hts (.fieldLink RX12 471 "PetrolBoardModel" "comes" "I") (me_s (me_l (me_l (List.mem_of_getElem? (i := 12) rfl))))) (fun _ h => h) (congrArg Value.int (by rw [eI91, z_up_n (by decide), eI56, z_up_n (by decide), eI51, z_up_n (by decide), eI42, z_up_n (by decide), eI34, z_up_n (by decide), eI28, z_up_n (by decide), eI23, z_up_n (by decide), eI18, z_up_n (by decide)])) dX12_pour_183 ?_
              refine z_iast (i := 41) hx hb hK hW hS rfl (z_ix rfl (by omega) (by omega)) dX12_pour_186 (fun H locs hz1 hW hS => ?_)
              obtain ⟨I96, eI96⟩ : ∃ K : z_I, K = z_up I91 41 (I 0 55).toNatClampNeg (I 0 56) := ⟨_, rfl⟩
              rw [← eI96] at hW
              have f97 := z_fr_a f92 (show z_wa L_X12_pour_p 41 = true by decide) eI96
              have a98 := z_rg_n a93 (by decide) eI96
              have a99 := z_rg_n a94 (by decide) eI96
              have a100 := z_rg_n a95 (by decide) eI96
              refine lv_aload_n hx hb dX12_pour_187 rfl (lv_at hl 0 rfl) ?_
              refine lv_dup hx hb dX12_pour_188 rfl ?_
              refine z_get (T := TX12) (N := 96) (ci := 12) (i := 0) (v := .int (I 0 56)) hx hb hts zj_X12_pour_X12 hown hK hW rfl rfl 56 (by decide) (hts (.fieldLink RX12 471 "PetrolBoardModel" "comes" "I") (me_s (me_l (me_l (List.mem_of_getElem? (i := 12) rfl))))) (fun _ h => h) (congrArg Value.int (by rw [eI96, z_up_n (by decide), eI91, z_up_n (by decide), eI56, z_up_n (by decide), eI51, z_up_n (by decide), eI42, z_up_n (by decide), eI34, z_up_n (by decide), eI28, z_up_n (by decide), eI23, z_up_n (by decide), eI18, z_up_n (by decide)])) dX12_pour_189 ?_
              refine lv_iconst (v := 1) hx hb dX12_pour_192 (by decide) ?_
              refine lv_iadd hx hb dX12_pour_193 ?_
              refine lv_topi (fun x101 ex101 => ?_)
              refine z_put (T := TX12) (N := 96) (ci := 12) (i := 0) (v := .int x101) (I1 := z_up I96 0 56 x101) (J1 := J) (P1 := PM ad) hx hb hts zj_X12_pour_X12 tyX12 tyX12_ok nmX12 hown hK hW hS rfl rfl 56 (by decide) (hts (.fieldLink RX12 471 "PetrolBoardModel" "comes" "I") (me_s (me_l (me_l (List.mem_of_getElem? (i := 12) rfl))))) (fun _ h => h) rfl rfl rfl (by first | rfl | exact congrArg _ z_up_s) (fun a b h ty => z_vI h ty) dX12_pour_194 (fun H locs hz1 hW hS => ?_)
              obtain ⟨I102, eI102⟩ : ∃ K : z_I, K = z_up I96 0 56 x101 := ⟨_, rfl⟩
              rw [← eI102] at hW
              have f103 := z_fr_k f97 (show z_wr L_X12_pour_p 0 56 = true by decide) eI102
              have a104 := z_rg_n a98 (by decide) eI102
              have a105 := z_rg_n a99 (by decide) eI102
              have a106 := z_rg_n a100 (by decide) eI102
              refine lv_aload_n hx hb dX12_pour_197 rfl (lv_at hl 0 rfl) ?_
              refine lv_dup hx hb dX12_pour_198 rfl ?_
              refine z_get (T := TX12) (N := 96) (ci := 12) (i := 0) (v := .int (I 0 55)) hx hb hts zj_X12_pour_X12 hown hK hW rfl rfl 55 (by decide) (hts (.fieldLink RX12 468 "PetrolBoardModel" "pours" "I") (me_s (me_l (me_l (List.mem_of_getElem? (i := 1) rfl))))) (fun _ h => h) (congrArg Value.int (by rw [eI102, z_up_k (by decide), eI96, z_up_n (by decide), eI91, z_up_n (by decide), eI56, z_up_n (by decide), eI51, z_up_n (by decide), eI42, z_up_n (by decide), eI34, z_up_n (by decide), eI28, z_up_n (by decide), eI23, z_up_n (by decide), eI18, z_up_n (by decide)])) dX12_pour_199 ?_
              refine lv_iconst (v := 1) hx hb dX12_pour_202 (by decide) ?_
              refine lv_iadd hx hb dX12_pour_203 ?_
              refine lv_topi (fun x107 ex107 => ?_)
              have tx107 : x107.toInt = (I 0 55).toInt + 1 := z_tadd ex107 rfl z_l1 (by omega) (by omega)
              refine z_put (T := TX12) (N := 96) (ci := 12) (i := 0) (v := .int x107) (I1 := z_up I102 0 55 x107) (J1 := J) (P1 := PM ad) hx hb hts zj_X12_pour_X12 tyX12 tyX12_ok nmX12 hown hK hW hS rfl rfl 55 (by decide) (hts (.fieldLink RX12 468 "PetrolBoardModel" "pours" "I") (me_s (me_l (me_l (List.mem_of_getElem? (i := 1) rfl))))) (fun _ h => h) rfl rfl rfl (by first | rfl | exact congrArg _ z_up_s) (fun a b h ty => z_vI h ty) dX12_pour_204 (fun H locs hz1 hW hS => ?_)
              obtain ⟨I108, eI108⟩ : ∃ K : z_I, K = z_up I102 0 55 x107 := ⟨_, rfl⟩
              rw [← eI108] at hW
              have f109 := z_fr_k f103 (show z_wr L_X12_pour_p 0 55 = true by decide) eI108
              have a110 := z_rg_n a104 (by decide) eI108
              have a111 := z_rg_n a105 (by decide) eI108
              have a112 := z_rg_n a106 (by decide) eI108
              refine lv_aload_n hx hb dX12_pour_207 rfl (lv_at hl 0 rfl) ?_
              refine z_get (T := TX12) (N := 96) (ci := 12) (i := 0) (v := .int x107) hx hb hts zj_X12_pour_X12 hown hK hW rfl rfl 55 (by decide) (hts (.fieldLink RX12 468 "PetrolBoardModel" "pours" "I") (me_s (me_l (me_l (List.mem_of_getElem? (i := 1) rfl))))) (fun _ h => h) (congrArg Value.int (by rw [eI108, z_up_s])) dX12_pour_208 ?_
              refine lv_iconst (v := 1) hx hb dX12_pour_211 (by decide) ?_
              refine lv_isub hx hb dX12_pour_212 ?_
              refine lv_topi (fun x113 ex113 => ?_)
              have tx113 : x113.toInt = x107.toInt - 1 := z_tsub ex113 rfl z_l1 (by omega) (by omega)
              exact z_iret hx hb hr hK hS (Nat.le_of_ble_eq_true rfl) (Nat.le_of_ble_eq_true rfl) hlocks dX12_pour_213 (shM, ad, I108, J, PM ad) hW ⟨I108, J, rfl, ⟨(by show 0 ≤ (I108 0 0).toInt ∧ (I108 0 0).toInt ≤ 719; rw [eI108, z_up_k (by decide), eI102, z_up_k (by decide), eI96, z_up_n (by decide), eI91, z_up_n (by decide), eI56, z_up_n (by decide), eI51, z_up_n (by decide), eI42, z_up_n (by decide), eI34, z_up_n (by decide), eI28, z_up_n (by decide), eI23, z_up_n (by decide), eI18, z_up_n (by decide)]; exact hma.1), (by show 0 ≤ (I108 0 1).toInt ∧ (I108 0 1).toInt ≤ 30; rw [eI108, z_up_k (by decide), eI102, z_up_k (by decide), eI96, z_up_n (by decide), eI91, z_up_n (by decide), eI56, z_up_n (by decide), eI51, z_up_n (by decide), eI42, z_up_n (by decide), eI34, z_up_n (by decide), eI28, z_up_n (by decide), eI23, z_up_n (by decide), eI18, z_up_n (by decide)]; exact hma.2.1), (by show 0 ≤ (I108 0 2).toInt ∧ (I108 0 2).toInt ≤ 200; rw [eI108, z_up_k (by decide), eI102, z_up_k (by decide), eI96, z_up_n (by decide), eI91, z_up_n (by decide), eI56, z_up_n (by decide), eI51, z_up_n (by decide), eI42, z_up_n (by decide), eI34, z_up_n (by decide), eI28, z_up_n (by decide), eI23, z_up_n (by decide), eI18, z_up_n (by decide)]; exact hma.2.2)⟩, ⟨(by show 0 ≤ (I108 0 54).toInt ∧ (I108 0 54).toInt ≤ 10; rw [eI108, z_up_k (by decide), eI102, z_up_k (by decide), eI96, z_up_n (by decide), eI91, z_up_n (by decide), eI56, z_up_n (by decide), eI51, z_up_n (by decide), eI42, z_up_n (by decide), eI34, z_up_n (by decide), eI28, z_up_n (by decide), eI23, z_up_n (by decide), eI18, z_up_n (by decide)]; exact hms.1), (by show 0 ≤ (I108 0 55).toInt ∧ (I108 0 55).toInt ≤ 300; rw [eI108, z_up_s]; omega)⟩, a110, ⟨(by show 0 ≤ (I108 0 13).toInt ∧ (I108 0 13).toInt ≤ 12; rw [eI108, z_up_k (by decide), eI102, z_up_k (by decide), eI96, z_up_n (by decide), eI91, z_up_n (by decide), eI56, z_up_n (by decide), eI51, z_up_n (by decide), eI42, z_up_n (by decide), eI34, z_up_n (by decide), eI28, z_up_n (by decide), eI23, z_up_n (by decide), eI18, z_up_n (by decide)]; exact hmb.1), (by show 0 ≤ (I108 0 14).toInt ∧ (I108 0 14).toInt ≤ 288; rw [eI108, z_up_k (by decide), eI102, z_up_k (by decide), eI96, z_up_n (by decide), eI91, z_up_n (by decide), eI56, z_up_n (by decide), eI51, z_up_n (by decide), eI42, z_up_n (by decide), eI34, z_up_n (by decide), eI28, z_up_n (by decide), eI23, z_up_n (by decide), eI18, z_up_n (by decide)]; exact hmb.2)⟩, a111, a112, f109, (Or.inl ⟨by omega, by omega, (by have q9 : (I108 0 55) = x107 := (by rw [eI108, z_up_s]); show (I108 0 55).toInt = (I 0 55).toInt + 1; rw [q9]; first | done | omega), x40, (vp_nar .boolean 1), x49, (by have q1 : (I34 0 0).toInt = (I 0 0).toInt := (by rw [f35 0 0 (by decide)]); rw [hM41, zb_am_c (fun j => ⟨f35 11 _ (z_wr_c (by decide)), f35 12 _ (z_wr_c (by decide)), f35 13 _ (z_wr_c (by decide)), f35 14 _ (z_wr_c (by decide)), f35 15 _ (z_wr_c (by decide)), f35 16 _ (z_wr_c (by decide))⟩) (f35 0 13 (by decide)), show x39.toInt = (I 0 0).toInt / 30 by omega]), (Or.inl ⟨by decide, by rw [← ((show x61.toInt = z_fm I56 a2 from (by unfold z_fm; rw [f57 0 0 (by decide)]; exact h62)).trans (z_fm_c (a := a2) (fun j => ⟨f57 6 j (z_wr_c (by decide)), f57 7 j (z_wr_c (by decide)), f57 8 j (z_wr_c (by decide)), f57 9 j (z_wr_c (by decide)), f57 10 j (z_wr_c (by decide))⟩) (f57 0 0 (by decide)) (f57 0 2 (by decide))))]; omega⟩), (by unfold zb_OM; rw [if_pos ((zb_hm_c (I := I) (fun j => f43 31 j (z_wr_c (by decide)))).mp hb47), hP50, zb_P_c (fun j => f43 32 j (z_wr_c (by decide)))]), (fun j => by rw [eI108, z_up_n (by decide), eI102, z_up_n (by decide), eI96, z_up_n (by decide), eI91, z_up_n (by decide), eI56, z_up_n (by decide), eI51, z_up_n (by decide), eI42, z_up_n (by decide), eI34, z_up_n (by decide), eI28, z_up_n (by decide), eI23, z_up_n (by decide), eI18, z_up_j]), (fun j => by rw [eI108, z_up_n (by decide), eI102, z_up_n (by decide), eI96, z_up_n (by decide), eI91, z_up_n (by decide), eI56, z_up_n (by decide), eI51, z_up_n (by decide), eI42, z_up_n (by decide), eI34, z_up_n (by decide), eI28, z_up_n (by decide), eI23, z_up_j, eI18, z_up_n (by decide)]), (fun j => by rw [eI108, z_up_n (by decide), eI102, z_up_n (by decide), eI96, z_up_n (by decide), eI91, z_up_n (by decide), eI56, z_up_n (by decide), eI51, z_up_n (by decide), eI42, z_up_n (by decide), eI34, z_up_n (by decide), eI28, z_up_j, eI23, z_up_n (by decide), eI18, z_up_n (by decide)]), (fun j => by rw [eI108, z_up_n (by decide), eI102, z_up_n (by decide), eI96, z_up_n (by decide), eI91, z_up_n (by decide), eI56, z_up_n (by decide), eI51, z_up_n (by decide), eI42, z_up_n (by decide), eI34, z_up_j, eI28, z_up_n (by decide), eI23, z_up_n (by decide), eI18, z_up_n (by decide)]), (fun j => by rw [eI108, z_up_n (by decide), eI102, z_up_n (by decide), eI96, z_up_n (by decide), eI91, z_up_n (by decide), eI56, z_up_n (by decide), eI51, z_up_n (by decide), eI42, z_up_j, eI34, z_up_n (by decide), eI28, z_up_n (by decide), eI23, z_up_n (by decide), eI18, z_up_n (by decide)]), (fun j => by rw [eI108, z_up_n (by decide), eI102, z_up_n (by decide), eI96, z_up_n (by decide), eI91, z_up_n (by decide), eI56, z_up_j, eI51, z_up_n (by decide), eI42, z_up_n (by decide), eI34, z_up_n (by decide), eI28, z_up_n (by decide), eI23, z_up_n (by decide), eI18, z_up_n (by decide)]), (fun j => by rw [eI108, z_up_n (by decide), eI102, z_up_n (by decide), eI96, z_up_n (by decide), eI91, z_up_j, eI56, z_up_n (by decide), eI51, z_up_n (by decide), eI42, z_up_n (by decide), eI34, z_up_n (by decide), eI28, z_up_n (by decide), eI23, z_up_n (by decide), eI18, z_up_n (by decide)]), (fun j => by rw [eI108, z_up_n (by decide), eI102, z_up_n (by decide), eI96, z_up_n (by decide), eI91, z_up_n (by decide), eI56, z_up_n (by decide), eI51, z_up_j, eI42, z_up_n (by decide), eI34, z_up_n (by decide), eI28, z_up_n (by decide), eI23, z_up_n (by decide), eI18, z_up_n (by decide)])⟩)⟩
          · refine lv_if_eq (tgt := 131) hx hb dX12_pour_120 (by decide) (fun c114 => ?_) (fun c114 => absurd (by decide) c114)
            refine lv_iconst (v := (-1)) hx hb dX12_pour_131 (by decide) ?_
            refine z_iast (i := 39) hx hb hK hW hS rfl (z_ix rfl (by omega) (by omega)) dX12_pour_132 (fun H locs hz1 hW hS => ?_)
            obtain ⟨I115, eI115⟩ : ∃ K : z_I, K = z_up I42 39 (I 0 55).toNatClampNeg (-1) := ⟨_, rfl⟩
            rw [← eI115] at hW
            have f116 := z_fr_a f43 (show z_wa L_X12_pour_p 39 = true by decide) eI115
            have a117 := z_rg_n a44 (by decide) eI115
            have a118 := z_rg_n a45 (by decide) eI115
            have a119 := z_rg_n a46 (by decide) eI115
            refine lv_aload_n hx hb dX12_pour_133 rfl (lv_at hl 0 rfl) ?_
            refine z_get (T := TX12) (N := 96) (ci := 12) (i := 0) (v := .ref (ad 40)) hx hb hts zj_X12_pour_X12 hown hK hW rfl rfl 63 (by decide) (hts (.fieldLink RX12 136 "PetrolBoardModel" "pourJudged" "[I") (me_s (me_l (me_l (List.mem_of_getElem? (i := 9) rfl))))) (fun _ h => h) rfl dX12_pour_134 ?_
            refine lv_aload_n hx hb dX12_pour_137 rfl (lv_at hl 0 rfl) ?_
            refine z_get (T := TX12) (N := 96) (ci := 12) (i := 0) (v := .int (I 0 55)) hx hb hts zj_X12_pour_X12 hown hK hW rfl rfl 55 (by decide) (hts (.fieldLink RX12 468 "PetrolBoardModel" "pours" "I") (me_s (me_l (me_l (List.mem_of_getElem? (i := 1) rfl))))) (fun _ h => h) (congrArg Value.int (by rw [eI115, z_up_n (by decide), eI42, z_up_n (by decide), eI34, z_up_n (by decide), eI28, z_up_n (by decide), eI23, z_up_n (by decide), eI18, z_up_n (by decide)])) dX12_pour_138 ?_
            refine lv_iconst (v := (-1)) hx hb dX12_pour_141 (by decide) ?_
            refine z_iast (i := 40) hx hb hK hW hS rfl (z_ix rfl (by omega) (by omega)) dX12_pour_142 (fun H locs hz1 hW hS => ?_)
            obtain ⟨I120, eI120⟩ : ∃ K : z_I, K = z_up I115 40 (I 0 55).toNatClampNeg (-1) := ⟨_, rfl⟩
            rw [← eI120] at hW
            have f121 := z_fr_a f116 (show z_wa L_X12_pour_p 40 = true by decide) eI120
            have a122 := z_rg_n a117 (by decide) eI120
            have a123 := z_rg_n a118 (by decide) eI120
            have a124 := z_rg_n a119 (by decide) eI120
            refine lv_aload_n hx hb dX12_pour_143 rfl (lv_at hl 0 rfl) ?_
            refine z_get (T := TX12) (N := 96) (ci := 12) (i := 0) (v := .ref (ad 42)) hx hb hts zj_X12_pour_X12 hown hK hW rfl rfl 65 (by decide) (hts (.fieldLink RX12 142 "PetrolBoardModel" "pourDyed" "[Z") (me_s (me_l (me_l (List.mem_of_getElem? (i := 10) rfl))))) (fun _ h => h) rfl dX12_pour_144 ?_
            refine lv_aload_n hx hb dX12_pour_147 rfl (lv_at hl 0 rfl) ?_
            refine z_get (T := TX12) (N := 96) (ci := 12) (i := 0) (v := .int (I 0 55)) hx hb hts zj_X12_pour_X12 hown hK hW rfl rfl 55 (by decide) (hts (.fieldLink RX12 468 "PetrolBoardModel" "pours" "I") (me_s (me_l (me_l (List.mem_of_getElem? (i := 1) rfl))))) (fun _ h => h) (congrArg Value.int (by rw [eI120, z_up_n (by decide), eI115, z_up_n (by decide), eI42, z_up_n (by decide), eI34, z_up_n (by decide), eI28, z_up_n (by decide), eI23, z_up_n (by decide), eI18, z_up_n (by decide)])) dX12_pour_148 ?_
            refine lv_aload_n hx hb dX12_pour_151 rfl (lv_at hl 0 rfl) ?_
            refine lv_iload_n hx hb dX12_pour_152 rfl (lv_at hl 2 rfl) ?_
            refine lv_aload_n hx hb dX12_pour_153 rfl (lv_at hl 0 rfl) ?_
            refine z_get (T := TX12) (N := 96) (ci := 12) (i := 0) (v := .int (I 0 0)) hx hb hts zj_X12_pour_X12 hown hK hW rfl rfl 0 (by decide) (hts (.fieldLink RX12 232 "PetrolBoardModel" "today" "I") (me_s (me_l (me_l (List.mem_of_getElem? (i := 6) rfl))))) (fun _ h => h) (congrArg Value.int (by rw [eI120, z_up_n (by decide), eI115, z_up_n (by decide), eI42, z_up_n (by decide), eI34, z_up_n (by decide), eI28, z_up_n (by decide), eI23, z_up_n (by decide), eI18, z_up_n (by decide)])) dX12_pour_154 ?_
            refine lv_aload_n hx hb dX12_pour_157 rfl (lv_at hl 0 rfl) ?_
            refine z_get (T := TX12) (N := 96) (ci := 12) (i := 0) (v := .int (I 0 0)) hx hb hts zj_X12_pour_X12 hown hK hW rfl rfl 0 (by decide) (hts (.fieldLink RX12 232 "PetrolBoardModel" "today" "I") (me_s (me_l (me_l (List.mem_of_getElem? (i := 6) rfl))))) (fun _ h => h) (congrArg Value.int (by rw [eI120, z_up_n (by decide), eI115, z_up_n (by decide), eI42, z_up_n (by decide), eI34, z_up_n (by decide), eI28, z_up_n (by decide), eI23, z_up_n (by decide), eI18, z_up_n (by decide)])) dX12_pour_158 ?_
            refine z_ci hW hS hA (va_runV (As := [.int a2, .int (I 0 0), .int (I 0 0)]) (rest := [.int (I 0 55), .ref (ad 42)]) ⟨hx, hb, hml, hown, hts⟩ (sx_X12_kindOn_r l G ad I120 J ⟨(by show 0 ≤ (I120 0 0).toInt ∧ (I120 0 0).toInt ≤ 719; rw [eI120, z_up_n (by decide), eI115, z_up_n (by decide), eI42, z_up_n (by decide), eI34, z_up_n (by decide), eI28, z_up_n (by decide), eI23, z_up_n (by decide), eI18, z_up_n (by decide)]; exact hma.1), (by show 0 ≤ (I120 0 1).toInt ∧ (I120 0 1).toInt ≤ 30; rw [eI120, z_up_n (by decide), eI115, z_up_n (by decide), eI42, z_up_n (by decide), eI34, z_up_n (by decide), eI28, z_up_n (by decide), eI23, z_up_n (by decide), eI18, z_up_n (by decide)]; exact hma.2.1), (by show 0 ≤ (I120 0 2).toInt ∧ (I120 0 2).toInt ≤ 200; rw [eI120, z_up_n (by decide), eI115, z_up_n (by decide), eI42, z_up_n (by decide), eI34, z_up_n (by decide), eI28, z_up_n (by decide), eI23, z_up_n (by decide), eI18, z_up_n (by decide)]; exact hma.2.2)⟩ a2 (I 0 0) (I 0 0) _) (cwV 3 hts gX12_pour_X12_kindOn rfl rfl rfl (by decide +kernel) ⟨Nat.le_of_ble_eq_true rfl, Nat.le_of_ble_eq_true rfl⟩) (z_preV (i := 0) hK hW rfl rfl) rfl rfl hl.1 rfl (lv_room (Nat.le_of_ble_eq_true rfl)) dX12_pour_161 ⟨Nat.le_of_ble_eq_true rfl, Nat.le_of_ble_eq_true rfl⟩) (fun r u1 H locs hp hW hS => ?_)
            obtain ⟨e9, hp⟩ := hp
            rw [e9] at hW
            refine lv_topi (fun x125 ex125 => ?_)
            have h126 := hp
            rw [← ex125] at h126
            refine lv_iconst (v := 2) hx hb dX12_pour_164 (by decide) ?_
            refine lv_icmp_ne (tgt := 172) hx hb dX12_pour_165 (by decide) (fun c127 => ?_) (fun c127 => ?_)
            · have g128 := z_f_ne rfl z_l2 c127
              have b129 := Int32.toInt_lt x125
              refine lv_iconst (v := 0) hx hb dX12_pour_172 (by decide) ?_
              refine z_zast (i := 42) hx hb hK hW hS rfl (z_ix rfl (by omega) (by omega)) dX12_pour_173 (fun H locs hz1 hW hS => ?_)
              obtain ⟨I130, eI130⟩ : ∃ K : z_I, K = z_up I120 42 (I 0 55).toNatClampNeg (vp_nar .boolean 0) := ⟨_, rfl⟩
              rw [← eI130] at hW
              have f131 := z_fr_a f121 (show z_wa L_X12_pour_p 42 = true by decide) eI130
              have a132 := z_rg_n a122 (by decide) eI130
              have a133 := z_rg_n a123 (by decide) eI130
              have a134 := z_rg_n a124 (by decide) eI130
              refine lv_aload_n hx hb dX12_pour_174 rfl (lv_at hl 0 rfl) ?_
              refine z_get (T := TX12) (N := 96) (ci := 12) (i := 0) (v := .ref (ad 41)) hx hb hts zj_X12_pour_X12 hown hK hW rfl rfl 64 (by decide) (hts (.fieldLink RX12 139 "PetrolBoardModel" "pourCome" "[I") (me_s (me_l (me_l (List.mem_of_getElem? (i := 11) rfl))))) (fun _ h => h) rfl dX12_pour_175 ?_
              refine lv_aload_n hx hb dX12_pour_178 rfl (lv_at hl 0 rfl) ?_
              refine z_get (T := TX12) (N := 96) (ci := 12) (i := 0) (v := .int (I 0 55)) hx hb hts zj_X12_pour_X12 hown hK hW rfl rfl 55 (by decide) (hts (.fieldLink RX12 468 "PetrolBoardModel" "pours" "I") (me_s (me_l (me_l (List.mem_of_getElem? (i := 1) rfl))))) (fun _ h => h) (congrArg Value.int (by rw [eI130, z_up_n (by decide), eI120, z_up_n (by decide), eI115, z_up_n (by decide), eI42, z_up_n (by decide), eI34, z_up_n (by decide), eI28, z_up_n (by decide), eI23, z_up_n (by decide), eI18, z_up_n (by decide)])) dX12_pour_179 ?_
              refine lv_aload_n hx hb dX12_pour_182 rfl (lv_at hl 0 rfl) ?_
              refine z_get (T := TX12) (N := 96) (ci := 12) (i := 0) (v := .int (I 0 56)) hx hb hts zj_X12_pour_X12 hown hK hW rfl rfl 56 (by decide) (hts (.fieldLink RX12 471 "PetrolBoardModel" "comes" "I") (me_s (me_l (me_l (List.mem_of_getElem? (i := 12) rfl))))) (fun _ h => h) (congrArg Value.int (by rw [eI130, z_up_n (by decide), eI120, z_up_n (by decide), eI115, z_up_n (by decide), eI42, z_up_n (by decide), eI34, z_up_n (by decide), eI28, z_up_n (by decide), eI23, z_up_n (by decide), eI18, z_up_n (by decide)])) dX12_pour_183 ?_
              refine z_iast (i := 41) hx hb hK hW hS rfl (z_ix rfl (by omega) (by omega)) dX12_pour_186 (fun H locs hz1 hW hS => ?_)
              obtain ⟨I135, eI135⟩ : ∃ K : z_I, K = z_up I130 41 (I 0 55).toNatClampNeg (I 0 56) := ⟨_, rfl⟩
              rw [← eI135] at hW
              have f136 := z_fr_a f131 (show z_wa L_X12_pour_p 41 = true by decide) eI135
              have a137 := z_rg_n a132 (by decide) eI135
              have a138 := z_rg_n a133 (by decide) eI135
              have a139 := z_rg_n a134 (by decide) eI135
              refine lv_aload_n hx hb dX12_pour_187 rfl (lv_at hl 0 rfl) ?_
              refine lv_dup hx hb dX12_pour_188 rfl ?_
              refine z_get (T := TX12) (N := 96) (ci := 12) (i := 0) (v := .int (I 0 56)) hx hb hts zj_X12_pour_X12 hown hK hW rfl rfl 56 (by decide) (hts (.fieldLink RX12 471 "PetrolBoardModel" "comes" "I") (me_s (me_l (me_l (List.mem_of_getElem? (i := 12) rfl))))) (fun _ h => h) (congrArg Value.int (by rw [eI135, z_up_n (by decide), eI130, z_up_n (by decide), eI120, z_up_n (by decide), eI115, z_up_n (by decide), eI42, z_up_n (by decide), eI34, z_up_n (by decide), eI28, z_up_n (by decide), eI23, z_up_n (by decide), eI18, z_up_n (by decide)])) dX12_pour_189 ?_
              refine lv_iconst (v := 1) hx hb dX12_pour_192 (by decide) ?_
              refine lv_iadd hx hb dX12_pour_193 ?_
              refine lv_topi (fun x140 ex140 => ?_)
              refine z_put (T := TX12) (N := 96) (ci := 12) (i := 0) (v := .int x140) (I1 := z_up I135 0 56 x140) (J1 := J) (P1 := PM ad) hx hb hts zj_X12_pour_X12 tyX12 tyX12_ok nmX12 hown hK hW hS rfl rfl 56 (by decide) (hts (.fieldLink RX12 471 "PetrolBoardModel" "comes" "I") (me_s (me_l (me_l (List.mem_of_getElem? (i := 12) rfl))))) (fun _ h => h) rfl rfl rfl (by first | rfl | exact congrArg _ z_up_s) (fun a b h ty => z_vI h ty) dX12_pour_194 (fun H locs hz1 hW hS => ?_)
              obtain ⟨I141, eI141⟩ : ∃ K : z_I, K = z_up I135 0 56 x140 := ⟨_, rfl⟩
              rw [← eI141] at hW
              have f142 := z_fr_k f136 (show z_wr L_X12_pour_p 0 56 = true by decide) eI141
              have a143 := z_rg_n a137 (by decide) eI141
              have a144 := z_rg_n a138 (by decide) eI141
              have a145 := z_rg_n a139 (by decide) eI141
              refine lv_aload_n hx hb dX12_pour_197 rfl (lv_at hl 0 rfl) ?_
              refine lv_dup hx hb dX12_pour_198 rfl ?_
              refine z_get (T := TX12) (N := 96) (ci := 12) (i := 0) (v := .int (I 0 55)) hx hb hts zj_X12_pour_X12 hown hK hW rfl rfl 55 (by decide) (hts (.fieldLink RX12 468 "PetrolBoardModel" "pours" "I") (me_s (me_l (me_l (List.mem_of_getElem? (i := 1) rfl))))) (fun _ h => h) (congrArg Value.int (by rw [eI141, z_up_k (by decide), eI135, z_up_n (by decide), eI130, z_up_n (by decide), eI120, z_up_n (by decide), eI115, z_up_n (by decide), eI42, z_up_n (by decide), eI34, z_up_n (by decide), eI28, z_up_n (by decide), eI23, z_up_n (by decide), eI18, z_up_n (by decide)])) dX12_pour_199 ?_
              refine lv_iconst (v := 1) hx hb dX12_pour_202 (by decide) ?_
              refine lv_iadd hx hb dX12_pour_203 ?_
              refine lv_topi (fun x146 ex146 => ?_)
              have tx146 : x146.toInt = (I 0 55).toInt + 1 := z_tadd ex146 rfl z_l1 (by omega) (by omega)
              refine z_put (T := TX12) (N := 96) (ci := 12) (i := 0) (v := .int x146) (I1 := z_up I141 0 55 x146) (J1 := J) (P1 := PM ad) hx hb hts zj_X12_pour_X12 tyX12 tyX12_ok nmX12 hown hK hW hS rfl rfl 55 (by decide) (hts (.fieldLink RX12 468 "PetrolBoardModel" "pours" "I") (me_s (me_l (me_l (List.mem_of_getElem? (i := 1) rfl))))) (fun _ h => h) rfl rfl rfl (by first | rfl | exact congrArg _ z_up_s) (fun a b h ty => z_vI h ty) dX12_pour_204 (fun H locs hz1 hW hS => ?_)
              obtain ⟨I147, eI147⟩ : ∃ K : z_I, K = z_up I141 0 55 x146 := ⟨_, rfl⟩
              rw [← eI147] at hW
              have f148 := z_fr_k f142 (show z_wr L_X12_pour_p 0 55 = true by decide) eI147
              have a149 := z_rg_n a143 (by decide) eI147
              have a150 := z_rg_n a144 (by decide) eI147
              have a151 := z_rg_n a145 (by decide) eI147
              refine lv_aload_n hx hb dX12_pour_207 rfl (lv_at hl 0 rfl) ?_
              refine z_get (T := TX12) (N := 96) (ci := 12) (i := 0) (v := .int x146) hx hb hts zj_X12_pour_X12 hown hK hW rfl rfl 55 (by decide) (hts (.fieldLink RX12 468 "PetrolBoardModel" "pours" "I") (me_s (me_l (me_l (List.mem_of_getElem? (i := 1) rfl))))) (fun _ h => h) (congrArg Value.int (by rw [eI147, z_up_s])) dX12_pour_208 ?_
              refine lv_iconst (v := 1) hx hb dX12_pour_211 (by decide) ?_
              refine lv_isub hx hb dX12_pour_212 ?_
              refine lv_topi (fun x152 ex152 => ?_)
              have tx152 : x152.toInt = x146.toInt - 1 := z_tsub ex152 rfl z_l1 (by omega) (by omega)
              exact z_iret hx hb hr hK hS (Nat.le_of_ble_eq_true rfl) (Nat.le_of_ble_eq_true rfl) hlocks dX12_pour_213 (shM, ad, I147, J, PM ad) hW ⟨I147, J, rfl, ⟨(by show 0 ≤ (I147 0 0).toInt ∧ (I147 0 0).toInt ≤ 719; rw [eI147, z_up_k (by decide), eI141, z_up_k (by decide), eI135, z_up_n (by decide), eI130, z_up_n (by decide), eI120, z_up_n (by decide), eI115, z_up_n (by decide), eI42, z_up_n (by decide), eI34, z_up_n (by decide), eI28, z_up_n (by decide), eI23, z_up_n (by decide), eI18, z_up_n (by decide)]; exact hma.1), (by show 0 ≤ (I147 0 1).toInt ∧ (I147 0 1).toInt ≤ 30; rw [eI147, z_up_k (by decide), eI141, z_up_k (by decide), eI135, z_up_n (by decide), eI130, z_up_n (by decide), eI120, z_up_n (by decide), eI115, z_up_n (by decide), eI42, z_up_n (by decide), eI34, z_up_n (by decide), eI28, z_up_n (by decide), eI23, z_up_n (by decide), eI18, z_up_n (by decide)]; exact hma.2.1), (by show 0 ≤ (I147 0 2).toInt ∧ (I147 0 2).toInt ≤ 200; rw [eI147, z_up_k (by decide), eI141, z_up_k (by decide), eI135, z_up_n (by decide), eI130, z_up_n (by decide), eI120, z_up_n (by decide), eI115, z_up_n (by decide), eI42, z_up_n (by decide), eI34, z_up_n (by decide), eI28, z_up_n (by decide), eI23, z_up_n (by decide), eI18, z_up_n (by decide)]; exact hma.2.2)⟩, ⟨(by show 0 ≤ (I147 0 54).toInt ∧ (I147 0 54).toInt ≤ 10; rw [eI147, z_up_k (by decide), eI141, z_up_k (by decide), eI135, z_up_n (by decide), eI130, z_up_n (by decide), eI120, z_up_n (by decide), eI115, z_up_n (by decide), eI42, z_up_n (by decide), eI34, z_up_n (by decide), eI28, z_up_n (by decide), eI23, z_up_n (by decide), eI18, z_up_n (by decide)]; exact hms.1), (by show 0 ≤ (I147 0 55).toInt ∧ (I147 0 55).toInt ≤ 300; rw [eI147, z_up_s]; omega)⟩, a149, ⟨(by show 0 ≤ (I147 0 13).toInt ∧ (I147 0 13).toInt ≤ 12; rw [eI147, z_up_k (by decide), eI141, z_up_k (by decide), eI135, z_up_n (by decide), eI130, z_up_n (by decide), eI120, z_up_n (by decide), eI115, z_up_n (by decide), eI42, z_up_n (by decide), eI34, z_up_n (by decide), eI28, z_up_n (by decide), eI23, z_up_n (by decide), eI18, z_up_n (by decide)]; exact hmb.1), (by show 0 ≤ (I147 0 14).toInt ∧ (I147 0 14).toInt ≤ 288; rw [eI147, z_up_k (by decide), eI141, z_up_k (by decide), eI135, z_up_n (by decide), eI130, z_up_n (by decide), eI120, z_up_n (by decide), eI115, z_up_n (by decide), eI42, z_up_n (by decide), eI34, z_up_n (by decide), eI28, z_up_n (by decide), eI23, z_up_n (by decide), eI18, z_up_n (by decide)]; exact hmb.2)⟩, a150, a151, f148, (Or.inl ⟨by omega, by omega, (by have q9 : (I147 0 55) = x146 := (by rw [eI147, z_up_s]); show (I147 0 55).toInt = (I 0 55).toInt + 1; rw [q9]; first | done | omega), x40, (vp_nar .boolean 0), (-1), (by have q1 : (I34 0 0).toInt = (I 0 0).toInt := (by rw [f35 0 0 (by decide)]); rw [hM41, zb_am_c (fun j => ⟨f35 11 _ (z_wr_c (by decide)), f35 12 _ (z_wr_c (by decide)), f35 13 _ (z_wr_c (by decide)), f35 14 _ (z_wr_c (by decide)), f35 15 _ (z_wr_c (by decide)), f35 16 _ (z_wr_c (by decide))⟩) (f35 0 13 (by decide)), show x39.toInt = (I 0 0).toInt / 30 by omega]), (Or.inr ⟨by decide, by rw [← ((show x125.toInt = z_fm I120 a2 from (by unfold z_fm; rw [f121 0 0 (by decide)]; exact h126)).trans (z_fm_c (a := a2) (fun j => ⟨f121 6 j (z_wr_c (by decide)), f121 7 j (z_wr_c (by decide)), f121 8 j (z_wr_c (by decide)), f121 9 j (z_wr_c (by decide)), f121 10 j (z_wr_c (by decide))⟩) (f121 0 0 (by decide)) (f121 0 2 (by decide))))]; omega⟩), (by unfold zb_OM; rw [if_neg (fun q => hb47 ((zb_hm_c (I := I) (fun j => f43 31 j (z_wr_c (by decide)))).mpr q))]; decide), (fun j => by rw [eI147, z_up_n (by decide), eI141, z_up_n (by decide), eI135, z_up_n (by decide), eI130, z_up_n (by decide), eI120, z_up_n (by decide), eI115, z_up_n (by decide), eI42, z_up_n (by decide), eI34, z_up_n (by decide), eI28, z_up_n (by decide), eI23, z_up_n (by decide), eI18, z_up_j]), (fun j => by rw [eI147, z_up_n (by decide), eI141, z_up_n (by decide), eI135, z_up_n (by decide), eI130, z_up_n (by decide), eI120, z_up_n (by decide), eI115, z_up_n (by decide), eI42, z_up_n (by decide), eI34, z_up_n (by decide), eI28, z_up_n (by decide), eI23, z_up_j, eI18, z_up_n (by decide)]), (fun j => by rw [eI147, z_up_n (by decide), eI141, z_up_n (by decide), eI135, z_up_n (by decide), eI130, z_up_n (by decide), eI120, z_up_n (by decide), eI115, z_up_n (by decide), eI42, z_up_n (by decide), eI34, z_up_n (by decide), eI28, z_up_j, eI23, z_up_n (by decide), eI18, z_up_n (by decide)]), (fun j => by rw [eI147, z_up_n (by decide), eI141, z_up_n (by decide), eI135, z_up_n (by decide), eI130, z_up_n (by decide), eI120, z_up_n (by decide), eI115, z_up_n (by decide), eI42, z_up_n (by decide), eI34, z_up_j, eI28, z_up_n (by decide), eI23, z_up_n (by decide), eI18, z_up_n (by decide)]), (fun j => by rw [eI147, z_up_n (by decide), eI141, z_up_n (by decide), eI135, z_up_n (by decide), eI130, z_up_n (by decide), eI120, z_up_n (by decide), eI115, z_up_n (by decide), eI42, z_up_j, eI34, z_up_n (by decide), eI28, z_up_n (by decide), eI23, z_up_n (by decide), eI18, z_up_n (by decide)]), (fun j => by rw [eI147, z_up_n (by decide), eI141, z_up_n (by decide), eI135, z_up_n (by decide), eI130, z_up_n (by decide), eI120, z_up_j, eI115, z_up_n (by decide), eI42, z_up_n (by decide), eI34, z_up_n (by decide), eI28, z_up_n (by decide), eI23, z_up_n (by decide), eI18, z_up_n (by decide)]), (fun j => by rw [eI147, z_up_n (by decide), eI141, z_up_n (by decide), eI135, z_up_n (by decide), eI130, z_up_j, eI120, z_up_n (by decide), eI115, z_up_n (by decide), eI42, z_up_n (by decide), eI34, z_up_n (by decide), eI28, z_up_n (by decide), eI23, z_up_n (by decide), eI18, z_up_n (by decide)]), (fun j => by rw [eI147, z_up_n (by decide), eI141, z_up_n (by decide), eI135, z_up_n (by decide), eI130, z_up_n (by decide), eI120, z_up_n (by decide), eI115, z_up_j, eI42, z_up_n (by decide), eI34, z_up_n (by decide), eI28, z_up_n (by decide), eI23, z_up_n (by decide), eI18, z_up_n (by decide)])⟩)⟩
            · have g153 := z_f_eq rfl z_l2 c127
              have b154 := Int32.toInt_lt x125
              refine lv_iconst (v := 1) hx hb dX12_pour_168 (by decide) ?_
              refine lv_goto (tgt := 173) hx hb dX12_pour_169 (by decide) ?_
              refine z_zast (i := 42) hx hb hK hW hS rfl (z_ix rfl (by omega) (by omega)) dX12_pour_173 (fun H locs hz1 hW hS => ?_)
              obtain ⟨I155, eI155⟩ : ∃ K : z_I, K = z_up I120 42 (I 0 55).toNatClampNeg (vp_nar .boolean 1) := ⟨_, rfl⟩
              rw [← eI155] at hW
              have f156 := z_fr_a f121 (show z_wa L_X12_pour_p 42 = true by decide) eI155
              have a157 := z_rg_n a122 (by decide) eI155
              have a158 := z_rg_n a123 (by decide) eI155
              have a159 := z_rg_n a124 (by decide) eI155
              refine lv_aload_n hx hb dX12_pour_174 rfl (lv_at hl 0 rfl) ?_
              refine z_get (T := TX12) (N := 96) (ci := 12) (i := 0) (v := .ref (ad 41)) hx hb hts zj_X12_pour_X12 hown hK hW rfl rfl 64 (by decide) (hts (.fieldLink RX12 139 "PetrolBoardModel" "pourCome" "[I") (me_s (me_l (me_l (List.mem_of_getElem? (i := 11) rfl))))) (fun _ h => h) rfl dX12_pour_175 ?_
              refine lv_aload_n hx hb dX12_pour_178 rfl (lv_at hl 0 rfl) ?_
              refine z_get (T := TX12) (N := 96) (ci := 12) (i := 0) (v := .int (I 0 55)) hx hb hts zj_X12_pour_X12 hown hK hW rfl rfl 55 (by decide) (hts (.fieldLink RX12 468 "PetrolBoardModel" "pours" "I") (me_s (me_l (me_l (List.mem_of_getElem? (i := 1) rfl))))) (fun _ h => h) (congrArg Value.int (by rw [eI155, z_up_n (by decide), eI120, z_up_n (by decide), eI115, z_up_n (by decide), eI42, z_up_n (by decide), eI34, z_up_n (by decide), eI28, z_up_n (by decide), eI23, z_up_n (by decide), eI18, z_up_n (by decide)])) dX12_pour_179 ?_
              refine lv_aload_n hx hb dX12_pour_182 rfl (lv_at hl 0 rfl) ?_
              refine z_get (T := TX12) (N := 96) (ci := 12) (i := 0) (v := .int (I 0 56)) hx hb hts zj_X12_pour_X12 hown hK hW rfl rfl 56 (by decide) (hts (.fieldLink RX12 471 "PetrolBoardModel" "comes" "I") (me_s (me_l (me_l (List.mem_of_getElem? (i := 12) rfl))))) (fun _ h => h) (congrArg Value.int (by rw [eI155, z_up_n (by decide), eI120, z_up_n (by decide), eI115, z_up_n (by decide), eI42, z_up_n (by decide), eI34, z_up_n (by decide), eI28, z_up_n (by decide), eI23, z_up_n (by decide), eI18, z_up_n (by decide)])) dX12_pour_183 ?_
              refine z_iast (i := 41) hx hb hK hW hS rfl (z_ix rfl (by omega) (by omega)) dX12_pour_186 (fun H locs hz1 hW hS => ?_)
              obtain ⟨I160, eI160⟩ : ∃ K : z_I, K = z_up I155 41 (I 0 55).toNatClampNeg (I 0 56) := ⟨_, rfl⟩
              rw [← eI160] at hW
              have f161 := z_fr_a f156 (show z_wa L_X12_pour_p 41 = true by decide) eI160
              have a162 := z_rg_n a157 (by decide) eI160
              have a163 := z_rg_n a158 (by decide) eI160
              have a164 := z_rg_n a159 (by decide) eI160
              refine lv_aload_n hx hb dX12_pour_187 rfl (lv_at hl 0 rfl) ?_
              refine lv_dup hx hb dX12_pour_188 rfl ?_
              refine z_get (T := TX12) (N := 96) (ci := 12) (i := 0) (v := .int (I 0 56)) hx hb hts zj_X12_pour_X12 hown hK hW rfl rfl 56 (by decide) (hts (.fieldLink RX12 471 "PetrolBoardModel" "comes" "I") (me_s (me_l (me_l (List.mem_of_getElem? (i := 12) rfl))))) (fun _ h => h) (congrArg Value.int (by rw [eI160, z_up_n (by decide), eI155, z_up_n (by decide), eI120, z_up_n (by decide), eI115, z_up_n (by decide), eI42, z_up_n (by decide), eI34, z_up_n (by decide), eI28, z_up_n (by decide), eI23, z_up_n (by decide), eI18, z_up_n (by decide)])) dX12_pour_189 ?_
              refine lv_iconst (v := 1) hx hb dX12_pour_192 (by decide) ?_
              refine lv_iadd hx hb dX12_pour_193 ?_
              refine lv_topi (fun x165 ex165 => ?_)
              refine z_put (T := TX12) (N := 96) (ci := 12) (i := 0) (v := .int x165) (I1 := z_up I160 0 56 x165) (J1 := J) (P1 := PM ad) hx hb hts zj_X12_pour_X12 tyX12 tyX12_ok nmX12 hown hK hW hS rfl rfl 56 (by decide) (hts (.fieldLink RX12 471 "PetrolBoardModel" "comes" "I") (me_s (me_l (me_l (List.mem_of_getElem? (i := 12) rfl))))) (fun _ h => h) rfl rfl rfl (by first | rfl | exact congrArg _ z_up_s) (fun a b h ty => z_vI h ty) dX12_pour_194 (fun H locs hz1 hW hS => ?_)
              obtain ⟨I166, eI166⟩ : ∃ K : z_I, K = z_up I160 0 56 x165 := ⟨_, rfl⟩
              rw [← eI166] at hW
              have f167 := z_fr_k f161 (show z_wr L_X12_pour_p 0 56 = true by decide) eI166
              have a168 := z_rg_n a162 (by decide) eI166
              have a169 := z_rg_n a163 (by decide) eI166
              have a170 := z_rg_n a164 (by decide) eI166
              refine lv_aload_n hx hb dX12_pour_197 rfl (lv_at hl 0 rfl) ?_
              refine lv_dup hx hb dX12_pour_198 rfl ?_
              refine z_get (T := TX12) (N := 96) (ci := 12) (i := 0) (v := .int (I 0 55)) hx hb hts zj_X12_pour_X12 hown hK hW rfl rfl 55 (by decide) (hts (.fieldLink RX12 468 "PetrolBoardModel" "pours" "I") (me_s (me_l (me_l (List.mem_of_getElem? (i := 1) rfl))))) (fun _ h => h) (congrArg Value.int (by rw [eI166, z_up_k (by decide), eI160, z_up_n (by decide), eI155, z_up_n (by decide), eI120, z_up_n (by decide), eI115, z_up_n (by decide), eI42, z_up_n (by decide), eI34, z_up_n (by decide), eI28, z_up_n (by decide), eI23, z_up_n (by decide), eI18, z_up_n (by decide)])) dX12_pour_199 ?_
              refine lv_iconst (v := 1) hx hb dX12_pour_202 (by decide) ?_
              refine lv_iadd hx hb dX12_pour_203 ?_
              refine lv_topi (fun x171 ex171 => ?_)
              have tx171 : x171.toInt = (I 0 55).toInt + 1 := z_tadd ex171 rfl z_l1 (by omega) (by omega)
              refine z_put (T := TX12) (N := 96) (ci := 12) (i := 0) (v := .int x171) (I1 := z_up I166 0 55 x171) (J1 := J) (P1 := PM ad) hx hb hts zj_X12_pour_X12 tyX12 tyX12_ok nmX12 hown hK hW hS rfl rfl 55 (by decide) (hts (.fieldLink RX12 468 "PetrolBoardModel" "pours" "I") (me_s (me_l (me_l (List.mem_of_getElem? (i := 1) rfl))))) (fun _ h => h) rfl rfl rfl (by first | rfl | exact congrArg _ z_up_s) (fun a b h ty => z_vI h ty) dX12_pour_204 (fun H locs hz1 hW hS => ?_)
              obtain ⟨I172, eI172⟩ : ∃ K : z_I, K = z_up I166 0 55 x171 := ⟨_, rfl⟩
              rw [← eI172] at hW
              have f173 := z_fr_k f167 (show z_wr L_X12_pour_p 0 55 = true by decide) eI172
              have a174 := z_rg_n a168 (by decide) eI172
              have a175 := z_rg_n a169 (by decide) eI172
              have a176 := z_rg_n a170 (by decide) eI172
              refine lv_aload_n hx hb dX12_pour_207 rfl (lv_at hl 0 rfl) ?_
              refine z_get (T := TX12) (N := 96) (ci := 12) (i := 0) (v := .int x171) hx hb hts zj_X12_pour_X12 hown hK hW rfl rfl 55 (by decide) (hts (.fieldLink RX12 468 "PetrolBoardModel" "pours" "I") (me_s (me_l (me_l (List.mem_of_getElem? (i := 1) rfl))))) (fun _ h => h) (congrArg Value.int (by rw [eI172, z_up_s])) dX12_pour_208 ?_
              refine lv_iconst (v := 1) hx hb dX12_pour_211 (by decide) ?_
              refine lv_isub hx hb dX12_pour_212 ?_
              refine lv_topi (fun x177 ex177 => ?_)
              have tx177 : x177.toInt = x171.toInt - 1 := z_tsub ex177 rfl z_l1 (by omega) (by omega)
              exact z_iret hx hb hr hK hS (Nat.le_of_ble_eq_true rfl) (Nat.le_of_ble_eq_true rfl) hlocks dX12_pour_213 (shM, ad, I172, J, PM ad) hW ⟨I172, J, rfl, ⟨(by show 0 ≤ (I172 0 0).toInt ∧ (I172 0 0).toInt ≤ 719; rw [eI172, z_up_k (by decide), eI166, z_up_k (by decide), eI160, z_up_n (by decide), eI155, z_up_n (by decide), eI120, z_up_n (by decide), eI115, z_up_n (by decide), eI42, z_up_n (by decide), eI34, z_up_n (by decide), eI28, z_up_n (by decide), eI23, z_up_n (by decide), eI18, z_up_n (by decide)]; exact hma.1), (by show 0 ≤ (I172 0 1).toInt ∧ (I172 0 1).toInt ≤ 30; rw [eI172, z_up_k (by decide), eI166, z_up_k (by decide), eI160, z_up_n (by decide), eI155, z_up_n (by decide), eI120, z_up_n (by decide), eI115, z_up_n (by decide), eI42, z_up_n (by decide), eI34, z_up_n (by decide), eI28, z_up_n (by decide), eI23, z_up_n (by decide), eI18, z_up_n (by decide)]; exact hma.2.1), (by show 0 ≤ (I172 0 2).toInt ∧ (I172 0 2).toInt ≤ 200; rw [eI172, z_up_k (by decide), eI166, z_up_k (by decide), eI160, z_up_n (by decide), eI155, z_up_n (by decide), eI120, z_up_n (by decide), eI115, z_up_n (by decide), eI42, z_up_n (by decide), eI34, z_up_n (by decide), eI28, z_up_n (by decide), eI23, z_up_n (by decide), eI18, z_up_n (by decide)]; exact hma.2.2)⟩, ⟨(by show 0 ≤ (I172 0 54).toInt ∧ (I172 0 54).toInt ≤ 10; rw [eI172, z_up_k (by decide), eI166, z_up_k (by decide), eI160, z_up_n (by decide), eI155, z_up_n (by decide), eI120, z_up_n (by decide), eI115, z_up_n (by decide), eI42, z_up_n (by decide), eI34, z_up_n (by decide), eI28, z_up_n (by decide), eI23, z_up_n (by decide), eI18, z_up_n (by decide)]; exact hms.1), (by show 0 ≤ (I172 0 55).toInt ∧ (I172 0 55).toInt ≤ 300; rw [eI172, z_up_s]; omega)⟩, a174, ⟨(by show 0 ≤ (I172 0 13).toInt ∧ (I172 0 13).toInt ≤ 12; rw [eI172, z_up_k (by decide), eI166, z_up_k (by decide), eI160, z_up_n (by decide), eI155, z_up_n (by decide), eI120, z_up_n (by decide), eI115, z_up_n (by decide), eI42, z_up_n (by decide), eI34, z_up_n (by decide), eI28, z_up_n (by decide), eI23, z_up_n (by decide), eI18, z_up_n (by decide)]; exact hmb.1), (by show 0 ≤ (I172 0 14).toInt ∧ (I172 0 14).toInt ≤ 288; rw [eI172, z_up_k (by decide), eI166, z_up_k (by decide), eI160, z_up_n (by decide), eI155, z_up_n (by decide), eI120, z_up_n (by decide), eI115, z_up_n (by decide), eI42, z_up_n (by decide), eI34, z_up_n (by decide), eI28, z_up_n (by decide), eI23, z_up_n (by decide), eI18, z_up_n (by decide)]; exact hmb.2)⟩, a175, a176, f173, (Or.inl ⟨by omega, by omega, (by have q9 : (I172 0 55) = x171 := (by rw [eI172, z_up_s]); show (I172 0 55).toInt = (I 0 55).toInt + 1; rw [q9]; first | done | omega), x40, (vp_nar .boolean 1), (-1), (by have q1 : (I34 0 0).toInt = (I 0 0).toInt := (by rw [f35 0 0 (by decide)]); rw [hM41, zb_am_c (fun j => ⟨f35 11 _ (z_wr_c (by decide)), f35 12 _ (z_wr_c (by decide)), f35 13 _ (z_wr_c (by decide)), f35 14 _ (z_wr_c (by decide)), f35 15 _ (z_wr_c (by decide)), f35 16 _ (z_wr_c (by decide))⟩) (f35 0 13 (by decide)), show x39.toInt = (I 0 0).toInt / 30 by omega]), (Or.inl ⟨by decide, by rw [← ((show x125.toInt = z_fm I120 a2 from (by unfold z_fm; rw [f121 0 0 (by decide)]; exact h126)).trans (z_fm_c (a := a2) (fun j => ⟨f121 6 j (z_wr_c (by decide)), f121 7 j (z_wr_c (by decide)), f121 8 j (z_wr_c (by decide)), f121 9 j (z_wr_c (by decide)), f121 10 j (z_wr_c (by decide))⟩) (f121 0 0 (by decide)) (f121 0 2 (by decide))))]; omega⟩), (by unfold zb_OM; rw [if_neg (fun q => hb47 ((zb_hm_c (I := I) (fun j => f43 31 j (z_wr_c (by decide)))).mpr q))]; decide), (fun j => by rw [eI172, z_up_n (by decide), eI166, z_up_n (by decide), eI160, z_up_n (by decide), eI155, z_up_n (by decide), eI120, z_up_n (by decide), eI115, z_up_n (by decide), eI42, z_up_n (by decide), eI34, z_up_n (by decide), eI28, z_up_n (by decide), eI23, z_up_n (by decide), eI18, z_up_j]), (fun j => by rw [eI172, z_up_n (by decide), eI166, z_up_n (by decide), eI160, z_up_n (by decide), eI155, z_up_n (by decide), eI120, z_up_n (by decide), eI115, z_up_n (by decide), eI42, z_up_n (by decide), eI34, z_up_n (by decide), eI28, z_up_n (by decide), eI23, z_up_j, eI18, z_up_n (by decide)]), (fun j => by rw [eI172, z_up_n (by decide), eI166, z_up_n (by decide), eI160, z_up_n (by decide), eI155, z_up_n (by decide), eI120, z_up_n (by decide), eI115, z_up_n (by decide), eI42, z_up_n (by decide), eI34, z_up_n (by decide), eI28, z_up_j, eI23, z_up_n (by decide), eI18, z_up_n (by decide)]), (fun j => by rw [eI172, z_up_n (by decide), eI166, z_up_n (by decide), eI160, z_up_n (by decide), eI155, z_up_n (by decide), eI120, z_up_n (by decide), eI115, z_up_n (by decide), eI42, z_up_n (by decide), eI34, z_up_j, eI28, z_up_n (by decide), eI23, z_up_n (by decide), eI18, z_up_n (by decide)]), (fun j => by rw [eI172, z_up_n (by decide), eI166, z_up_n (by decide), eI160, z_up_n (by decide), eI155, z_up_n (by decide), eI120, z_up_n (by decide), eI115, z_up_n (by decide), eI42, z_up_j, eI34, z_up_n (by decide), eI28, z_up_n (by decide), eI23, z_up_n (by decide), eI18, z_up_n (by decide)]), (fun j => by rw [eI172, z_up_n (by decide), eI166, z_up_n (by decide), eI160, z_up_n (by decide), eI155, z_up_n (by decide), eI120, z_up_j, eI115, z_up_n (by decide), eI42, z_up_n (by decide), eI34, z_up_n (by decide), eI28, z_up_n (by decide), eI23, z_up_n (by decide), eI18, z_up_n (by decide)]), (fun j => by rw [eI172, z_up_n (by decide), eI166, z_up_n (by decide), eI160, z_up_n (by decide), eI155, z_up_j, eI120, z_up_n (by decide), eI115, z_up_n (by decide), eI42, z_up_n (by decide), eI34, z_up_n (by decide), eI28, z_up_n (by decide), eI23, z_up_n (by decide), eI18, z_up_n (by decide)]), (fun j => by rw [eI172, z_up_n (by decide), eI166, z_up_n (by decide), eI160, z_up_n (by decide), eI155, z_up_n (by decide), eI120, z_up_n (by decide), eI115, z_up_j, eI42, z_up_n (by decide), eI34, z_up_n (by decide), eI28, z_up_n (by decide), eI23, z_up_n (by decide), eI18, z_up_n (by decide)])⟩)⟩
        · have g178 := z_f_eq rfl z_l300 c16
          refine lv_iconst (v := (-1)) hx hb dX12_pour_37 (by decide) ?_
          exact z_iret hx hb hr hK hS (Nat.le_of_ble_eq_true rfl) (Nat.le_of_ble_eq_true rfl) hlocks dX12_pour_38 (shM, ad, I, J, PM ad) hW ⟨I, J, rfl, ⟨(by show 0 ≤ (I 0 0).toInt ∧ (I 0 0).toInt ≤ 719; exact hma.1), (by show 0 ≤ (I 0 1).toInt ∧ (I 0 1).toInt ≤ 30; exact hma.2.1), (by show 0 ≤ (I 0 2).toInt ∧ (I 0 2).toInt ≤ 200; exact hma.2.2)⟩, ⟨(by show 0 ≤ (I 0 54).toInt ∧ (I 0 54).toInt ≤ 10; exact hms.1), (by show 0 ≤ (I 0 55).toInt ∧ (I 0 55).toInt ≤ 300; exact hms.2)⟩, hApc, ⟨(by show 0 ≤ (I 0 13).toInt ∧ (I 0 13).toInt ≤ 12; exact hmb.1), (by show 0 ≤ (I 0 14).toInt ∧ (I 0 14).toInt ≤ 288; exact hmb.2)⟩, hAtf, hAtm, z_fr_0, (Or.inr ⟨by omega, by decide, (by show (I 0 55).toInt = (I 0 55).toInt; omega), (fun j => ⟨rfl, rfl, rfl, rfl, rfl, rfl, rfl, rfl⟩)⟩)⟩
      · have h179 := h9
        have z180 := z_l0
        have z181 := z_l99999
        refine lv_if_eq (tgt := 37) hx hb dX12_pour_24 (by decide) (fun c182 => ?_) (fun c182 => absurd (by decide) c182)
        refine lv_iconst (v := (-1)) hx hb dX12_pour_37 (by decide) ?_
        exact z_iret hx hb hr hK hS (Nat.le_of_ble_eq_true rfl) (Nat.le_of_ble_eq_true rfl) hlocks dX12_pour_38 (shM, ad, I, J, PM ad) hW ⟨I, J, rfl, ⟨(by show 0 ≤ (I 0 0).toInt ∧ (I 0 0).toInt ≤ 719; exact hma.1), (by show 0 ≤ (I 0 1).toInt ∧ (I 0 1).toInt ≤ 30; exact hma.2.1), (by show 0 ≤ (I 0 2).toInt ∧ (I 0 2).toInt ≤ 200; exact hma.2.2)⟩, ⟨(by show 0 ≤ (I 0 54).toInt ∧ (I 0 54).toInt ≤ 10; exact hms.1), (by show 0 ≤ (I 0 55).toInt ∧ (I 0 55).toInt ≤ 300; exact hms.2)⟩, hApc, ⟨(by show 0 ≤ (I 0 13).toInt ∧ (I 0 13).toInt ≤ 12; exact hmb.1), (by show 0 ≤ (I 0 14).toInt ∧ (I 0 14).toInt ≤ 288; exact hmb.2)⟩, hAtf, hAtm, z_fr_0, (Or.inr ⟨by omega, by decide, (by show (I 0 55).toInt = (I 0 55).toInt; omega), (fun j => ⟨rfl, rfl, rfl, rfl, rfl, rfl, rfl, rfl⟩)⟩)⟩
    · have h183 := h5
      have r184 : 0 ≤ (I 0 1).toInt ∧ (I 0 1).toInt ≤ 30 := hma.2.1
      refine lv_if_eq (tgt := 37) hx hb dX12_pour_13 (by decide) (fun c185 => ?_) (fun c185 => absurd (by decide) c185)
      refine lv_iconst (v := (-1)) hx hb dX12_pour_37 (by decide) ?_
      exact z_iret hx hb hr hK hS (Nat.le_of_ble_eq_true rfl) (Nat.le_of_ble_eq_true rfl) hlocks dX12_pour_38 (shM, ad, I, J, PM ad) hW ⟨I, J, rfl, ⟨(by show 0 ≤ (I 0 0).toInt ∧ (I 0 0).toInt ≤ 719; exact hma.1), (by show 0 ≤ (I 0 1).toInt ∧ (I 0 1).toInt ≤ 30; exact hma.2.1), (by show 0 ≤ (I 0 2).toInt ∧ (I 0 2).toInt ≤ 200; exact hma.2.2)⟩, ⟨(by show 0 ≤ (I 0 54).toInt ∧ (I 0 54).toInt ≤ 10; exact hms.1), (by show 0 ≤ (I 0 55).toInt ∧ (I 0 55).toInt ≤ 300; exact hms.2)⟩, hApc, ⟨(by show 0 ≤ (I 0 13).toInt ∧ (I 0 13).toInt ≤ 12; exact hmb.1), (by show 0 ≤ (I 0 14).toInt ∧ (I 0 14).toInt ≤ 288; exact hmb.2)⟩, hAtf, hAtm, z_fr_0, (Or.inr ⟨by omega, by decide, (by show (I 0 55).toInt = (I 0 55).toInt; omega), (fun j => ⟨rfl, rfl, rfl, rfl, rfl, rfl, rfl, rfl⟩)⟩)⟩
  · have h186 := h1
    have r187 : 0 ≤ (I 0 54).toInt ∧ (I 0 54).toInt ≤ 10 := hms.1
    refine lv_if_eq (tgt := 37) hx hb dX12_pour_5 (by decide) (fun c188 => ?_) (fun c188 => absurd (by decide) c188)
    refine lv_iconst (v := (-1)) hx hb dX12_pour_37 (by decide) ?_
    exact z_iret hx hb hr hK hS (Nat.le_of_ble_eq_true rfl) (Nat.le_of_ble_eq_true rfl) hlocks dX12_pour_38 (shM, ad, I, J, PM ad) hW ⟨I, J, rfl, ⟨(by show 0 ≤ (I 0 0).toInt ∧ (I 0 0).toInt ≤ 719; exact hma.1), (by show 0 ≤ (I 0 1).toInt ∧ (I 0 1).toInt ≤ 30; exact hma.2.1), (by show 0 ≤ (I 0 2).toInt ∧ (I 0 2).toInt ≤ 200; exact hma.2.2)⟩, ⟨(by show 0 ≤ (I 0 54).toInt ∧ (I 0 54).toInt ≤ 10; exact hms.1), (by show 0 ≤ (I 0 55).toInt ∧ (I 0 55).toInt ≤ 300; exact hms.2)⟩, hApc, ⟨(by show 0 ≤ (I 0 13).toInt ∧ (I 0 13).toInt ≤ 12; exact hmb.1), (by show 0 ≤ (I 0 14).toInt ∧ (I 0 14).toInt ≤ 288; exact hmb.2)⟩, hAtf, hAtm, z_fr_0, (Or.inr ⟨by omega, by decide, (by show (I 0 55).toInt = (I 0 55).toInt; omega), (fun j => ⟨rfl, rfl, rfl, rfl, rfl, rfl, rfl, rfl⟩)⟩)⟩
end SG60za
section SG60zb
/-! LENT on both sides -/
noncomputable def z_RL (Ix Im : z_I) (q : Int) : Prop := (7 * (Ix 26 4).toInt ≤ q ∧ 0 ≤ (Ix 26 4).toInt) ∧ (∀ k : Nat, (k : Int) < (Ix 26 4).toInt → (0 ≤ (Ix 28 k).toInt ∧ (Ix 28 k).toInt ≤ 71999) ∧ 0 ≤ (Ix 29 k).toInt ∧ (Ix 29 k).toInt ≤ 29) ∧ (∀ a : Nat, a < 72000 → (Im 32 a).toInt = if zb_K Ix (a : Int) (Ix 26 4).toNatClampNeg = -1 then 0 else (Ix 29 (zb_K Ix (a : Int) (Ix 26 4).toNatClampNeg).toNat).toInt + 1) ∧ ∀ b : Int, 0 ≤ b → b < 720 → zb_C Ix b (Ix 26 4).toNatClampNeg = zb_M Im b 100
theorem z_RL_same {Ix Im Ix1 Im1 : z_I} {q q1 : Int} (h : z_RL Ix Im q) (hq : q ≤ q1) (eN : Ix1 26 4 = Ix 26 4) (hx : ∀ j, Ix1 28 j = Ix 28 j ∧ Ix1 29 j = Ix 29 j) (hm : ∀ j, Im1 32 j = Im 32 j) : z_RL Ix1 Im1 q1 := by
  obtain ⟨⟨a1, a2⟩, a3, a4, a5⟩ := h
  unfold z_RL
  rw [eN]
  refine ⟨⟨by omega, a2⟩, fun k hk => ?_, fun a ha => ?_, fun b b0 b1 => ?_⟩
  · rw [(hx k).1, (hx k).2]
    exact a3 k hk
  · rw [hm, zb_K_C (fun j => (hx j).1), (hx _).2]
    exact a4 a ha
  · rw [zb_C_c _ (fun j _ => (hx j).1), zb_M_c _ (fun j _ => hm _)]
    exact a5 b b0 b1
theorem z_RL_lend {Ix Im Ix1 Im1 : z_I} {q q1 : Int} {x t v : Int32} (h : z_RL Ix Im q) (hq : q + 7 ≤ q1) (eN : (Ix1 26 4).toInt = (Ix 26 4).toInt + 1) (x1 : ∀ j, Ix1 28 j = if j = (Ix 26 4).toNatClampNeg then x else Ix 28 j) (x2 : ∀ j, Ix1 29 j = if j = (Ix 26 4).toNatClampNeg then t else Ix 29 j) (m1 : ∀ j, Im1 32 j = if j = x.toInt.toNat then v else Im 32 j) (hv : v.toInt = t.toInt + 1) (hx : 0 ≤ x.toInt ∧ x.toInt < 72000) (ht : 0 ≤ t.toInt ∧ t.toInt ≤ 29) (hK : zb_K Ix x.toInt (Ix 26 4).toNatClampNeg = -1) : z_RL Ix1 Im1 q1 := sorry
/-! POURS on both sides -/
noncomputable def z_RP (Ix Im : z_I) : Prop := ∀ j : Nat, (j : Int) < (Ix 30 8).toInt → (Ix 31 j = Im 34 j ∧ Ix 32 j = Im 35 j ∧ Ix 33 j = Im 36 j ∧ Ix 34 j = Im 37 j ∧ Ix 35 j = Im 38 j ∧ Ix 36 j = Im 40 j ∧ Ix 38 j = Im 39 j) ∧ (((Ix 37 j).toInt = 1 ∧ ¬ (Im 42 j).toInt = 0) ∨ ((Ix 37 j).toInt = 0 ∧ (Im 42 j).toInt = 0)) ∧ (0 ≤ (Ix 33 j).toInt ∧ (Ix 33 j).toInt ≤ 99999) ∧ -1 ≤ (Ix 36 j).toInt ∧ 0 ≤ (Ix 34 j).toInt
theorem z_RP_same {Ix Im Ix1 Im1 : z_I} (h : z_RP Ix Im) (eN : (Ix1 30 8).toInt = (Ix 30 8).toInt) (hx : zp_sX Ix1 Ix) (hm : zp_sM Im1 Im) : z_RP Ix1 Im1 := fun j hj => by
  obtain ⟨a0, a1, a2, a3, a4, a5, a6, a7⟩ := hx j
  obtain ⟨b0, b1, b2, b3, b4, b5, b6, b7⟩ := hm j
  rw [a0, a1, a2, a3, a4, a5, a6, a7, b0, b1, b2, b3, b4, b5, b6, b7]
  exact h j (by omega)
theorem z_RP_pour {Ix Im Ix1 Im1 : z_I} {n n1 : Nat} {v0 v1 v2 v3 v4 v5 v6 v7 w0 w1 w2 w3 w4 w5 w6 w7 : Int32} (h : z_RP Ix Im) (eN : (Ix1 30 8).toInt = (Ix 30 8).toInt + 1) (en : (n : Int) = (Ix 30 8).toInt) (en1 : n1 = n) (hx : zp_rX Ix1 Ix n v0 v1 v2 v3 v4 v5 v6 v7) (hm : zp_rM Im1 Im n1 w0 w1 w2 w3 w4 w5 w6 w7) (e0 : w0 = v0) (e1 : w1 = v1) (e2 : w2 = v2) (e3 : w3 = v3) (e4 : w4 = v4) (e5 : w5 = v5) (e7 : w7 = v7) (hd : (v6.toInt = 1 ∧ ¬ w6.toInt = 0) ∨ (v6.toInt = 0 ∧ w6.toInt = 0)) (hc : 0 ≤ v2.toInt ∧ v2.toInt ≤ 99999) (hv : v5.toInt = -1) (h3 : 0 ≤ v3.toInt) : z_RP Ix1 Im1 := fun j hj => by
  subst en1 e0 e1 e2 e3 e4 e5 e7
  obtain ⟨a0, a1, a2, a3, a4, a5, a6, a7⟩ := hx
  obtain ⟨b0, b1, b2, b3, b4, b5, b6, b7⟩ := hm
  rw [a0, a1, a2, a3, a4, a5, a6, a7, b0, b1, b2, b3, b4, b5, b6, b7]
  by_cases q : j = n1
  · simp only [if_pos q]
    exact ⟨⟨trivial, trivial, trivial, trivial, trivial, trivial, trivial⟩, hd, hc, by omega, h3⟩
  · simp only [if_neg q]
    exact h j (by omega)
/-- only the VERDICTS have moved -/
theorem z_RP_ver {Ix Im Ix1 Im1 : z_I} (h : z_RP Ix Im) (eN : (Ix1 30 8).toInt = (Ix 30 8).toInt) (hx : ∀ j, Ix1 31 j = Ix 31 j ∧ Ix1 32 j = Ix 32 j ∧ Ix1 33 j = Ix 33 j ∧ Ix1 34 j = Ix 34 j ∧ Ix1 35 j = Ix 35 j ∧ Ix1 37 j = Ix 37 j ∧ Ix1 38 j = Ix 38 j) (hm : ∀ j, Im1 34 j = Im 34 j ∧ Im1 35 j = Im 35 j ∧ Im1 36 j = Im 36 j ∧ Im1 37 j = Im 37 j ∧ Im1 38 j = Im 38 j ∧ Im1 42 j = Im 42 j ∧ Im1 39 j = Im 39 j) (hv : ∀ j : Nat, (j : Int) < (Ix 30 8).toInt → (Ix1 36 j).toInt = (Im1 40 j).toInt ∧ -1 ≤ (Ix1 36 j).toInt) : z_RP Ix1 Im1 := fun j hj => by
  obtain ⟨a0, a1, a2, a3, a4, a5, a6⟩ := hx j
  obtain ⟨b0, b1, b2, b3, b4, b5, b6⟩ := hm j
  obtain ⟨v1, v2⟩ := hv j (by omega)
  obtain ⟨⟨c0, c1, c2, c3, c4, c5, c6⟩, d1, d2, d3, d4⟩ := h j (by omega)
  rw [a0, a1, a2, a3, a4, a5, a6, b0, b1, b2, b3, b4, b5, b6]
  exact ⟨⟨c0, c1, c2, c3, c4, Int32.toInt_inj.mp v1, c6⟩, d1, d2, v2, d4⟩
theorem z_RP_dm {Ix Im : z_I} (h : z_RP Ix Im) (hn : (Ix 30 8).toInt = (Im 0 55).toInt) : ∀ j : Nat, (j : Int) < (Im 0 55).toInt → 0 ≤ (Im 37 j).toInt := fun j hj => by
  obtain ⟨⟨_, _, _, e, _⟩, _, _, _, q⟩ := h j (by omega)
  rw [← e]
  exact q
/-- which COUPONS were handed in -/
noncomputable def z_RW (Ix Im : z_I) : Prop := ∀ a : Int, 0 ≤ a → a ≤ 99999 → (zr_W Im a = true ↔ ∃ p, p < (Ix 30 8).toNatClampNeg ∧ zp_C Ix p = a ∧ ¬ zp_Vw Ix p = -1)
theorem z_RW_same {Ix Im Ix1 Im1 : z_I} (h : z_RW Ix Im) (eN : Ix1 30 8 = Ix 30 8) (hx : ∀ j, Ix1 33 j = Ix 33 j ∧ Ix1 36 j = Ix 36 j) (hm : ∀ j, Im1 33 j = Im 33 j) : z_RW Ix1 Im1 := fun a a0 a9 => by
  have e1 : zp_C Ix1 = zp_C Ix := funext fun j => by unfold zp_C; rw [(hx j).1]
  have e2 : zp_Vw Ix1 = zp_Vw Ix := funext fun j => by unfold zp_Vw; rw [(hx j).2]
  have e3 : zr_W Im1 a = zr_W Im a := by unfold zr_W; rw [hm]
  rw [e1, e2, e3, eN]
  exact h a a0 a9
theorem z_RW_pour {Ix Im Ix1 Im1 : z_I} {n : Nat} {x v : Int32} (h : z_RW Ix Im) (hn : n = (Ix 30 8).toNatClampNeg) (hn1 : (Ix1 30 8).toNatClampNeg = n + 1) (x1 : ∀ j, Ix1 33 j = if j = n then x else Ix 33 j) (x2 : ∀ j, Ix1 36 j = if j = n then v else Ix 36 j) (hv : v.toInt = -1) (hm : ∀ j, Im1 33 j = Im 33 j) : z_RW Ix1 Im1 := fun a a0 a9 => by
  have e3 : zr_W Im1 a = zr_W Im a := by unfold zr_W; rw [hm]
  have o : ∀ j, ¬ j = n → zp_C Ix1 j = zp_C Ix j ∧ zp_Vw Ix1 j = zp_Vw Ix j := fun j hj => by
    unfold zp_C zp_Vw
    rw [x1, x2, if_neg hj, if_neg hj]
    exact ⟨rfl, rfl⟩
  have on : zp_Vw Ix1 n = -1 := by
    unfold zp_Vw
    rw [x2, if_pos rfl]
    exact hv
  rw [e3, h a a0 a9, hn1, ← hn]
  refine ⟨fun ⟨p, p1, p2, p3⟩ => ⟨p, by omega, ?_, ?_⟩, fun ⟨p, p1, p2, p3⟩ => ?_⟩
  · rw [(o p (by omega)).1]
    exact p2
  · rw [(o p (by omega)).2]
    exact p3
  · have hp : ¬ p = n := fun w => p3 (by rw [w]; exact on)
    rw [(o p hp).1] at p2
    rw [(o p hp).2] at p3
    exact ⟨p, by omega, p2, p3⟩
/-! the answers are the same -/
theorem z_RL_O {Ix Im : z_I} {q a : Int} (hI : z_RI Ix Im) (h : z_RL Ix Im q) : zb_OX Ix a = zb_OM Im a := by
  unfold zb_OX zb_OM
  by_cases w : zb_hx Ix a
  · rw [if_pos w, if_pos ((zb_h_e hI).mp w)]
    obtain ⟨w1, w2, _⟩ := w
    obtain ⟨⟨a1, a2⟩, a3, a4, a5⟩ := h
    have e := a4 a.toNat (by omega)
    rw [show ((a.toNat : Nat) : Int) = a by omega] at e
    have cN := z_clt (x := (Ix 26 4)) rfl a2
    have bd := zb_K_b (I := Ix) (a := a) (Ix 26 4).toNatClampNeg
    unfold zb_O zb_P
    rw [e]
    by_cases z : zb_K Ix a (Ix 26 4).toNatClampNeg = -1
    · rw [if_pos z, if_pos z, if_neg (by decide)]
    · have t := (a3 (zb_K Ix a (Ix 26 4).toNatClampNeg).toNat (by omega)).2
      rw [if_neg z, if_neg z, if_pos (by omega)]
      omega
  · rw [if_neg w, if_neg (fun z => w ((zb_h_e hI).mpr z))]
theorem z_RL_K {Ix Im : z_I} {q a : Int} (h : z_RL Ix Im q) (h0 : 0 ≤ a) (h1 : a < 72000) : zb_K Ix a (Ix 26 4).toNatClampNeg = -1 ↔ ¬ 0 < (Im 32 a.toNat).toInt := by
  obtain ⟨⟨a1, a2⟩, a3, a4, a5⟩ := h
  have e := a4 a.toNat (by omega)
  rw [show ((a.toNat : Nat) : Int) = a by omega] at e
  have cN := z_clt (x := (Ix 26 4)) rfl a2
  have bd := zb_K_b (I := Ix) (a := a) (Ix 26 4).toNatClampNeg
  rw [e]
  by_cases z : zb_K Ix a (Ix 26 4).toNatClampNeg = -1
  · rw [if_pos z]
    exact ⟨fun _ => by decide, fun _ => z⟩
  · have t := (a3 (zb_K Ix a (Ix 26 4).toNatClampNeg).toNat (by omega)).2
    rw [if_neg z]
    exact ⟨fun w => absurd w z, fun w => absurd (by omega) w⟩
theorem z_RW_h {Ix Im : z_I} {a : Int} (h : z_RW Ix Im) (h0 : 0 ≤ a) (h1 : a ≤ 99999) : zb_h Ix a (Ix 30 8).toNatClampNeg = false ↔ (Im 33 a.toNat).toInt = 0 := by
  have q := h a h0 h1
  have r := zf_h_i (C := zp_C Ix) (V := zp_Vw Ix) (a := a) (Ix 30 8).toNatClampNeg
  have e : zr_W Im a = true ↔ ¬ (Im 33 a.toNat).toInt = 0 := by
    unfold zr_W
    exact decide_eq_true_iff
  unfold zb_h
  constructor
  · intro w
    by_cases z : (Im 33 a.toNat).toInt = 0
    · exact z
    · exact absurd ((r.mpr (q.mp (e.mpr z))).symm.trans w) (by decide)
  · intro w
    cases z : zf_h (zp_C Ix) (zp_Vw Ix) a (Ix 30 8).toNatClampNeg with
    | false => rfl
    | true => exact absurd w (e.mp (q.mpr (r.mp z)))
/-- lend's two conditions -/
theorem z_RL_lc {c : z_C} {Ix Im : z_I} {q a to H : Int} (hI : z_RI Ix Im) (h : z_RL Ix Im q) (hW : z_RW Ix Im) (hO : z_OW c Ix Im) (hn : (Im 0 13).toNatClampNeg = c.2.1) (hq : q ≤ 3577) {td : Int} : (zb_hx Ix a ∧ (0 ≤ to ∧ to < H ∧ ¬ a / 2400 = to) ∧ zb_K Ix a (Ix 26 4).toNatClampNeg = -1 ∧ zb_h Ix a (Ix 30 8).toNatClampNeg = false ∧ zb_C Ix (a / 100) (Ix 26 4).toNatClampNeg < zb_ax c Ix 2 (a / 100 % 24) td ∧ (Ix 26 4).toInt < 512) ↔ (zb_hm Im a ∧ (0 ≤ to ∧ to < H ∧ ¬ a / 2400 = to) ∧ ¬ 0 < (Im 32 a.toNat).toInt ∧ (Im 33 a.toNat).toInt = 0 ∧ zb_M Im (a / 100) 100 < zb_am Im 2 (a / 100 % 24) td) := by
  have ea := zb_a_e (t := 2) (m := a / 100 % 24) (k := td) hO hn (by decide)
  have hb := h.1
  have hC := h.2.2.2
  constructor
  · intro w
    obtain ⟨w1, w2, w3, w4, w5, w6⟩ := w
    have b1 := w1.1
    have b2 := w1.2.1
    refine ⟨(zb_h_e hI).mp w1, w2, (z_RL_K h b1 b2).mp w3, (z_RW_h hW b1 (by omega)).mp w4, ?_⟩
    rw [← ea, ← hC (a / 100) (by omega) (by omega)]
    exact w5
  · intro w
    obtain ⟨w1, w2, w3, w4, w5⟩ := w
    have b1 := w1.1
    have b2 := w1.2.1
    refine ⟨(zb_h_e hI).mpr w1, w2, (z_RL_K h b1 b2).mpr w3, (z_RW_h hW b1 (by omega)).mpr w4, ?_, by omega⟩
    rw [ea, hC (a / 100) (by omega) (by omega)]
    exact w5
/-- handIn's two ways -/
theorem z_RP_f {c : z_C} {Ix Im : z_I} {s : Int} (hI : z_RI Ix Im) (h : z_RP Ix Im) (hW : z_RW Ix Im) (hO : z_OW c Ix Im) (hn : (Im 0 13).toNatClampNeg = c.2.1) (h0 : 0 ≤ (Ix 30 8).toInt) (hN : (Im 0 55).toNatClampNeg = (Ix 30 8).toNatClampNeg) : (∀ i, i < (Ix 30 8).toNatClampNeg → (zr_Fw Im s (Im 0 55).toNatClampNeg).1 i = (zp_Fw c Ix s (Ix 30 8).toNatClampNeg).1 i ∧ -1 ≤ (zp_Fw c Ix s (Ix 30 8).toNatClampNeg).1 i) ∧ (zr_Fw Im s (Im 0 55).toNatClampNeg).2.2 = (zp_Fw c Ix s (Ix 30 8).toNatClampNeg).2 ∧ ∀ a, 0 ≤ a → a ≤ 99999 → ((zr_Fw Im s (Im 0 55).toNatClampNeg).2.1 a = true ↔ ∃ p, p < (Ix 30 8).toNatClampNeg ∧ zp_C Ix p = a ∧ ¬ (zp_Fw c Ix s (Ix 30 8).toNatClampNeg).1 p = -1) := by
  have cN := z_clt (x := (Ix 30 8)) rfl h0
  rw [hN]
  refine zfg (fun j hj => ?_) (fun a a0 a9 => hW a a0 a9) (Ix 30 8).toNatClampNeg (Nat.le_refl _)
  obtain ⟨⟨c0, c1, c2, c3, c4, c5, c6⟩, d1, d2, d3, d4⟩ := h j (by omega)
  have e2 : zr_C Im j = zp_C Ix j := congrArg Int32.toInt c2.symm
  refine ⟨congrArg Int32.toInt c0.symm, e2, ?_, ?_, congrArg Int32.toInt c5.symm, d3, zp_B_0, d2.1, d2.2⟩
  · unfold zr_U zp_U
    rw [e2]
    exact decide_eq_decide.mpr (not_congr (zb_h_e hI).symm)
  · unfold zr_B zp_B zr_m zp_m
    rw [e2, ← c3, ← c1, ← c6, zb_a_e hO hn (by decide)]
theorem z_RP_t {Ix Im : z_I} {j : Nat} (h : z_RP Ix Im) (hj : (j : Int) < (Ix 30 8).toInt) (k : Nat) : zp_tm Im j k = zp_txw Ix j k := by
  obtain ⟨⟨c0, c1, c2, c3, c4, c5, c6⟩, d1, _⟩ := h j hj
  unfold zp_tm zp_txw
  rw [c0, c1, c2, c3, c4, c5]
  rcases d1 with ⟨p, q⟩ | ⟨p, q⟩
  · rw [p, if_neg q]
  · rw [p, if_pos q]
/-- behind handIn -/
theorem z_RW_ver {Ix Ix1 Im1 : z_I} {F : Nat → Int} {W : Int → Bool} (hf : ∀ a, 0 ≤ a → a ≤ 99999 → (W a = true ↔ ∃ p, p < (Ix 30 8).toNatClampNeg ∧ zp_C Ix p = a ∧ ¬ F p = -1)) (hr : ∀ a : Int, 0 ≤ a → a ≤ 99999 → zr_W Im1 a = W a) (hv : ∀ j, (Ix1 36 j).toInt = F j) (eN : Ix1 30 8 = Ix 30 8) (hC : ∀ j, Ix1 33 j = Ix 33 j) : z_RW Ix1 Im1 := fun a a0 a9 => by
  have e1 : zp_C Ix1 = zp_C Ix := funext fun j => by unfold zp_C; rw [hC]
  have e2 : zp_Vw Ix1 = F := funext hv
  rw [e1, e2, eN, hr a a0 a9]
  exact hf a a0 a9
theorem z_M0 (b : Int) : ∀ n : Nat, (0 : Int) = zb_M IM b n
  | 0 => rfl
  | n + 1 => by
    have e : (IM 32 (100 * b + (n : Int)).toNat).toInt = 0 := by
      show (0 : Int32).toInt = 0
      decide
    rw [zb_M, ← z_M0 b n, if_neg (by rw [e]; decide)]
    rfl
theorem zb_OM_e {I : z_I} {a r : Int} (h : (¬ zb_hm I a ∧ r = -1) ∨ (zb_hm I a ∧ r = zb_P I a)) : r = zb_OM I a := by
  unfold zb_OM
  rcases h with ⟨h, e⟩ | ⟨h, e⟩
  · rw [if_neg h, e]
  · rw [if_pos h, e]
end SG60zb
