section SG60zc


/-! what a JOURNEY is granted -/
noncomputable def zn_A (I : z_I) (w d k mi pe re : Int32) : Int → Int := zv_A (z_kx I w.toInt d.toInt k.toInt (I 1 11).toNatClampNeg).2 (I 2 w.toNatClampNeg).toInt (I 3 w.toNatClampNeg).toInt (d.toInt / 30) mi.toInt pe.toInt re.toInt
noncomputable def zn_X (c : z_C) (I : z_I) (SS : Nat → List zp_T) (w d k mi pe re : Int32) (r : Int) : Prop := zi_R (zi_mo I) (zi_td I) (d.toInt / 30) k.toInt c.2.1 0 (fun q => zv_fi (zn_A I w d k mi pe re) 301 (SS q)) r
noncomputable def zn_B (I : z_I) (w d k mi pe re : Int32) : Int → Int := zv_A (z_kmr I w.toInt d.toInt k.toInt (I 0 2).toNatClampNeg) (I 1 w.toNatClampNeg).toInt (I 2 w.toNatClampNeg).toInt (d.toInt / 30) mi.toInt pe.toInt re.toInt
noncomputable def zn_M (I : z_I) (RS : Nat → List zm_row) (w d k mi pe re : Int32) (r : Int) : Prop := zi_R (zi_km I) (zi_kt I) (d.toInt / 30) k.toInt (I 0 13).toNatClampNeg 0 (fun q => zv_fi (zn_B I w d k mi pe re) 301 ((RS q).map Prod.fst)) r
/-- a JOURNEY's rows are in their bounds -/
noncomputable def zn_b (I : z_I) (j : Nat) : Prop := (0 ≤ (I 61 j).toInt ∧ (I 61 j).toInt < (I 1 5).toInt) ∧ (0 ≤ (I 65 j).toInt ∧ (I 65 j).toInt ≤ 719) ∧ (0 ≤ (I 62 j).toInt ∧ (I 62 j).toInt ≤ 500) ∧ (0 ≤ (I 63 j).toInt ∧ (I 63 j).toInt ≤ 8) ∧ (0 ≤ (I 64 j).toInt ∧ (I 64 j).toInt ≤ 4)
noncomputable def zn_c (I : z_I) (j : Nat) : Prop := (0 ≤ (I 59 j).toInt ∧ (I 59 j).toInt < (I 0 1).toInt) ∧ (0 ≤ (I 63 j).toInt ∧ (I 63 j).toInt ≤ 719) ∧ (0 ≤ (I 60 j).toInt ∧ (I 60 j).toInt ≤ 500) ∧ (0 ≤ (I 61 j).toInt ∧ (I 61 j).toInt ≤ 8) ∧ (0 ≤ (I 62 j).toInt ∧ (I 62 j).toInt ≤ 4)
theorem zv_W_c {c : z_C} {I K : z_I} {SS : Nat → List zp_T} (h : zv_W c I SS) (e1 : K 21 2 = I 21 2) (e2 : ∀ a q, 200 ≤ a → K a q = I a q) (e3 : z_nsX K I) (e4 : K 1 11 = I 1 11) (e5 : K 1 5 = I 1 5) (e6 : ∀ j, K 2 j = I 2 j ∧ K 3 j = I 3 j) : zv_W c K SS := by
  obtain ⟨h1, h2, h3, h4, h5⟩ := h
  refine ⟨by rw [e1]; exact h1, fun j hj => by rw [e2 _ _ (by omega)]; exact h2 j hj, fun k hk => zv_ss_c (h3 k hk) e2, fun a d kn => ?_, fun j hj => ?_⟩
  · rw [e4, z_kx_c e3]
    exact h4 a d kn
  · rw [(e6 j).1, (e6 j).2]
    exact h5 j (by rw [e5] at hj; exact hj)
theorem zn_X_c {c : z_C} {I K : z_I} {SS : Nat → List zp_T} {w d k mi pe re : Int32} {r : Int} (e2 : ∀ a q, 200 ≤ a → K a q = I a q) (e3 : z_nsX K I) (e4 : K 1 11 = I 1 11) (e6 : ∀ j, K 2 j = I 2 j ∧ K 3 j = I 3 j) (h : zn_X c K SS w d k mi pe re r) : zn_X c I SS w d k mi pe re r := by
  have a1 : zi_mo K = zi_mo I := funext fun j => by unfold zi_mo; rw [e2 _ _ (by omega)]
  have a2 : zi_td K = zi_td I := funext fun j => by unfold zi_td; rw [e2 _ _ (by omega)]
  have a3 : zn_A K w d k mi pe re = zn_A I w d k mi pe re := by
    unfold zn_A
    rw [e4, z_kx_c e3, (e6 _).1, (e6 _).2]
  unfold zn_X at *
  rw [a1, a2, a3] at h
  exact h
theorem zw_W_c {I K : z_I} {FF : Nat → Nat} {RS : Nat → List zm_row} (h : zw_W I FF RS) (e1 : K 0 13 = I 0 13) (eT : ∀ (t F : Nat) (R : List zm_row), zw_T I t F R → zw_T K t F R) (e3 : z_nsM K I) (e4 : K 0 2 = I 0 2) (e5 : K 0 1 = I 0 1) (e6 : ∀ j, K 1 j = I 1 j ∧ K 2 j = I 2 j) : zw_W K FF RS := by
  obtain ⟨h1, h2, h3⟩ := h
  refine ⟨fun t ht => eT _ _ _ (h1 t (by rw [e1] at ht; exact ht)), fun a d kn => ?_, fun j hj => ?_⟩
  · rw [e4, z_kmr_c e3]
    exact h2 a d kn
  · rw [(e6 j).1, (e6 j).2]
    exact h3 j (by rw [e5] at hj; exact hj)
theorem zn_M_c {I K : z_I} {RS : Nat → List zm_row} {w d k mi pe re : Int32} {r : Int} (e1 : K 0 13 = I 0 13) (e2 : ∀ j, K 13 j = I 13 j ∧ K 14 j = I 14 j) (e3 : z_nsM K I) (e4 : K 0 2 = I 0 2) (e6 : ∀ j, K 1 j = I 1 j ∧ K 2 j = I 2 j) (h : zn_M K RS w d k mi pe re r) : zn_M I RS w d k mi pe re r := by
  have a1 : zi_km K = zi_km I := funext fun j => by unfold zi_km; rw [(e2 j).1]
  have a2 : zi_kt K = zi_kt I := funext fun j => by unfold zi_kt; rw [(e2 j).2]
  have a3 : zn_B K w d k mi pe re = zn_B I w d k mi pe re := by
    unfold zn_B
    rw [e4, z_kmr_c e3, (e6 _).1, (e6 _).2]
  unfold zn_M at *
  rw [a1, a2, a3, e1] at h
  exact h
/-! the JOURNEYS' rows -/
noncomputable def zn_rX (I1 I : z_I) (n : Nat) (v0 v1 v2 v3 v4 v5 v6 v7 v8 : Int32) : Prop := (∀ j, I1 61 j = if j = n then v0 else I 61 j) ∧ (∀ j, I1 62 j = if j = n then v1 else I 62 j) ∧ (∀ j, I1 63 j = if j = n then v2 else I 63 j) ∧ (∀ j, I1 64 j = if j = n then v3 else I 64 j) ∧ (∀ j, I1 65 j = if j = n then v4 else I 65 j) ∧ (∀ j, I1 66 j = if j = n then v5 else I 66 j) ∧ (∀ j, I1 67 j = if j = n then v6 else I 67 j) ∧ (∀ j, I1 68 j = if j = n then v7 else I 68 j) ∧ (∀ j, I1 69 j = if j = n then v8 else I 69 j)
noncomputable def zn_rM (I1 I : z_I) (n : Nat) (v0 v1 v2 v3 v4 v5 v6 v7 v8 : Int32) : Prop := (∀ j, I1 59 j = if j = n then v0 else I 59 j) ∧ (∀ j, I1 60 j = if j = n then v1 else I 60 j) ∧ (∀ j, I1 61 j = if j = n then v2 else I 61 j) ∧ (∀ j, I1 62 j = if j = n then v3 else I 62 j) ∧ (∀ j, I1 63 j = if j = n then v4 else I 63 j) ∧ (∀ j, I1 64 j = if j = n then v5 else I 64 j) ∧ (∀ j, I1 65 j = if j = n then v6 else I 65 j) ∧ (∀ j, I1 66 j = if j = n then v7 else I 66 j) ∧ (∀ j, I1 67 j = if j = n then v8 else I 67 j)
noncomputable def zn_sX (I1 I : z_I) : Prop := ∀ j, I1 61 j = I 61 j ∧ I1 62 j = I 62 j ∧ I1 63 j = I 63 j ∧ I1 64 j = I 64 j ∧ I1 65 j = I 65 j ∧ I1 66 j = I 66 j ∧ I1 67 j = I 67 j ∧ I1 68 j = I 68 j ∧ I1 69 j = I 69 j
noncomputable def zn_sM (I1 I : z_I) : Prop := ∀ j, I1 59 j = I 59 j ∧ I1 60 j = I 60 j ∧ I1 61 j = I 61 j ∧ I1 62 j = I 62 j ∧ I1 63 j = I 63 j ∧ I1 64 j = I 64 j ∧ I1 65 j = I 65 j ∧ I1 66 j = I 66 j ∧ I1 67 j = I 67 j
theorem zn_abs {z x : Int32} {n : Int} (e : z = if 0 ≤ x then x else 0 - x) (hx : x.toInt = n) (h1 : -2147483647 ≤ n) : (0 ≤ n ∧ z.toInt = n) ∨ (n < 0 ∧ z.toInt = -n) := by
  by_cases q : 0 ≤ x
  · have q1 := Int32.le_iff_toInt_le.mp q
    rw [show (0 : Int32).toInt = 0 by decide] at q1
    rw [e, if_pos q]
    exact Or.inl ⟨by omega, hx⟩
  · have q1 : ¬ 0 ≤ x.toInt := fun w => q (Int32.le_iff_toInt_le.mpr (by rw [show (0 : Int32).toInt = 0 by decide]; exact w))
    rw [e, if_neg q]
    have q2 := Int32.toInt_lt x
    exact Or.inr ⟨by omega, (z_tsub (n := 0) (m := n) rfl (by decide) hx (by omega) (by omega)).trans (by omega)⟩
/-! JOURNEYS that are like another -/
noncomputable def zn_lx (I : z_I) (td : Int) (o j : Nat) : Prop := ¬ o = j ∧ ¬ (I 68 o).toInt = (I 68 j).toInt ∧ (I 64 o).toInt = (I 64 j).toInt ∧ (I 63 o).toInt = (I 63 j).toInt ∧ ((I 62 o).toInt - (I 62 j).toInt ≤ (I 62 o).toInt / 10 ∧ (I 62 j).toInt - (I 62 o).toInt ≤ (I 62 o).toInt / 10) ∧ (z_kx I (I 61 o).toInt (I 65 o).toInt td (I 1 11).toNatClampNeg).2 = (z_kx I (I 61 j).toInt (I 65 j).toInt td (I 1 11).toNatClampNeg).2
noncomputable def zn_lm (I : z_I) (td : Int) (o j : Nat) : Prop := ¬ o = j ∧ ¬ (I 66 o).toInt = (I 66 j).toInt ∧ (I 62 o).toInt = (I 62 j).toInt ∧ (I 61 o).toInt = (I 61 j).toInt ∧ ((I 60 o).toInt - (I 60 j).toInt ≤ (I 60 o).toInt / 10 ∧ (I 60 j).toInt - (I 60 o).toInt ≤ (I 60 o).toInt / 10) ∧ z_kmr I (I 59 o).toInt (I 63 o).toInt td (I 0 2).toNatClampNeg = z_kmr I (I 59 j).toInt (I 63 j).toInt td (I 0 2).toNatClampNeg
/-- how many of the first n -/
noncomputable def zn_ct (L : Nat → Prop) : Nat → Int
  | 0 => 0
  | n + 1 => zn_ct L n + @ite _ (L n) (Classical.propDecidable _) 1 0
/-- the one with k ahead of it, -1 if none -/
noncomputable def zn_nt (L : Nat → Prop) (k : Int) : Nat → Int
  | 0 => -1
  | n + 1 => if zn_nt L k n ≠ -1 then zn_nt L k n else @ite _ (L n ∧ zn_ct L n = k) (Classical.propDecidable _) (n : Int) (-1)
theorem zn_ct_y {L : Nat → Prop} {n : Nat} (h : L n) : zn_ct L (n + 1) = zn_ct L n + 1 := by rw [zn_ct, if_pos h]
theorem zn_ct_n {L : Nat → Prop} {n : Nat} (h : ¬ L n) : zn_ct L (n + 1) = zn_ct L n := by rw [zn_ct, if_neg h, Int.add_zero]
theorem zn_nt_n {L : Nat → Prop} {k : Int} {n : Nat} (h : zn_nt L k n = -1) (h2 : ¬ (L n ∧ zn_ct L n = k)) : zn_nt L k (n + 1) = -1 := by rw [zn_nt, if_neg (fun q => q h), if_neg h2]
theorem zn_nt_y {L : Nat → Prop} {k : Int} {n : Nat} (h : zn_nt L k n = -1) (h2 : L n) (h3 : zn_ct L n = k) : zn_nt L k (n + 1) = (n : Int) := by rw [zn_nt, if_neg (fun q => q h), if_pos ⟨h2, h3⟩]
theorem zn_nt_s {L : Nat → Prop} {k : Int} {n : Nat} (h : ¬ zn_nt L k n = -1) : ∀ d : Nat, zn_nt L k (n + d) = zn_nt L k n
  | 0 => rfl
  | d + 1 => by
    have ih := zn_nt_s h d
    show zn_nt L k (n + d + 1) = _
    rw [zn_nt, if_pos (by rw [ih]; exact h), ih]
theorem zn_nt_m {L : Nat → Prop} {k : Int} {n N : Nat} (h : ¬ zn_nt L k n = -1) (hN : n ≤ N) : zn_nt L k N = zn_nt L k n := by
  have q := zn_nt_s h (N - n)
  rw [show n + (N - n) = N by omega] at q
  exact q
theorem zn_ct_c {L L1 : Nat → Prop} : ∀ n : Nat, (∀ j, j < n → (L1 j ↔ L j)) → zn_ct L1 n = zn_ct L n
  | 0, _ => rfl
  | n + 1, h => by
    have ih := zn_ct_c n (fun j hj => h j (by omega))
    by_cases q : L n
    · rw [zn_ct_y q, zn_ct_y ((h n (Nat.lt_succ_self n)).mpr q), ih]
    · rw [zn_ct_n q, zn_ct_n (fun w => q ((h n (Nat.lt_succ_self n)).mp w)), ih]
theorem zn_nt_c {L L1 : Nat → Prop} {k : Int} : ∀ n : Nat, (∀ j, j < n → (L1 j ↔ L j)) → zn_nt L1 k n = zn_nt L k n
  | 0, _ => rfl
  | n + 1, h => by
    have ih := zn_nt_c (k := k) n (fun j hj => h j (by omega))
    have ic := zn_ct_c n (fun j hj => h j (by omega))
    by_cases q : zn_nt L k n = -1
    · by_cases w : L n ∧ zn_ct L n = k
      · rw [zn_nt_y q w.1 w.2, zn_nt_y (ih.trans q) ((h n (Nat.lt_succ_self n)).mpr w.1) (ic.trans w.2)]
      · rw [zn_nt_n q w, zn_nt_n (ih.trans q) (fun z => w ⟨(h n (Nat.lt_succ_self n)).mp z.1, ic.symm.trans z.2⟩)]
    · rw [zn_nt_m q (Nat.le_succ n), zn_nt_m (fun z => q (ih.symm.trans z)) (Nat.le_succ n), ih]
/-- what is told of a JOURNEY -/
noncomputable def zn_t (v : Nat → Int) (w r : Int) : Prop := (0 ≤ w ∧ w ≤ 7 ∧ r = v w.toNat) ∨ (¬ (0 ≤ w ∧ w ≤ 7) ∧ r = -1)
theorem zn_t_i {v : Nat → Int} {w r : Int} {k : Nat} (hw : w = (k : Int)) (hk : k ≤ 7) (hr : r = v k) : zn_t v w r := Or.inl ⟨by omega, by omega, by subst hw; exact hr⟩
theorem zn_t_u {v v1 : Nat → Int} {w r r1 : Int} (h : zn_t v w r) (h1 : zn_t v1 w r1) (e : ∀ k, v1 k = v k) : r1 = r := by
  rcases h with ⟨a1, a2, a3⟩ | ⟨a1, a2⟩ <;> rcases h1 with ⟨b1, b2, b3⟩ | ⟨b1, b2⟩
  · rw [a3, b3, e]
  · exact absurd ⟨a1, a2⟩ b1
  · exact absurd ⟨b1, b2⟩ a1
  · rw [a2, b2]
noncomputable def zn_tx (I : z_I) (j k : Nat) : Int := if k = 0 then (I 61 j).toInt else if k = 1 then (I 62 j).toInt else if k = 2 then (I 63 j).toInt else if k = 3 then (I 64 j).toInt else if k = 4 then (I 65 j).toInt else if k = 5 then (I 66 j).toInt else if k = 6 then (I 68 j).toInt else (I 69 j).toInt
noncomputable def zn_tm (I : z_I) (j k : Nat) : Int := if k = 0 then (I 59 j).toInt else if k = 1 then (I 60 j).toInt else if k = 2 then (I 61 j).toInt else if k = 3 then (I 62 j).toInt else if k = 4 then (I 63 j).toInt else if k = 5 then (I 64 j).toInt else if k = 6 then (I 66 j).toInt else (I 67 j).toInt
set_option maxHeartbeats 8000000 in
set_option maxRecDepth 100000 in
theorem sx_X3_has_g (l : Launch) (G : z_G) (ad : Nat → Nat) (c : z_C) (I : z_I) (hJ : z_iJ I) (a1 : Int32) : z_M l yX3_has wsX3_has { frames := 1, cells := 0, slots := 0, locals := 12 } [.ref (ad 60), .int a1] G (shC c, ad, I, JX, PC c ad) (fun r u1 => u1 = (shC c, ad, I, JX, PC c ad) ∧ ((r = 1 ∧ 0 ≤ a1.toInt ∧ a1.toInt < (I 60 9).toInt) ∨ (r = 0 ∧ ¬ (0 ≤ a1.toInt ∧ a1.toInt < (I 60 9).toInt)))) 0 0 := by
  intro sz
  refine z_headQ (cc := cX3_has) (maxL := 2) (ret := (some .boolean)) (by decide) rfl (Nat.le_of_ble_eq_true rfl) ?_
  intro p e s m below meth c0 ls hIn hK hsz hW hl
  obtain ⟨hx, hb, hr, hml, hown, hts, hlocks, hname⟩ := hIn
  subst hsz
  have hown : s.vm.findClass RX3 = some m.cls := hown
  have hA : ∀ q : Nat, s.heap.size ≤ q → z_A (shC c, ad, I, JX, PC c ad) s.heap.size q := fun q h => Or.inr h
  generalize hAe : z_A (shC c, ad, I, JX, PC c ad) s.heap.size = A at *
  have hS : va_S A s.heap s.heap [] := va_S.rf
  have hl : lv_has ls 2 [(0, .ref (ad 60)), (1, .int a1)] := hl
  refine lv_iload_n hx hb dX3_has_0 rfl (lv_at hl 1 rfl) ?_
  refine lv_if_lt (tgt := 22) hx hb dX3_has_1 (by decide) (fun c1 => ?_) (fun c1 => ?_)
  · have g2 := z_f_lt rfl z_l0 c1
    have b3 := Int32.toInt_lt a1
    refine lv_iconst (v := 0) hx hb dX3_has_22 (by decide) ?_
    exact z_zret hx hb hr (by decide) hK hS (Nat.le_of_ble_eq_true rfl) (Nat.le_of_ble_eq_true rfl) hlocks dX3_has_23 (shC c, ad, I, JX, PC c ad) hW ⟨rfl, (Or.inr ⟨rfl, by omega⟩)⟩
  · have g4 := z_f_nlt rfl z_l0 c1
    have b5 := Int32.toInt_lt a1
    refine lv_iload_n hx hb dX3_has_4 rfl (lv_at hl 1 rfl) ?_
    refine lv_aload_n hx hb dX3_has_5 rfl (lv_at hl 0 rfl) ?_
    have r6 : 0 ≤ (I 60 9).toInt ∧ (I 60 9).toInt ≤ 60 := hJ.1
    refine z_get (T := TX3) (N := 17) (ci := 3) (i := 60) (v := .int (I 60 9)) hx hb hts zj_X3_has_X3 hown hK hW rfl rfl 9 (by decide) (hts (.fieldLink RX3 45 "PetrolBoard$Journeys" "number" "I") (me_s (me_l (List.mem_of_getElem? (i := 0) rfl)))) (fun _ h => h) rfl dX3_has_6 ?_
    refine lv_icmp_ge (tgt := 22) hx hb dX3_has_9 (by decide) (fun c7 => ?_) (fun c7 => ?_)
    · have g8 := z_f_ge rfl rfl c7
      refine lv_iconst (v := 0) hx hb dX3_has_22 (by decide) ?_
      exact z_zret hx hb hr (by decide) hK hS (Nat.le_of_ble_eq_true rfl) (Nat.le_of_ble_eq_true rfl) hlocks dX3_has_23 (shC c, ad, I, JX, PC c ad) hW ⟨rfl, (Or.inr ⟨rfl, by omega⟩)⟩
    · have g9 := z_f_nge rfl rfl c7
      refine lv_iload_n hx hb dX3_has_12 rfl (lv_at hl 1 rfl) ?_
      refine lv_bipush (v := 60) hx hb dX3_has_13 (by decide) ?_
      refine lv_icmp_ge (tgt := 22) hx hb dX3_has_15 (by decide) (fun c10 => (by have g := z_f_ge rfl z_l60 c10; omega)) (fun c10 => ?_)
      have g11 := z_f_nge rfl z_l60 c10
      refine lv_iconst (v := 1) hx hb dX3_has_18 (by decide) ?_
      refine lv_goto (tgt := 23) hx hb dX3_has_19 (by decide) ?_
      exact z_zret hx hb hr (by decide) hK hS (Nat.le_of_ble_eq_true rfl) (Nat.le_of_ble_eq_true rfl) hlocks dX3_has_23 (shC c, ad, I, JX, PC c ad) hW ⟨rfl, (Or.inl ⟨rfl, by omega⟩)⟩
noncomputable def L_X6_grant_g : z_L := [(24, 999), (25, 999)]
set_option maxHeartbeats 8000000 in
set_option maxRecDepth 100000 in
theorem sx_X6_grant_g (l : Launch) (G : z_G) (ad : Nat → Nat) (c : z_C) (I : z_I) (hO : z_iO I) (hH : z_iH I) (hJ : z_iJ I) (SS : Nat → List zp_T) (a3 : Int32) (hc : z_okc c) (hWu : zv_W c I SS) (q3 : 0 ≤ a3.toInt ∧ a3.toInt < (I 60 9).toInt) (hb9 : zn_b I a3.toNatClampNeg) : z_M l yX6_grant wsX6_grant { frames := 5, cells := 0, slots := 0, locals := 135 } [.ref (ad 21), .ref (ad 1), .ref (ad 60), .int a3] G (shC c, ad, I, JX, PC c ad) (fun r u1 => ∃ I1 : z_I, u1 = (shC c, ad, I1, JX, PC c ad) ∧ z_iO I1 ∧ z_iH I1 ∧ z_iJ I1 ∧ z_fr L_X6_grant_g I1 I ∧ zn_X c I SS (I 61 a3.toNatClampNeg) (I 65 a3.toNatClampNeg) (I 67 a3.toNatClampNeg) (I 62 a3.toNatClampNeg) (I 63 a3.toNatClampNeg) (I 64 a3.toNatClampNeg) r.toInt) 0 0 := by
  intro sz
  refine z_headQ (cc := cX6_grant) (maxL := 6) (ret := (some .int)) (by decide) rfl (Nat.le_of_ble_eq_true rfl) ?_
  intro p e s m below meth c0 ls hIn hK hsz hW hl
  obtain ⟨hx, hb, hr, hml, hown, hts, hlocks, hname⟩ := hIn
  subst hsz
  have hown : s.vm.findClass RX6 = some m.cls := hown
  have hA : ∀ q : Nat, s.heap.size ≤ q → z_A (shC c, ad, I, JX, PC c ad) s.heap.size q := fun q h => Or.inr h
  generalize hAe : z_A (shC c, ad, I, JX, PC c ad) s.heap.size = A at *
  have hS : va_S A s.heap s.heap [] := va_S.rf
  have hl : lv_has ls 6 [(0, .ref (ad 21)), (1, .ref (ad 1)), (2, .ref (ad 60)), (3, .int a3)] := hl
  obtain ⟨hon, hmo, hSS9, hkd9, hsz9⟩ := id hWu
  refine lv_aload_n hx hb dX6_grant_0 rfl (lv_at hl 2 rfl) ?_
  refine lv_iload_n hx hb dX6_grant_1 rfl (lv_at hl 3 rfl) ?_
  refine z_ci hW hS hA (va_runV (As := [.int a3]) (rest := []) ⟨hx, hb, hml, hown, hts⟩ (sx_X3_has_g l G ad c I ⟨(by show 0 ≤ (I 60 9).toInt ∧ (I 60 9).toInt ≤ 60; exact hJ.1), (by show 0 ≤ (I 60 12).toInt ∧ (I 60 12).toInt ≤ 12; exact hJ.2)⟩ a3 _) (cwV 1 hts gX6_grant_X3_has rfl rfl rfl (by decide +kernel) ⟨Nat.le_of_ble_eq_true rfl, Nat.le_of_ble_eq_true rfl⟩) (z_preV (i := 60) hK hW rfl rfl) rfl rfl hl.1 rfl (lv_room (Nat.le_of_ble_eq_true rfl)) dX6_grant_2 ⟨Nat.le_of_ble_eq_true rfl, Nat.le_of_ble_eq_true rfl⟩) (fun r u1 H locs hp hW hS => ?_)
  obtain ⟨e9, hp⟩ := hp
  rw [e9] at hW
  rcases hp with ⟨rfl, h1⟩ | ⟨rfl, h1⟩
  · have h2 := h1
    have r3 : 0 ≤ (I 60 9).toInt ∧ (I 60 9).toInt ≤ 60 := hJ.1
    refine lv_if_ne (tgt := 10) hx hb dX6_grant_5 (by decide) (fun c4 => ?_) (fun c4 => absurd c4 (by decide))
    obtain ⟨bb1, bb2, bb3, bb4, bb5⟩ := hb9
    refine lv_aload_n hx hb dX6_grant_10 rfl (lv_at hl 2 rfl) ?_
    refine z_get (T := TX3) (N := 17) (ci := 3) (i := 60) (v := .ref (ad 67)) hx hb hts zj_X6_grant_X3 hown hK hW rfl rfl 6 (by decide) (hts (.fieldLink RX6 74 "PetrolBoard$Journeys" "asked" "[I") (me_s (me_l (me_l (me_l (me_l (me_l (me_l (List.mem_of_getElem? (i := 0) rfl))))))))) (fun _ h => h) rfl dX6_grant_11 ?_
    refine lv_iload_n hx hb dX6_grant_14 rfl (lv_at hl 3 rfl) ?_
    refine z_iald (i := 67) hx hb hK hW rfl (z_ix rfl (by omega) (by omega)) dX6_grant_15 ?_
    refine lv_topi (fun x5 ex5 => ?_)
    have hr6 : (I 67 a3.toNatClampNeg) = x5 := ex5.symm
    have hv7 : (I 67 a3.toNatClampNeg).toInt = x5.toInt := congrArg Int32.toInt hr6
    refine lv_istore (lv' := [(4, .int x5), (0, .ref (ad 21)), (1, .ref (ad 1)), (2, .ref (ad 60)), (3, .int a3)]) hx hb dX6_grant_16 hl (by decide) rfl (fun ls hl => ?_)
    refine lv_aload_n hx hb dX6_grant_18 rfl (lv_at hl 1 rfl) ?_
    refine lv_aload_n hx hb dX6_grant_19 rfl (lv_at hl 3 rfl) ?_
    refine z_get (T := TX3) (N := 17) (ci := 3) (i := 60) (v := .ref (ad 65)) hx hb hts zj_X6_grant_X3 hown hK hW rfl rfl 4 (by decide) (hts (.fieldLink RX6 78 "PetrolBoard$Journeys" "day" "[I") (me_s (me_l (me_l (me_l (me_l (me_l (me_l (List.mem_of_getElem? (i := 1) rfl))))))))) (fun _ h => h) rfl dX6_grant_20 ?_
    refine lv_iload_n hx hb dX6_grant_23 rfl (lv_at hl 4 rfl) ?_
    refine z_iald (i := 65) hx hb hK hW rfl (z_ix rfl (by omega) (by omega)) dX6_grant_24 ?_
    refine lv_topi (fun x8 ex8 => ?_)
    have hr9 : (I 65 a3.toNatClampNeg) = x8 := ex8.symm
    have hv10 : (I 65 a3.toNatClampNeg).toInt = x8.toInt := congrArg Int32.toInt hr9
    refine lv_bipush (v := 30) hx hb dX6_grant_25 (by decide) ?_
    refine lv_idiv hx hb dX6_grant_27 (by decide) ?_
    refine lv_topi (fun x11 ex11 => ?_)
    have tx11 := z_tdiv ex11 rfl z_l30 (by decide)
    refine lv_iload hx hb dX6_grant_28 (lv_at hl 0 rfl) ?_
    refine z_cq hW hS hA (va_runV (As := [.int x11, .int x5]) (rest := []) ⟨hx, hb, hml, hown, hts⟩ (sx_X6_ordersOf_x l G ad c I (by show 0 ≤ (I 21 2).toInt ∧ (I 21 2).toInt ≤ 12; exact hO) x11 x5 hon hmo _) (cwV 2 hts gX6_grant_X6_ordersOf rfl rfl rfl (by decide +kernel) ⟨Nat.le_of_ble_eq_true rfl, Nat.le_of_ble_eq_true rfl⟩) (z_preV (i := 21) hK hW rfl rfl) rfl rfl hl.1 rfl (lv_room (Nat.le_of_ble_eq_true rfl)) dX6_grant_30 ⟨Nat.le_of_ble_eq_true rfl, Nat.le_of_ble_eq_true rfl⟩) (fun r u1 H locs hp hW hS => ?_)
    obtain ⟨e9, hp⟩ := hp
    rw [e9] at hW
    rcases hp with ⟨rfl, hb13⟩ | ⟨k12, hk12, rfl, hb13⟩
    · refine W.eq (g2 := F0 m 33 ls (.null :: [])) rfl ?_
      refine lv_astoreN (lv' := [(5, .null), (4, .int x5), (0, .ref (ad 21)), (1, .ref (ad 1)), (2, .ref (ad 60)), (3, .int a3)]) hx hb dX6_grant_33 hl (by decide) rfl (fun ls hl => ?_)
      refine lv_aloadN hx hb dX6_grant_35 (lv_at hl 0 rfl) ?_
      refine lv_ifnullN (tgt := 53) hx hb dX6_grant_37 (by decide) ?_
      refine lv_iconst (v := 0) hx hb dX6_grant_53 (by decide) ?_
      exact z_iret hx hb hr hK hS (Nat.le_of_ble_eq_true rfl) (Nat.le_of_ble_eq_true rfl) hlocks dX6_grant_54 (shC c, ad, I, JX, PC c ad) hW ⟨I, rfl, (by show 0 ≤ (I 21 2).toInt ∧ (I 21 2).toInt ≤ 12; exact hO), ⟨(by show 0 ≤ (I 1 5).toInt ∧ (I 1 5).toInt ≤ 30; exact hH.1), (by show 0 ≤ (I 1 11).toInt ∧ (I 1 11).toInt ≤ 200; exact hH.2)⟩, ⟨(by show 0 ≤ (I 60 9).toInt ∧ (I 60 9).toInt ≤ 60; exact hJ.1), (by show 0 ≤ (I 60 12).toInt ∧ (I 60 12).toInt ≤ 12; exact hJ.2)⟩, z_fr_0, ⟨-1, (show zi_B (zi_mo I) (zi_td I) ((I 65 a3.toNatClampNeg).toInt / 30) (I 67 a3.toNatClampNeg).toInt c.2.1 _ by rw [show (I 65 a3.toNatClampNeg).toInt / 30 = x11.toInt by omega, hr6]; exact hb13), Or.inl ⟨rfl, by decide⟩⟩⟩
    · refine W.eq (g2 := F0 m 33 ls (.ref (ad (200 + 5 * k12)) :: [])) rfl ?_
      refine lv_astore (lv' := [(5, .ref (ad (200 + 5 * k12))), (4, .int x5), (0, .ref (ad 21)), (1, .ref (ad 1)), (2, .ref (ad 60)), (3, .int a3)]) hx hb dX6_grant_33 hl (by decide) rfl (fun ls hl => ?_)
      refine lv_aload hx hb dX6_grant_35 (lv_at hl 0 rfl) ?_
      refine lv_ifnull hx hb dX6_grant_37 ?_
      refine lv_aload_n hx hb dX6_grant_40 rfl (lv_at hl 3 rfl) ?_
      refine lv_aload_n hx hb dX6_grant_41 rfl (lv_at hl 4 rfl) ?_
      refine z_get (T := TX3) (N := 17) (ci := 3) (i := 60) (v := .ref (ad 61)) hx hb hts zj_X6_grant_X3 hown hK hW rfl rfl 0 (by decide) (hts (.fieldLink RX6 81 "PetrolBoard$Journeys" "holder" "[I") (me_s (me_l (me_l (me_l (me_l (me_l (me_l (List.mem_of_getElem? (i := 2) rfl))))))))) (fun _ h => h) rfl dX6_grant_42 ?_
      refine lv_iload_n hx hb dX6_grant_45 rfl (lv_at hl 5 rfl) ?_
      refine z_iald (i := 61) hx hb hK hW rfl (z_ix rfl (by omega) (by omega)) dX6_grant_46 ?_
      refine lv_topi (fun x14 ex14 => ?_)
      have hr15 : (I 61 a3.toNatClampNeg) = x14 := ex14.symm
      have hv16 : (I 61 a3.toNatClampNeg).toInt = x14.toInt := congrArg Int32.toInt hr15
      refine z_ci hW hS hA (va_runV (As := [.int x14]) (rest := []) ⟨hx, hb, hml, hown, hts⟩ (sx_X2_has_e l G ad c I ⟨(by show 0 ≤ (I 1 5).toInt ∧ (I 1 5).toInt ≤ 30; exact hH.1), (by show 0 ≤ (I 1 11).toInt ∧ (I 1 11).toInt ≤ 200; exact hH.2)⟩ x14 _) (cwV 1 hts gX6_grant_X2_has rfl rfl rfl (by decide +kernel) ⟨Nat.le_of_ble_eq_true rfl, Nat.le_of_ble_eq_true rfl⟩) (z_preV (i := 1) hK hW rfl rfl) rfl rfl hl.1 rfl (lv_room (Nat.le_of_ble_eq_true rfl)) dX6_grant_47 ⟨Nat.le_of_ble_eq_true rfl, Nat.le_of_ble_eq_true rfl⟩) (fun r u1 H locs hp hW hS => ?_)
      obtain ⟨e9, hp⟩ := hp
      rw [e9] at hW
      rcases hp with ⟨rfl, h17⟩ | ⟨rfl, h17⟩
      · have h18 := h17
        have r19 : 0 ≤ (I 1 5).toInt ∧ (I 1 5).toInt ≤ 30 := hH.1
        refine lv_if_ne (tgt := 55) hx hb dX6_grant_50 (by decide) (fun c20 => ?_) (fun c20 => absurd c20 (by decide))
        refine lv_aload_n hx hb dX6_grant_55 rfl (lv_at hl 2 rfl) ?_
        refine lv_aload_n hx hb dX6_grant_56 rfl (lv_at hl 3 rfl) ?_
        refine lv_aload_n hx hb dX6_grant_57 rfl (lv_at hl 4 rfl) ?_
        refine z_get (T := TX3) (N := 17) (ci := 3) (i := 60) (v := .ref (ad 61)) hx hb hts zj_X6_grant_X3 hown hK hW rfl rfl 0 (by decide) (hts (.fieldLink RX6 81 "PetrolBoard$Journeys" "holder" "[I") (me_s (me_l (me_l (me_l (me_l (me_l (me_l (List.mem_of_getElem? (i := 2) rfl))))))))) (fun _ h => h) rfl dX6_grant_58 ?_
        refine lv_iload_n hx hb dX6_grant_61 rfl (lv_at hl 5 rfl) ?_
        refine z_iald (i := 61) hx hb hK hW rfl (z_ix rfl (by omega) (by omega)) dX6_grant_62 ?_
        refine z_topi (v := x14) ex14.symm ?_
        refine lv_aload_n hx hb dX6_grant_63 rfl (lv_at hl 4 rfl) ?_
        refine z_get (T := TX3) (N := 17) (ci := 3) (i := 60) (v := .ref (ad 65)) hx hb hts zj_X6_grant_X3 hown hK hW rfl rfl 4 (by decide) (hts (.fieldLink RX6 78 "PetrolBoard$Journeys" "day" "[I") (me_s (me_l (me_l (me_l (me_l (me_l (me_l (List.mem_of_getElem? (i := 1) rfl))))))))) (fun _ h => h) rfl dX6_grant_64 ?_
        refine lv_iload_n hx hb dX6_grant_67 rfl (lv_at hl 5 rfl) ?_
        refine z_iald (i := 65) hx hb hK hW rfl (z_ix rfl (by omega) (by omega)) dX6_grant_68 ?_
        refine z_topi (v := x8) ex8.symm ?_
        refine lv_iload hx hb dX6_grant_69 (lv_at hl 1 rfl) ?_
        refine z_cv hW hS hA (va_runV (As := [.ref (ad 1), .int x14, .int x8, .int x5]) (rest := []) ⟨hx, hb, hml, hown, hts⟩ (sx_X6_putHolder_x l G ad c I ⟨(by show 0 ≤ (I 1 5).toInt ∧ (I 1 5).toInt ≤ 30; exact hH.1), (by show 0 ≤ (I 1 11).toInt ∧ (I 1 11).toInt ≤ 200; exact hH.2)⟩ x14 x8 x5 (by omega) (by omega) _) (cwV 4 hts gX6_grant_X6_putHolder rfl rfl rfl (by decide +kernel) ⟨Nat.le_of_ble_eq_true rfl, Nat.le_of_ble_eq_true rfl⟩) (z_preV (i := 21) hK hW rfl rfl) rfl rfl hl.1 rfl (lv_room (Nat.le_of_ble_eq_true rfl)) dX6_grant_71 ⟨Nat.le_of_ble_eq_true rfl, Nat.le_of_ble_eq_true rfl⟩) (fun u1 H locs hp hW hS => ?_)
        obtain ⟨I21, e9, hI21H, fI21, hp⟩ := hp
        rw [e9] at hW
        have f22 := z_fr_sub (L := L_X6_grant_g) z_fr_0 fI21 (by decide)
        have k23 : 0 ≤ (I21 21 2).toInt ∧ (I21 21 2).toInt ≤ 12 := by rw [fI21 21 2 (by decide)]; exact (by show 0 ≤ (I 21 2).toInt ∧ (I 21 2).toInt ≤ 12; exact hO)
        have k24 : 0 ≤ (I21 60 9).toInt ∧ (I21 60 9).toInt ≤ 60 := by rw [fI21 60 9 (by decide)]; exact (by show 0 ≤ (I 60 9).toInt ∧ (I 60 9).toInt ≤ 60; exact hJ.1)
        have k25 : 0 ≤ (I21 60 12).toInt ∧ (I21 60 12).toInt ≤ 12 := by rw [fI21 60 12 (by decide)]; exact (by show 0 ≤ (I 60 12).toInt ∧ (I 60 12).toInt ≤ 12; exact hJ.2)
        have hP26 := hp
        refine lv_aload_n hx hb dX6_grant_74 rfl (lv_at hl 2 rfl) ?_
        refine lv_aload_n hx hb dX6_grant_75 rfl (lv_at hl 4 rfl) ?_
        refine z_get (T := TX3) (N := 17) (ci := 3) (i := 60) (v := .ref (ad 62)) hx hb hts zj_X6_grant_X3 hown hK hW rfl rfl 1 (by decide) (hts (.fieldLink RX6 84 "PetrolBoard$Journeys" "miles" "[I") (me_s (me_l (me_l (me_l (me_l (me_l (me_l (List.mem_of_getElem? (i := 3) rfl))))))))) (fun _ h => h) rfl dX6_grant_76 ?_
        refine lv_iload_n hx hb dX6_grant_79 rfl (lv_at hl 5 rfl) ?_
        refine z_iald (i := 62) hx hb hK hW rfl (z_ix rfl (by omega) (by omega)) dX6_grant_80 ?_
        refine lv_topi (fun x27 ex27 => ?_)
        have hr28 : (I 62 a3.toNatClampNeg) = x27 := (by rw [← f22 62 _ (z_wr_c (by decide))]; exact ex27.symm)
        have hv29 : (I 62 a3.toNatClampNeg).toInt = x27.toInt := congrArg Int32.toInt hr28
        refine lv_aload_n hx hb dX6_grant_81 rfl (lv_at hl 4 rfl) ?_
        refine z_get (T := TX3) (N := 17) (ci := 3) (i := 60) (v := .ref (ad 63)) hx hb hts zj_X6_grant_X3 hown hK hW rfl rfl 2 (by decide) (hts (.fieldLink RX6 87 "PetrolBoard$Journeys" "people" "[I") (me_s (me_l (me_l (me_l (me_l (me_l (me_l (List.mem_of_getElem? (i := 4) rfl))))))))) (fun _ h => h) rfl dX6_grant_82 ?_
        refine lv_iload_n hx hb dX6_grant_85 rfl (lv_at hl 5 rfl) ?_
        refine z_iald (i := 63) hx hb hK hW rfl (z_ix rfl (by omega) (by omega)) dX6_grant_86 ?_
        refine lv_topi (fun x30 ex30 => ?_)
        have hr31 : (I 63 a3.toNatClampNeg) = x30 := (by rw [← f22 63 _ (z_wr_c (by decide))]; exact ex30.symm)
        have hv32 : (I 63 a3.toNatClampNeg).toInt = x30.toInt := congrArg Int32.toInt hr31
        refine lv_aload_n hx hb dX6_grant_87 rfl (lv_at hl 4 rfl) ?_
        refine z_get (T := TX3) (N := 17) (ci := 3) (i := 60) (v := .ref (ad 64)) hx hb hts zj_X6_grant_X3 hown hK hW rfl rfl 3 (by decide) (hts (.fieldLink RX6 90 "PetrolBoard$Journeys" "reason" "[I") (me_s (me_l (me_l (me_l (me_l (me_l (me_l (List.mem_of_getElem? (i := 5) rfl))))))))) (fun _ h => h) rfl dX6_grant_88 ?_
        refine lv_iload_n hx hb dX6_grant_91 rfl (lv_at hl 5 rfl) ?_
        refine z_iald (i := 64) hx hb hK hW rfl (z_ix rfl (by omega) (by omega)) dX6_grant_92 ?_
        refine lv_topi (fun x33 ex33 => ?_)
        have hr34 : (I 64 a3.toNatClampNeg) = x33 := (by rw [← f22 64 _ (z_wr_c (by decide))]; exact ex33.symm)
        have hv35 : (I 64 a3.toNatClampNeg).toInt = x33.toInt := congrArg Int32.toInt hr34
        refine z_cv hW hS hA (va_runV (As := [.int x27, .int x30, .int x33]) (rest := []) ⟨hx, hb, hml, hown, hts⟩ (sx_X6_putJourney_x l G ad c I21  x27 x30 x33 _) (cwV 3 hts gX6_grant_X6_putJourney rfl rfl rfl (by decide +kernel) ⟨Nat.le_of_ble_eq_true rfl, Nat.le_of_ble_eq_true rfl⟩) (z_preV (i := 21) hK hW rfl rfl) rfl rfl hl.1 rfl (lv_room (Nat.le_of_ble_eq_true rfl)) dX6_grant_93 ⟨Nat.le_of_ble_eq_true rfl, Nat.le_of_ble_eq_true rfl⟩) (fun u1 H locs hp hW hS => ?_)
        obtain ⟨I36, e9, fI36, hp⟩ := hp
        rw [e9] at hW
        have f37 := z_fr_sub (L := L_X6_grant_g) f22 fI36 (by decide)
        have k38 : 0 ≤ (I36 21 2).toInt ∧ (I36 21 2).toInt ≤ 12 := by rw [fI36 21 2 (by decide)]; exact (by show 0 ≤ (I21 21 2).toInt ∧ (I21 21 2).toInt ≤ 12; exact k23)
        have k39 : 0 ≤ (I36 1 5).toInt ∧ (I36 1 5).toInt ≤ 30 := by rw [fI36 1 5 (by decide)]; exact (by show 0 ≤ (I21 1 5).toInt ∧ (I21 1 5).toInt ≤ 30; exact hI21H.1)
        have k40 : 0 ≤ (I36 1 11).toInt ∧ (I36 1 11).toInt ≤ 200 := by rw [fI36 1 11 (by decide)]; exact (by show 0 ≤ (I21 1 11).toInt ∧ (I21 1 11).toInt ≤ 200; exact hI21H.2)
        have k41 : 0 ≤ (I36 60 9).toInt ∧ (I36 60 9).toInt ≤ 60 := by rw [fI36 60 9 (by decide)]; exact (by show 0 ≤ (I21 60 9).toInt ∧ (I21 60 9).toInt ≤ 60; exact k24)
        have k42 : 0 ≤ (I36 60 12).toInt ∧ (I36 60 12).toInt ≤ 12 := by rw [fI36 60 12 (by decide)]; exact (by show 0 ≤ (I21 60 12).toInt ∧ (I21 60 12).toInt ≤ 12; exact k25)
        have hP43 := hp
        have hA9 : zv_ax I36 = (zn_A I (I 61 a3.toNatClampNeg) (I 65 a3.toNatClampNeg) (I 67 a3.toNatClampNeg) (I 62 a3.toNatClampNeg) (I 63 a3.toNatClampNeg) (I 64 a3.toNatClampNeg)) := by
          rw [hr15, hr9, hr6, hr28, hr31, hr34]
          exact zv_ax_A (by rw [hP43.2.2.2 0 (by decide)]; exact hP26.1) (by rw [hP43.2.2.2 1 (by decide)]; rw [hP26.2.1]) (by rw [hP43.2.2.2 2 (by decide)]; rw [hP26.2.2.1]) (by rw [hP43.2.2.2 3 (by decide)]; exact hP26.2.2.2.1) (by rw [hP43.1]) (by rw [hP43.2.1]) (by rw [hP43.2.2.1])
        have hsz := hsz9 x14.toNatClampNeg (by have := z_clt (x := x14) rfl (by omega); omega)
        have hkd := hkd9 x14.toInt x8.toInt x5.toInt
        have hbA9 : zv_bA (zv_ax I36) := by rw [hA9, hr15, hr9, hr6, hr28, hr31, hr34]; exact zv_A_b (by omega) (by omega) (by omega) (by omega) (by omega) (by omega) (by omega)
        refine lv_aload hx hb dX6_grant_96 (lv_at hl 0 rfl) ?_
        refine lv_sipush (v := 301) hx hb dX6_grant_98 (by decide) ?_
        refine lv_aload_n hx hb dX6_grant_101 rfl (lv_at hl 2 rfl) ?_
        refine z_get (T := TX6) (N := 3) (ci := 6) (i := 21) (v := .ref (ad 23)) hx hb hts zj_X6_grant_X6 hown hK hW rfl rfl 1 (by decide) (hts (.fieldLink RX6 20 "PetrolBoard$OrderBook" "machine" "LPetrolBoard$Machine;") (me_s (me_l (me_l (me_l (me_l (me_l (me_l (List.mem_of_getElem? (i := 6) rfl))))))))) (fun _ h => h) rfl dX6_grant_102 ?_
        refine z_ci hW hS hA (va_runV (As := [.int 301, .ref (ad 23)]) (rest := []) ⟨hx, hb, hml, hown, hts⟩ (sx_X7_dealt_x l G ad c I36 k12 (SS k12) 301 hk12 hc hbA9 (zv_ss_c (hSS9 k12 hk12) (zv_fr2 f37 (by decide))) (by decide) _) (cwV 2 hts gX6_grant_X7_dealt rfl rfl rfl (by decide +kernel) ⟨Nat.le_of_ble_eq_true rfl, Nat.le_of_ble_eq_true rfl⟩) (z_preV (i := (200 + 5 * k12)) hK hW (z_so0 hk12) rfl) rfl rfl hl.1 rfl (lv_room (Nat.le_of_ble_eq_true rfl)) dX6_grant_105 ⟨Nat.le_of_ble_eq_true rfl, Nat.le_of_ble_eq_true rfl⟩) (fun r u1 H locs hp hW hS => ?_)
        obtain ⟨I44, e9, fI44, hp⟩ := hp
        rw [e9] at hW
        have f45 := z_fr_sub (L := L_X6_grant_g) f37 fI44 (by decide)
        have k46 : 0 ≤ (I44 21 2).toInt ∧ (I44 21 2).toInt ≤ 12 := by rw [fI44 21 2 (by decide)]; exact (by show 0 ≤ (I36 21 2).toInt ∧ (I36 21 2).toInt ≤ 12; exact k38)
        have k47 : 0 ≤ (I44 1 5).toInt ∧ (I44 1 5).toInt ≤ 30 := by rw [fI44 1 5 (by decide)]; exact (by show 0 ≤ (I36 1 5).toInt ∧ (I36 1 5).toInt ≤ 30; exact k39)
        have k48 : 0 ≤ (I44 1 11).toInt ∧ (I44 1 11).toInt ≤ 200 := by rw [fI44 1 11 (by decide)]; exact (by show 0 ≤ (I36 1 11).toInt ∧ (I36 1 11).toInt ≤ 200; exact k40)
        have k49 : 0 ≤ (I44 60 9).toInt ∧ (I44 60 9).toInt ≤ 60 := by rw [fI44 60 9 (by decide)]; exact (by show 0 ≤ (I36 60 9).toInt ∧ (I36 60 9).toInt ≤ 60; exact k41)
        have k50 : 0 ≤ (I44 60 12).toInt ∧ (I44 60 12).toInt ≤ 12 := by rw [fI44 60 12 (by decide)]; exact (by show 0 ≤ (I36 60 12).toInt ∧ (I36 60 12).toInt ≤ 12; exact k42)
        refine lv_topi (fun x51 ex51 => ?_)
        rw [← ex51] at hp
        have hv52 := hp
        exact z_iret hx hb hr hK hS (Nat.le_of_ble_eq_true rfl) (Nat.le_of_ble_eq_true rfl) hlocks dX6_grant_108 (shC c, ad, I44, JX, PC c ad) hW ⟨I44, rfl, (by show 0 ≤ (I44 21 2).toInt ∧ (I44 21 2).toInt ≤ 12; exact k46), ⟨(by show 0 ≤ (I44 1 5).toInt ∧ (I44 1 5).toInt ≤ 30; exact k47), (by show 0 ≤ (I44 1 11).toInt ∧ (I44 1 11).toInt ≤ 200; exact k48)⟩, ⟨(by show 0 ≤ (I44 60 9).toInt ∧ (I44 60 9).toInt ≤ 60; exact k49), (by show 0 ≤ (I44 60 12).toInt ∧ (I44 60 12).toInt ≤ 12; exact k50)⟩, f45, ⟨(k12 : Int), (show zi_B (zi_mo I) (zi_td I) ((I 65 a3.toNatClampNeg).toInt / 30) (I 67 a3.toNatClampNeg).toInt c.2.1 _ by rw [show (I 65 a3.toNatClampNeg).toInt / 30 = x11.toInt by omega, hr6]; exact hb13), Or.inr ⟨k12, rfl, hk12, by rw [hv52, show (301 : Int32).toInt = 301 by decide, hA9]⟩⟩⟩
      · have h53 := h17
        have r54 : 0 ≤ (I 1 5).toInt ∧ (I 1 5).toInt ≤ 30 := hH.1
        refine lv_if_ne (tgt := 55) hx hb dX6_grant_50 (by decide) (fun c55 => absurd (by decide) c55) (fun c55 => ?_)
        refine lv_iconst (v := 0) hx hb dX6_grant_53 (by decide) ?_
        exact z_iret hx hb hr hK hS (Nat.le_of_ble_eq_true rfl) (Nat.le_of_ble_eq_true rfl) hlocks dX6_grant_54 (shC c, ad, I, JX, PC c ad) hW ⟨I, rfl, (by show 0 ≤ (I 21 2).toInt ∧ (I 21 2).toInt ≤ 12; exact hO), ⟨(by show 0 ≤ (I 1 5).toInt ∧ (I 1 5).toInt ≤ 30; exact hH.1), (by show 0 ≤ (I 1 11).toInt ∧ (I 1 11).toInt ≤ 200; exact hH.2)⟩, ⟨(by show 0 ≤ (I 60 9).toInt ∧ (I 60 9).toInt ≤ 60; exact hJ.1), (by show 0 ≤ (I 60 12).toInt ∧ (I 60 12).toInt ≤ 12; exact hJ.2)⟩, z_fr_0, (by exfalso; omega)⟩
  · have h56 := h1
    have r57 : 0 ≤ (I 60 9).toInt ∧ (I 60 9).toInt ≤ 60 := hJ.1
    refine lv_if_ne (tgt := 10) hx hb dX6_grant_5 (by decide) (fun c58 => absurd (by decide) c58) (fun c58 => ?_)
    refine lv_iconst (v := 0) hx hb dX6_grant_8 (by decide) ?_
    exact z_iret hx hb hr hK hS (Nat.le_of_ble_eq_true rfl) (Nat.le_of_ble_eq_true rfl) hlocks dX6_grant_9 (shC c, ad, I, JX, PC c ad) hW ⟨I, rfl, (by show 0 ≤ (I 21 2).toInt ∧ (I 21 2).toInt ≤ 12; exact hO), ⟨(by show 0 ≤ (I 1 5).toInt ∧ (I 1 5).toInt ≤ 30; exact hH.1), (by show 0 ≤ (I 1 11).toInt ∧ (I 1 11).toInt ≤ 200; exact hH.2)⟩, ⟨(by show 0 ≤ (I 60 9).toInt ∧ (I 60 9).toInt ≤ 60; exact hJ.1), (by show 0 ≤ (I 60 12).toInt ∧ (I 60 12).toInt ≤ 12; exact hJ.2)⟩, z_fr_0, (by exfalso; omega)⟩
noncomputable def L_X12_granted_g : z_L := [(24, 999), (30, 999)]
set_option maxHeartbeats 8000000 in
set_option maxRecDepth 100000 in
theorem sx_X12_granted_g (l : Launch) (G : z_G) (ad : Nat → Nat) (I : z_I) (J : z_J) (hma : z_ima I) (hmb : z_imb I) (hmj : z_imj I) (hAtf : z_rg 11 0 288 I) (hAtm : z_rg 12 0 24 I) (hAjw : z_rg 59 0 29 I) (hNd : z_Nd I) (hAsf : z_rg 19 0 6200 I) (hAst : z_rg 20 0 6200 I) (hAsc : z_rg 18 (-1) 6199 I) (hEx : z_Ex I) (FF : Nat → Nat) (RS : Nat → List zm_row) (a1 : Int32) (q1 : 0 ≤ a1.toInt ∧ a1.toInt ≤ 59) (hb9 : zn_c I a1.toNatClampNeg) (hWm : zw_W I FF RS) : z_M l yX12_granted wsX12_granted { frames := 5, cells := 0, slots := 0, locals := 108 } [.ref (ad 0), .int a1] G (shM, ad, I, J, PM ad) (fun r u1 => ∃ (I1 : z_I) (J1 : z_J), u1 = (shM, ad, I1, J1, PM ad) ∧ z_ima I1 ∧ z_imb I1 ∧ z_imj I1 ∧ z_rg 11 0 288 I1 ∧ z_rg 12 0 24 I1 ∧ z_rg 59 0 29 I1 ∧ z_Nd I1 ∧ z_rg 19 0 6200 I1 ∧ z_rg 20 0 6200 I1 ∧ z_rg 18 (-1) 6199 I1 ∧ z_Ex I1 ∧ z_fr L_X12_granted_g I1 I ∧ zn_M I RS (I 59 a1.toNatClampNeg) (I 63 a1.toNatClampNeg) (I 65 a1.toNatClampNeg) (I 60 a1.toNatClampNeg) (I 61 a1.toNatClampNeg) (I 62 a1.toNatClampNeg) r.toInt) 0 0 := sorry
set_option maxHeartbeats 8000000 in
set_option maxRecDepth 100000 in
theorem sx_X11_isReason_g (l : Launch) (G : z_G) (ad : Nat → Nat) (c : z_C) (I : z_I) (a1 : Int32) : z_M l yX11_isReason wsX11_isReason { frames := 2, cells := 0, slots := 0, locals := 34 } [.int a1] G (shC c, ad, I, JX, PC c ad) (fun r u1 => u1 = (shC c, ad, I, JX, PC c ad) ∧ ((r = 1 ∧ 0 ≤ a1.toInt ∧ a1.toInt ≤ 4) ∨ (r = 0 ∧ ¬ (0 ≤ a1.toInt ∧ a1.toInt ≤ 4)))) 0 0 := by
  intro sz
  refine z_headQ (cc := cX11_isReason) (maxL := 1) (ret := (some .boolean)) (by decide) rfl (Nat.le_of_ble_eq_true rfl) ?_
  intro p e s m below meth c0 ls hIn hK hsz hW hl
  obtain ⟨hx, hb, hr, hml, hown, hts, hlocks, hname⟩ := hIn
  subst hsz
  have hown : s.vm.findClass RX11 = some m.cls := hown
  have hA : ∀ q : Nat, s.heap.size ≤ q → z_A (shC c, ad, I, JX, PC c ad) s.heap.size q := fun q h => Or.inr h
  generalize hAe : z_A (shC c, ad, I, JX, PC c ad) s.heap.size = A at *
  have hS : va_S A s.heap s.heap [] := va_S.rf
  have hl : lv_has ls 1 [(0, .int a1)] := hl
  refine lv_iload_n hx hb dX11_isReason_0 rfl (lv_at hl 0 rfl) ?_
  refine lv_iconst (v := 0) hx hb dX11_isReason_1 (by decide) ?_
  refine lv_iconst (v := 4) hx hb dX11_isReason_2 (by decide) ?_
  refine z_ci hW hS hA (va_runS (As := [.int a1, .int 0, .int 4]) (rest := []) ⟨hx, hb, hml, hown, hts⟩ (sx_X11_within_e l G ad c I  a1 0 4 _) (va_cwS 3 hts gX11_isReason_X11_within rfl rfl rfl (by decide +kernel) ⟨Nat.le_of_ble_eq_true rfl, Nat.le_of_ble_eq_true rfl⟩) (z_preS hK hW) rfl rfl hl.1 rfl (lv_room (Nat.le_of_ble_eq_true rfl)) dX11_isReason_3 ⟨Nat.le_of_ble_eq_true rfl, Nat.le_of_ble_eq_true rfl⟩) (fun r u1 H locs hp hW hS => ?_)
  obtain ⟨e9, hp⟩ := hp
  rw [e9] at hW
  rcases hp with ⟨rfl, h1⟩ | ⟨rfl, h1⟩
  · have h2 := h1
    have z3 := z_l0
    have z4 := z_l4
    exact z_zret hx hb hr (by decide) hK hS (Nat.le_of_ble_eq_true rfl) (Nat.le_of_ble_eq_true rfl) hlocks dX11_isReason_6 (shC c, ad, I, JX, PC c ad) hW ⟨rfl, (Or.inl ⟨rfl, by omega⟩)⟩
  · have h5 := h1
    have z6 := z_l0
    have z7 := z_l4
    exact z_zret hx hb hr (by decide) hK hS (Nat.le_of_ble_eq_true rfl) (Nat.le_of_ble_eq_true rfl) hlocks dX11_isReason_6 (shC c, ad, I, JX, PC c ad) hW ⟨rfl, (Or.inr ⟨rfl, by omega⟩)⟩
noncomputable def L_X11_appeal_g : z_L := [(24, 999), (25, 999), (64, 999), (68, 999)]
set_option maxHeartbeats 8000000 in
set_option maxRecDepth 100000 in
theorem sx_X11_appeal_g (l : Launch) (G : z_G) (ad : Nat → Nat) (c : z_C) (I : z_I) (hO : z_iO I) (hH : z_iH I) (hJ : z_iJ I) (SS : Nat → List zp_T) (a1 : Int32) (a2 : Int32) (hc : z_okc c) (h10 : c.1 ≤ 10) (hWu : zv_W c I SS) (hb9 : (0 ≤ a1.toInt ∧ a1.toInt < (I 60 9).toInt) → zn_b I a1.toNatClampNeg) : z_M l yX11_appeal wsX11_appeal { frames := 6, cells := 0, slots := 0, locals := 160 } [.ref (ad 0), .int a1, .int a2] G (shC c, ad, I, JX, PC c ad) (fun r u1 => ∃ I1 : z_I, u1 = (shC c, ad, I1, JX, PC c ad) ∧ z_iO I1 ∧ z_iH I1 ∧ z_iJ I1 ∧ z_fr L_X11_appeal_g I1 I ∧ (((0 ≤ a1.toInt ∧ a1.toInt < (I 60 9).toInt ∧ 0 ≤ a2.toInt ∧ a2.toInt ≤ 4) ∧ zn_X c I SS (I 61 a1.toNatClampNeg) (I 65 a1.toNatClampNeg) (I 67 a1.toNatClampNeg) (I 62 a1.toNatClampNeg) (I 63 a1.toNatClampNeg) a2 r.toInt ∧ (∀ j, I1 61 j = I 61 j) ∧ (∀ j, I1 62 j = I 62 j) ∧ (∀ j, I1 63 j = I 63 j) ∧ (∀ j, I1 64 j = if j = a1.toNatClampNeg then a2 else I 64 j) ∧ (∀ j, I1 65 j = I 65 j) ∧ (∀ j, I1 66 j = I 66 j) ∧ (∀ j, I1 67 j = I 67 j) ∧ (∀ j, I1 68 j = if j = a1.toNatClampNeg then r else I 68 j) ∧ (∀ j, I1 69 j = I 69 j)) ∨ (¬ (0 ≤ a1.toInt ∧ a1.toInt < (I 60 9).toInt ∧ 0 ≤ a2.toInt ∧ a2.toInt ≤ 4) ∧ r.toInt = -1 ∧ zn_sX I1 I))) 0 0 := by
  intro sz
  refine z_headQ (cc := cX11_appeal) (maxL := 3) (ret := (some .int)) (by decide) rfl (Nat.le_of_ble_eq_true rfl) ?_
  intro p e s m below meth c0 ls hIn hK hsz hW hl
  obtain ⟨hx, hb, hr, hml, hown, hts, hlocks, hname⟩ := hIn
  subst hsz
  have hown : s.vm.findClass RX11 = some m.cls := hown
  have hA : ∀ q : Nat, s.heap.size ≤ q → z_A (shC c, ad, I, JX, PC c ad) s.heap.size q := fun q h => Or.inr h
  generalize hAe : z_A (shC c, ad, I, JX, PC c ad) s.heap.size = A at *
  have hS : va_S A s.heap s.heap [] := va_S.rf
  have hl : lv_has ls 3 [(0, .ref (ad 0)), (1, .int a1), (2, .int a2)] := hl
  refine lv_aload_n hx hb dX11_appeal_0 rfl (lv_at hl 0 rfl) ?_
  refine z_get (T := TX11) (N := 13) (ci := 11) (i := 0) (v := .ref (ad 60)) hx hb hts zj_X11_appeal_X11 hown hK hW rfl rfl 11 (by decide) (hts (.fieldLink RX11 68 "PetrolBoard" "journeys" "LPetrolBoard$Journeys;") (me_s (me_l (me_l (me_l (me_l (me_l (me_l (me_l (List.mem_of_getElem? (i := 0) rfl)))))))))) (fun _ h => h) rfl dX11_appeal_1 ?_
  refine lv_iload_n hx hb dX11_appeal_4 rfl (lv_at hl 1 rfl) ?_
  refine z_ci hW hS hA (va_runV (As := [.int a1]) (rest := []) ⟨hx, hb, hml, hown, hts⟩ (sx_X3_has_g l G ad c I ⟨(by show 0 ≤ (I 60 9).toInt ∧ (I 60 9).toInt ≤ 60; exact hJ.1), (by show 0 ≤ (I 60 12).toInt ∧ (I 60 12).toInt ≤ 12; exact hJ.2)⟩ a1 _) (cwV 1 hts gX11_appeal_X3_has rfl rfl rfl (by decide +kernel) ⟨Nat.le_of_ble_eq_true rfl, Nat.le_of_ble_eq_true rfl⟩) (z_preV (i := 60) hK hW rfl rfl) rfl rfl hl.1 rfl (lv_room (Nat.le_of_ble_eq_true rfl)) dX11_appeal_5 ⟨Nat.le_of_ble_eq_true rfl, Nat.le_of_ble_eq_true rfl⟩) (fun r u1 H locs hp hW hS => ?_)
  obtain ⟨e9, hp⟩ := hp
  rw [e9] at hW
  rcases hp with ⟨rfl, h1⟩ | ⟨rfl, h1⟩
  · have h2 := h1
    have r3 : 0 ≤ (I 60 9).toInt ∧ (I 60 9).toInt ≤ 60 := hJ.1
    refine lv_if_eq (tgt := 18) hx hb dX11_appeal_8 (by decide) (fun c4 => absurd c4 (by decide)) (fun c4 => ?_)
    refine lv_iload_n hx hb dX11_appeal_11 rfl (lv_at hl 2 rfl) ?_
    refine z_ci hW hS hA (va_runS (As := [.int a2]) (rest := []) ⟨hx, hb, hml, hown, hts⟩ (sx_X11_isReason_g l G ad c I  a2 _) (va_cwS 1 hts gX11_appeal_X11_isReason rfl rfl rfl (by decide +kernel) ⟨Nat.le_of_ble_eq_true rfl, Nat.le_of_ble_eq_true rfl⟩) (z_preS hK hW) rfl rfl hl.1 rfl (lv_room (Nat.le_of_ble_eq_true rfl)) dX11_appeal_12 ⟨Nat.le_of_ble_eq_true rfl, Nat.le_of_ble_eq_true rfl⟩) (fun r u1 H locs hp hW hS => ?_)
    obtain ⟨e9, hp⟩ := hp
    rw [e9] at hW
    rcases hp with ⟨rfl, h5⟩ | ⟨rfl, h5⟩
    · have h6 := h5
      refine lv_if_ne (tgt := 20) hx hb dX11_appeal_15 (by decide) (fun c7 => ?_) (fun c7 => absurd c7 (by decide))
      obtain ⟨bb1, bb2, bb3, bb4, bb5⟩ := hb9 (by omega)
      refine lv_aload_n hx hb dX11_appeal_20 rfl (lv_at hl 0 rfl) ?_
      refine z_get (T := TX11) (N := 13) (ci := 11) (i := 0) (v := .ref (ad 60)) hx hb hts zj_X11_appeal_X11 hown hK hW rfl rfl 11 (by decide) (hts (.fieldLink RX11 68 "PetrolBoard" "journeys" "LPetrolBoard$Journeys;") (me_s (me_l (me_l (me_l (me_l (me_l (me_l (me_l (List.mem_of_getElem? (i := 0) rfl)))))))))) (fun _ h => h) rfl dX11_appeal_21 ?_
      refine z_get (T := TX3) (N := 17) (ci := 3) (i := 60) (v := .ref (ad 64)) hx hb hts zj_X11_appeal_X3 hown hK hW rfl rfl 3 (by decide) (hts (.fieldLink RX11 342 "PetrolBoard$Journeys" "reason" "[I") (me_s (me_l (me_l (me_l (me_l (me_l (me_l (me_l (List.mem_of_getElem? (i := 1) rfl)))))))))) (fun _ h => h) rfl dX11_appeal_24 ?_
      refine lv_iload_n hx hb dX11_appeal_27 rfl (lv_at hl 1 rfl) ?_
      refine lv_iload_n hx hb dX11_appeal_28 rfl (lv_at hl 2 rfl) ?_
      refine z_iast (i := 64) hx hb hK hW hS rfl (z_ix rfl (by omega) (by omega)) dX11_appeal_29 (fun H locs hz1 hW hS => ?_)
      obtain ⟨I8, eI8⟩ : ∃ K : z_I, K = z_up I 64 a1.toNatClampNeg a2 := ⟨_, rfl⟩
      rw [← eI8] at hW
      have f9 := z_fr_a z_fr_0 (show z_wa L_X11_appeal_g 64 = true by decide) eI8
      refine lv_aload_n hx hb dX11_appeal_30 rfl (lv_at hl 0 rfl) ?_
      refine z_get (T := TX11) (N := 13) (ci := 11) (i := 0) (v := .ref (ad 60)) hx hb hts zj_X11_appeal_X11 hown hK hW rfl rfl 11 (by decide) (hts (.fieldLink RX11 68 "PetrolBoard" "journeys" "LPetrolBoard$Journeys;") (me_s (me_l (me_l (me_l (me_l (me_l (me_l (me_l (List.mem_of_getElem? (i := 0) rfl)))))))))) (fun _ h => h) rfl dX11_appeal_31 ?_
      refine z_get (T := TX3) (N := 17) (ci := 3) (i := 60) (v := .ref (ad 68)) hx hb hts zj_X11_appeal_X3 hown hK hW rfl rfl 7 (by decide) (hts (.fieldLink RX11 332 "PetrolBoard$Journeys" "granted" "[I") (me_s (me_l (me_l (me_l (me_l (me_l (me_l (me_l (List.mem_of_getElem? (i := 2) rfl)))))))))) (fun _ h => h) rfl dX11_appeal_34 ?_
      refine lv_iload_n hx hb dX11_appeal_37 rfl (lv_at hl 1 rfl) ?_
      refine lv_aload_n hx hb dX11_appeal_38 rfl (lv_at hl 0 rfl) ?_
      refine z_get (T := TX11) (N := 13) (ci := 11) (i := 0) (v := .ref (ad 21)) hx hb hts zj_X11_appeal_X11 hown hK hW rfl rfl 4 (by decide) (hts (.fieldLink RX11 30 "PetrolBoard" "orderBook" "LPetrolBoard$OrderBook;") (me_s (me_l (me_l (me_l (me_l (me_l (me_l (me_l (List.mem_of_getElem? (i := 3) rfl)))))))))) (fun _ h => h) rfl dX11_appeal_39 ?_
      refine lv_aload_n hx hb dX11_appeal_42 rfl (lv_at hl 0 rfl) ?_
      refine z_get (T := TX11) (N := 13) (ci := 11) (i := 0) (v := .ref (ad 1)) hx hb hts zj_X11_appeal_X11 hown hK hW rfl rfl 2 (by decide) (hts (.fieldLink RX11 16 "PetrolBoard" "holders" "LPetrolBoard$Holders;") (me_s (me_l (me_l (me_l (me_l (me_l (me_l (me_l (List.mem_of_getElem? (i := 4) rfl)))))))))) (fun _ h => h) rfl dX11_appeal_43 ?_
      refine lv_aload_n hx hb dX11_appeal_46 rfl (lv_at hl 0 rfl) ?_
      refine z_get (T := TX11) (N := 13) (ci := 11) (i := 0) (v := .ref (ad 60)) hx hb hts zj_X11_appeal_X11 hown hK hW rfl rfl 11 (by decide) (hts (.fieldLink RX11 68 "PetrolBoard" "journeys" "LPetrolBoard$Journeys;") (me_s (me_l (me_l (me_l (me_l (me_l (me_l (me_l (List.mem_of_getElem? (i := 0) rfl)))))))))) (fun _ h => h) rfl dX11_appeal_47 ?_
      refine lv_iload_n hx hb dX11_appeal_50 rfl (lv_at hl 1 rfl) ?_
      refine z_ci hW hS hA (va_runV (As := [.ref (ad 1), .ref (ad 60), .int a1]) (rest := [.int a1, .ref (ad 68)]) ⟨hx, hb, hml, hown, hts⟩ (sx_X6_grant_g l G ad c I8 (by show 0 ≤ (I8 21 2).toInt ∧ (I8 21 2).toInt ≤ 12; rw [eI8, z_up_n (by decide)]; exact hO) ⟨(by show 0 ≤ (I8 1 5).toInt ∧ (I8 1 5).toInt ≤ 30; rw [eI8, z_up_n (by decide)]; exact hH.1), (by show 0 ≤ (I8 1 11).toInt ∧ (I8 1 11).toInt ≤ 200; rw [eI8, z_up_n (by decide)]; exact hH.2)⟩ ⟨(by show 0 ≤ (I8 60 9).toInt ∧ (I8 60 9).toInt ≤ 60; rw [eI8, z_up_n (by decide)]; exact hJ.1), (by show 0 ≤ (I8 60 12).toInt ∧ (I8 60 12).toInt ≤ 12; rw [eI8, z_up_n (by decide)]; exact hJ.2)⟩ SS a1 hc (zv_W_c hWu (f9 21 2 (by decide)) (zv_fr2 f9 (by decide)) (fun j => ⟨f9 7 j (z_wr_c (by decide)), f9 8 j (z_wr_c (by decide)), f9 9 j (z_wr_c (by decide)), f9 10 j (z_wr_c (by decide)), f9 11 j (z_wr_c (by decide))⟩) (f9 1 11 (by decide)) (f9 1 5 (by decide)) (fun j => ⟨f9 2 j (z_wr_c (by decide)), f9 3 j (z_wr_c (by decide))⟩)) (by rw [f9 60 9 (by decide)]; omega) ⟨by rw [eI8, z_up_n (by decide), z_up_n (by decide)]; exact bb1, by rw [eI8, z_up_n (by decide)]; exact bb2, by rw [eI8, z_up_n (by decide)]; exact bb3, by rw [eI8, z_up_n (by decide)]; exact bb4, by rw [eI8, z_up_s]; omega⟩ _) (cwV 3 hts gX11_appeal_X6_grant rfl rfl rfl (by decide +kernel) ⟨Nat.le_of_ble_eq_true rfl, Nat.le_of_ble_eq_true rfl⟩) (z_preV (i := 21) hK hW rfl rfl) rfl rfl hl.1 rfl (lv_room (Nat.le_of_ble_eq_true rfl)) dX11_appeal_51 ⟨Nat.le_of_ble_eq_true rfl, Nat.le_of_ble_eq_true rfl⟩) (fun r u1 H locs hp hW hS => ?_)
      obtain ⟨I10, e9, hI10O, hI10H, hI10J, fI10, hp⟩ := hp
      rw [e9] at hW
      have f11 := z_fr_sub (L := L_X11_appeal_g) f9 fI10 (by decide)
      refine lv_topi (fun x12 ex12 => ?_)
      rw [← ex12] at hp
      have hG13 := hp
      refine z_iast (i := 68) hx hb hK hW hS rfl (z_ix rfl (by omega) (by omega)) dX11_appeal_54 (fun H locs hz1 hW hS => ?_)
      obtain ⟨I14, eI14⟩ : ∃ K : z_I, K = z_up I10 68 a1.toNatClampNeg x12 := ⟨_, rfl⟩
      rw [← eI14] at hW
      have f15 := z_fr_a f11 (show z_wa L_X11_appeal_g 68 = true by decide) eI14
      refine lv_aload_n hx hb dX11_appeal_55 rfl (lv_at hl 0 rfl) ?_
      refine z_get (T := TX11) (N := 13) (ci := 11) (i := 0) (v := .ref (ad 60)) hx hb hts zj_X11_appeal_X11 hown hK hW rfl rfl 11 (by decide) (hts (.fieldLink RX11 68 "PetrolBoard" "journeys" "LPetrolBoard$Journeys;") (me_s (me_l (me_l (me_l (me_l (me_l (me_l (me_l (List.mem_of_getElem? (i := 0) rfl)))))))))) (fun _ h => h) rfl dX11_appeal_56 ?_
      refine z_get (T := TX3) (N := 17) (ci := 3) (i := 60) (v := .ref (ad 68)) hx hb hts zj_X11_appeal_X3 hown hK hW rfl rfl 7 (by decide) (hts (.fieldLink RX11 332 "PetrolBoard$Journeys" "granted" "[I") (me_s (me_l (me_l (me_l (me_l (me_l (me_l (me_l (List.mem_of_getElem? (i := 2) rfl)))))))))) (fun _ h => h) rfl dX11_appeal_59 ?_
      refine lv_iload_n hx hb dX11_appeal_62 rfl (lv_at hl 1 rfl) ?_
      refine z_iald (i := 68) hx hb hK hW rfl (z_ix rfl (by omega) (by omega)) dX11_appeal_63 ?_
      refine lv_topi (fun x16 ex16 => ?_)
      exact z_iret hx hb hr hK hS (Nat.le_of_ble_eq_true rfl) (Nat.le_of_ble_eq_true rfl) hlocks dX11_appeal_64 (shC c, ad, I14, JX, PC c ad) hW ⟨I14, rfl, (by show 0 ≤ (I14 21 2).toInt ∧ (I14 21 2).toInt ≤ 12; rw [eI14, z_up_n (by decide)]; exact hI10O), ⟨(by show 0 ≤ (I14 1 5).toInt ∧ (I14 1 5).toInt ≤ 30; rw [eI14, z_up_n (by decide)]; exact hI10H.1), (by show 0 ≤ (I14 1 11).toInt ∧ (I14 1 11).toInt ≤ 200; rw [eI14, z_up_n (by decide)]; exact hI10H.2)⟩, ⟨(by show 0 ≤ (I14 60 9).toInt ∧ (I14 60 9).toInt ≤ 60; rw [eI14, z_up_n (by decide)]; exact hI10J.1), (by show 0 ≤ (I14 60 12).toInt ∧ (I14 60 12).toInt ≤ 12; rw [eI14, z_up_n (by decide)]; exact hI10J.2)⟩, f15, (Or.inl ⟨by omega, (by rw [(show x16 = x12 by rw [ex16, eI14, z_up_s])]; exact (by have q9 := hG13; rw [show I8 61 a1.toNatClampNeg = I 61 a1.toNatClampNeg by rw [eI8, z_up_n (by decide)], show I8 65 a1.toNatClampNeg = I 65 a1.toNatClampNeg by rw [eI8, z_up_n (by decide)], show I8 67 a1.toNatClampNeg = I 67 a1.toNatClampNeg by rw [eI8, z_up_n (by decide)], show I8 62 a1.toNatClampNeg = I 62 a1.toNatClampNeg by rw [eI8, z_up_n (by decide)], show I8 63 a1.toNatClampNeg = I 63 a1.toNatClampNeg by rw [eI8, z_up_n (by decide)], show I8 64 a1.toNatClampNeg = a2 by rw [eI8, z_up_s]] at q9; exact zn_X_c (zv_fr2 f9 (by decide)) (fun j => ⟨f9 7 j (z_wr_c (by decide)), f9 8 j (z_wr_c (by decide)), f9 9 j (z_wr_c (by decide)), f9 10 j (z_wr_c (by decide)), f9 11 j (z_wr_c (by decide))⟩) (f9 1 11 (by decide)) (fun j => ⟨f9 2 j (z_wr_c (by decide)), f9 3 j (z_wr_c (by decide))⟩) q9)), (fun j => by rw [eI14, z_up_n (by decide), fI10 61 j (z_wr_c (by decide)), eI8, z_up_n (by decide)]), (fun j => by rw [eI14, z_up_n (by decide), fI10 62 j (z_wr_c (by decide)), eI8, z_up_n (by decide)]), (fun j => by rw [eI14, z_up_n (by decide), fI10 63 j (z_wr_c (by decide)), eI8, z_up_n (by decide)]), (fun j => by rw [eI14, z_up_n (by decide), fI10 64 j (z_wr_c (by decide)), eI8, z_up_j]), (fun j => by rw [eI14, z_up_n (by decide), fI10 65 j (z_wr_c (by decide)), eI8, z_up_n (by decide)]), (fun j => by rw [eI14, z_up_n (by decide), fI10 66 j (z_wr_c (by decide)), eI8, z_up_n (by decide)]), (fun j => by rw [eI14, z_up_n (by decide), fI10 67 j (z_wr_c (by decide)), eI8, z_up_n (by decide)]), (fun j => by rw [eI14, z_up_j, fI10 68 j (z_wr_c (by decide)), eI8, z_up_n (by decide), (show x16 = x12 by rw [ex16, eI14, z_up_s])]), (fun j => by rw [eI14, z_up_n (by decide), fI10 69 j (z_wr_c (by decide)), eI8, z_up_n (by decide)])⟩)⟩
    · have h17 := h5
      refine lv_if_ne (tgt := 20) hx hb dX11_appeal_15 (by decide) (fun c18 => absurd (by decide) c18) (fun c18 => ?_)
      refine lv_iconst (v := (-1)) hx hb dX11_appeal_18 (by decide) ?_
      exact z_iret hx hb hr hK hS (Nat.le_of_ble_eq_true rfl) (Nat.le_of_ble_eq_true rfl) hlocks dX11_appeal_19 (shC c, ad, I, JX, PC c ad) hW ⟨I, rfl, (by show 0 ≤ (I 21 2).toInt ∧ (I 21 2).toInt ≤ 12; exact hO), ⟨(by show 0 ≤ (I 1 5).toInt ∧ (I 1 5).toInt ≤ 30; exact hH.1), (by show 0 ≤ (I 1 11).toInt ∧ (I 1 11).toInt ≤ 200; exact hH.2)⟩, ⟨(by show 0 ≤ (I 60 9).toInt ∧ (I 60 9).toInt ≤ 60; exact hJ.1), (by show 0 ≤ (I 60 12).toInt ∧ (I 60 12).toInt ≤ 12; exact hJ.2)⟩, z_fr_0, (Or.inr ⟨by omega, by decide, (fun j => ⟨rfl, rfl, rfl, rfl, rfl, rfl, rfl, rfl, rfl⟩)⟩)⟩
  · have h19 := h1
    have r20 : 0 ≤ (I 60 9).toInt ∧ (I 60 9).toInt ≤ 60 := hJ.1
    refine lv_if_eq (tgt := 18) hx hb dX11_appeal_8 (by decide) (fun c21 => ?_) (fun c21 => absurd (by decide) c21)
    refine lv_iconst (v := (-1)) hx hb dX11_appeal_18 (by decide) ?_
    exact z_iret hx hb hr hK hS (Nat.le_of_ble_eq_true rfl) (Nat.le_of_ble_eq_true rfl) hlocks dX11_appeal_19 (shC c, ad, I, JX, PC c ad) hW ⟨I, rfl, (by show 0 ≤ (I 21 2).toInt ∧ (I 21 2).toInt ≤ 12; exact hO), ⟨(by show 0 ≤ (I 1 5).toInt ∧ (I 1 5).toInt ≤ 30; exact hH.1), (by show 0 ≤ (I 1 11).toInt ∧ (I 1 11).toInt ≤ 200; exact hH.2)⟩, ⟨(by show 0 ≤ (I 60 9).toInt ∧ (I 60 9).toInt ≤ 60; exact hJ.1), (by show 0 ≤ (I 60 12).toInt ∧ (I 60 12).toInt ≤ 12; exact hJ.2)⟩, z_fr_0, (Or.inr ⟨by omega, by decide, (fun j => ⟨rfl, rfl, rfl, rfl, rfl, rfl, rfl, rfl, rfl⟩)⟩)⟩
noncomputable def L_X3_add_g : z_L := [(61, 999), (62, 999), (63, 999), (64, 999), (65, 999), (66, 999), (60, 9)]
set_option maxHeartbeats 8000000 in
set_option maxRecDepth 100000 in
theorem sx_X3_add_g (l : Launch) (G : z_G) (ad : Nat → Nat) (c : z_C) (I : z_I) (hJ : z_iJ I) (a1 : Int32) (a2 : Int32) (a3 : Int32) (a4 : Int32) (a5 : Int32) (a6 : Int32) : z_M l yX3_add wsX3_add { frames := 1, cells := 0, slots := 0, locals := 12 } [.ref (ad 60), .int a1, .int a2, .int a3, .int a4, .int a5, .int a6] G (shC c, ad, I, JX, PC c ad) (fun r u1 => ∃ I1 : z_I, u1 = (shC c, ad, I1, JX, PC c ad) ∧ z_iJ I1 ∧ z_fr L_X3_add_g I1 I ∧ (((I 60 9).toInt < 60 ∧ r.toInt = (I 60 9).toInt ∧ (I1 60 9).toInt = (I 60 9).toInt + 1 ∧ (∀ j, I1 61 j = if j = (I 60 9).toNatClampNeg then a1 else I 61 j) ∧ (∀ j, I1 62 j = if j = (I 60 9).toNatClampNeg then a2 else I 62 j) ∧ (∀ j, I1 63 j = if j = (I 60 9).toNatClampNeg then a3 else I 63 j) ∧ (∀ j, I1 64 j = if j = (I 60 9).toNatClampNeg then a4 else I 64 j) ∧ (∀ j, I1 65 j = if j = (I 60 9).toNatClampNeg then a5 else I 65 j) ∧ (∀ j, I1 66 j = if j = (I 60 9).toNatClampNeg then a6 else I 66 j)) ∨ (¬ (I 60 9).toInt < 60 ∧ r.toInt = -1 ∧ (I1 60 9).toInt = (I 60 9).toInt ∧ ∀ j, I1 61 j = I 61 j ∧ I1 62 j = I 62 j ∧ I1 63 j = I 63 j ∧ I1 64 j = I 64 j ∧ I1 65 j = I 65 j ∧ I1 66 j = I 66 j))) 0 0 := by
  intro sz
  refine z_headQ (cc := cX3_add) (maxL := 7) (ret := (some .int)) (by decide) rfl (Nat.le_of_ble_eq_true rfl) ?_
  intro p e s m below meth c0 ls hIn hK hsz hW hl
  obtain ⟨hx, hb, hr, hml, hown, hts, hlocks, hname⟩ := hIn
  subst hsz
  have hown : s.vm.findClass RX3 = some m.cls := hown
  have hA : ∀ q : Nat, s.heap.size ≤ q → z_A (shC c, ad, I, JX, PC c ad) s.heap.size q := fun q h => Or.inr h
  generalize hAe : z_A (shC c, ad, I, JX, PC c ad) s.heap.size = A at *
  have hS : va_S A s.heap s.heap [] := va_S.rf
  have hl : lv_has ls 7 [(0, .ref (ad 60)), (1, .int a1), (2, .int a2), (3, .int a3), (4, .int a4), (5, .int a5), (6, .int a6)] := hl
  refine lv_aload_n hx hb dX3_add_0 rfl (lv_at hl 0 rfl) ?_
  have r1 : 0 ≤ (I 60 9).toInt ∧ (I 60 9).toInt ≤ 60 := hJ.1
  refine z_get (T := TX3) (N := 17) (ci := 3) (i := 60) (v := .int (I 60 9)) hx hb hts zj_X3_add_X3 hown hK hW rfl rfl 9 (by decide) (hts (.fieldLink RX3 45 "PetrolBoard$Journeys" "number" "I") (me_s (me_l (List.mem_of_getElem? (i := 0) rfl)))) (fun _ h => h) rfl dX3_add_1 ?_
  refine lv_bipush (v := 60) hx hb dX3_add_4 (by decide) ?_
  refine lv_icmp_lt (tgt := 11) hx hb dX3_add_6 (by decide) (fun c2 => ?_) (fun c2 => ?_)
  · have g3 := z_f_lt rfl z_l60 c2
    refine lv_aload_n hx hb dX3_add_11 rfl (lv_at hl 0 rfl) ?_
    refine z_get (T := TX3) (N := 17) (ci := 3) (i := 60) (v := .ref (ad 61)) hx hb hts zj_X3_add_X3 hown hK hW rfl rfl 0 (by decide) (hts (.fieldLink RX3 9 "PetrolBoard$Journeys" "holder" "[I") (me_s (me_l (List.mem_of_getElem? (i := 1) rfl)))) (fun _ h => h) rfl dX3_add_12 ?_
    refine lv_aload_n hx hb dX3_add_15 rfl (lv_at hl 0 rfl) ?_
    refine z_get (T := TX3) (N := 17) (ci := 3) (i := 60) (v := .int (I 60 9)) hx hb hts zj_X3_add_X3 hown hK hW rfl rfl 9 (by decide) (hts (.fieldLink RX3 45 "PetrolBoard$Journeys" "number" "I") (me_s (me_l (List.mem_of_getElem? (i := 0) rfl)))) (fun _ h => h) rfl dX3_add_16 ?_
    refine lv_iload_n hx hb dX3_add_19 rfl (lv_at hl 1 rfl) ?_
    refine z_iast (i := 61) hx hb hK hW hS rfl (z_ix rfl (by omega) (by omega)) dX3_add_20 (fun H locs hz1 hW hS => ?_)
    obtain ⟨I4, eI4⟩ : ∃ K : z_I, K = z_up I 61 (I 60 9).toNatClampNeg a1 := ⟨_, rfl⟩
    rw [← eI4] at hW
    have f5 := z_fr_a z_fr_0 (show z_wa L_X3_add_g 61 = true by decide) eI4
    refine lv_aload_n hx hb dX3_add_21 rfl (lv_at hl 0 rfl) ?_
    refine z_get (T := TX3) (N := 17) (ci := 3) (i := 60) (v := .ref (ad 62)) hx hb hts zj_X3_add_X3 hown hK hW rfl rfl 1 (by decide) (hts (.fieldLink RX3 15 "PetrolBoard$Journeys" "miles" "[I") (me_s (me_l (List.mem_of_getElem? (i := 2) rfl)))) (fun _ h => h) rfl dX3_add_22 ?_
    refine lv_aload_n hx hb dX3_add_25 rfl (lv_at hl 0 rfl) ?_
    refine z_get (T := TX3) (N := 17) (ci := 3) (i := 60) (v := .int (I 60 9)) hx hb hts zj_X3_add_X3 hown hK hW rfl rfl 9 (by decide) (hts (.fieldLink RX3 45 "PetrolBoard$Journeys" "number" "I") (me_s (me_l (List.mem_of_getElem? (i := 0) rfl)))) (fun _ h => h) (congrArg Value.int (by rw [eI4, z_up_n (by decide)])) dX3_add_26 ?_
    refine lv_iload_n hx hb dX3_add_29 rfl (lv_at hl 2 rfl) ?_
    refine z_iast (i := 62) hx hb hK hW hS rfl (z_ix rfl (by omega) (by omega)) dX3_add_30 (fun H locs hz1 hW hS => ?_)
    obtain ⟨I6, eI6⟩ : ∃ K : z_I, K = z_up I4 62 (I 60 9).toNatClampNeg a2 := ⟨_, rfl⟩
    rw [← eI6] at hW
    have f7 := z_fr_a f5 (show z_wa L_X3_add_g 62 = true by decide) eI6
    refine lv_aload_n hx hb dX3_add_31 rfl (lv_at hl 0 rfl) ?_
    refine z_get (T := TX3) (N := 17) (ci := 3) (i := 60) (v := .ref (ad 63)) hx hb hts zj_X3_add_X3 hown hK hW rfl rfl 2 (by decide) (hts (.fieldLink RX3 18 "PetrolBoard$Journeys" "people" "[I") (me_s (me_l (List.mem_of_getElem? (i := 3) rfl)))) (fun _ h => h) rfl dX3_add_32 ?_
    refine lv_aload_n hx hb dX3_add_35 rfl (lv_at hl 0 rfl) ?_
    refine z_get (T := TX3) (N := 17) (ci := 3) (i := 60) (v := .int (I 60 9)) hx hb hts zj_X3_add_X3 hown hK hW rfl rfl 9 (by decide) (hts (.fieldLink RX3 45 "PetrolBoard$Journeys" "number" "I") (me_s (me_l (List.mem_of_getElem? (i := 0) rfl)))) (fun _ h => h) (congrArg Value.int (by rw [eI6, z_up_n (by decide), eI4, z_up_n (by decide)])) dX3_add_36 ?_
    refine lv_iload_n hx hb dX3_add_39 rfl (lv_at hl 3 rfl) ?_
    refine z_iast (i := 63) hx hb hK hW hS rfl (z_ix rfl (by omega) (by omega)) dX3_add_40 (fun H locs hz1 hW hS => ?_)
    obtain ⟨I8, eI8⟩ : ∃ K : z_I, K = z_up I6 63 (I 60 9).toNatClampNeg a3 := ⟨_, rfl⟩
    rw [← eI8] at hW
    have f9 := z_fr_a f7 (show z_wa L_X3_add_g 63 = true by decide) eI8
    refine lv_aload_n hx hb dX3_add_41 rfl (lv_at hl 0 rfl) ?_
    refine z_get (T := TX3) (N := 17) (ci := 3) (i := 60) (v := .ref (ad 64)) hx hb hts zj_X3_add_X3 hown hK hW rfl rfl 3 (by decide) (hts (.fieldLink RX3 21 "PetrolBoard$Journeys" "reason" "[I") (me_s (me_l (List.mem_of_getElem? (i := 4) rfl)))) (fun _ h => h) rfl dX3_add_42 ?_
    refine lv_aload_n hx hb dX3_add_45 rfl (lv_at hl 0 rfl) ?_
    refine z_get (T := TX3) (N := 17) (ci := 3) (i := 60) (v := .int (I 60 9)) hx hb hts zj_X3_add_X3 hown hK hW rfl rfl 9 (by decide) (hts (.fieldLink RX3 45 "PetrolBoard$Journeys" "number" "I") (me_s (me_l (List.mem_of_getElem? (i := 0) rfl)))) (fun _ h => h) (congrArg Value.int (by rw [eI8, z_up_n (by decide), eI6, z_up_n (by decide), eI4, z_up_n (by decide)])) dX3_add_46 ?_
    refine lv_iload hx hb dX3_add_49 (lv_at hl 4 rfl) ?_
    refine z_iast (i := 64) hx hb hK hW hS rfl (z_ix rfl (by omega) (by omega)) dX3_add_51 (fun H locs hz1 hW hS => ?_)
    obtain ⟨I10, eI10⟩ : ∃ K : z_I, K = z_up I8 64 (I 60 9).toNatClampNeg a4 := ⟨_, rfl⟩
    rw [← eI10] at hW
    have f11 := z_fr_a f9 (show z_wa L_X3_add_g 64 = true by decide) eI10
    refine lv_aload_n hx hb dX3_add_52 rfl (lv_at hl 0 rfl) ?_
    refine z_get (T := TX3) (N := 17) (ci := 3) (i := 60) (v := .ref (ad 65)) hx hb hts zj_X3_add_X3 hown hK hW rfl rfl 4 (by decide) (hts (.fieldLink RX3 24 "PetrolBoard$Journeys" "day" "[I") (me_s (me_l (List.mem_of_getElem? (i := 5) rfl)))) (fun _ h => h) rfl dX3_add_53 ?_
    refine lv_aload_n hx hb dX3_add_56 rfl (lv_at hl 0 rfl) ?_
    refine z_get (T := TX3) (N := 17) (ci := 3) (i := 60) (v := .int (I 60 9)) hx hb hts zj_X3_add_X3 hown hK hW rfl rfl 9 (by decide) (hts (.fieldLink RX3 45 "PetrolBoard$Journeys" "number" "I") (me_s (me_l (List.mem_of_getElem? (i := 0) rfl)))) (fun _ h => h) (congrArg Value.int (by rw [eI10, z_up_n (by decide), eI8, z_up_n (by decide), eI6, z_up_n (by decide), eI4, z_up_n (by decide)])) dX3_add_57 ?_
    refine lv_iload hx hb dX3_add_60 (lv_at hl 5 rfl) ?_
    refine z_iast (i := 65) hx hb hK hW hS rfl (z_ix rfl (by omega) (by omega)) dX3_add_62 (fun H locs hz1 hW hS => ?_)
    obtain ⟨I12, eI12⟩ : ∃ K : z_I, K = z_up I10 65 (I 60 9).toNatClampNeg a5 := ⟨_, rfl⟩
    rw [← eI12] at hW
    have f13 := z_fr_a f11 (show z_wa L_X3_add_g 65 = true by decide) eI12
    refine lv_aload_n hx hb dX3_add_63 rfl (lv_at hl 0 rfl) ?_
    refine z_get (T := TX3) (N := 17) (ci := 3) (i := 60) (v := .ref (ad 66)) hx hb hts zj_X3_add_X3 hown hK hW rfl rfl 5 (by decide) (hts (.fieldLink RX3 27 "PetrolBoard$Journeys" "way" "[I") (me_s (me_l (List.mem_of_getElem? (i := 6) rfl)))) (fun _ h => h) rfl dX3_add_64 ?_
    refine lv_aload_n hx hb dX3_add_67 rfl (lv_at hl 0 rfl) ?_
    refine z_get (T := TX3) (N := 17) (ci := 3) (i := 60) (v := .int (I 60 9)) hx hb hts zj_X3_add_X3 hown hK hW rfl rfl 9 (by decide) (hts (.fieldLink RX3 45 "PetrolBoard$Journeys" "number" "I") (me_s (me_l (List.mem_of_getElem? (i := 0) rfl)))) (fun _ h => h) (congrArg Value.int (by rw [eI12, z_up_n (by decide), eI10, z_up_n (by decide), eI8, z_up_n (by decide), eI6, z_up_n (by decide), eI4, z_up_n (by decide)])) dX3_add_68 ?_
    refine lv_iload hx hb dX3_add_71 (lv_at hl 6 rfl) ?_
    refine z_iast (i := 66) hx hb hK hW hS rfl (z_ix rfl (by omega) (by omega)) dX3_add_73 (fun H locs hz1 hW hS => ?_)
    obtain ⟨I14, eI14⟩ : ∃ K : z_I, K = z_up I12 66 (I 60 9).toNatClampNeg a6 := ⟨_, rfl⟩
    rw [← eI14] at hW
    have f15 := z_fr_a f13 (show z_wa L_X3_add_g 66 = true by decide) eI14
    refine lv_aload_n hx hb dX3_add_74 rfl (lv_at hl 0 rfl) ?_
    refine lv_dup hx hb dX3_add_75 rfl ?_
    refine z_get (T := TX3) (N := 17) (ci := 3) (i := 60) (v := .int (I 60 9)) hx hb hts zj_X3_add_X3 hown hK hW rfl rfl 9 (by decide) (hts (.fieldLink RX3 45 "PetrolBoard$Journeys" "number" "I") (me_s (me_l (List.mem_of_getElem? (i := 0) rfl)))) (fun _ h => h) (congrArg Value.int (by rw [eI14, z_up_n (by decide), eI12, z_up_n (by decide), eI10, z_up_n (by decide), eI8, z_up_n (by decide), eI6, z_up_n (by decide), eI4, z_up_n (by decide)])) dX3_add_76 ?_
    refine lv_iconst (v := 1) hx hb dX3_add_79 (by decide) ?_
    refine lv_iadd hx hb dX3_add_80 ?_
    refine lv_topi (fun x16 ex16 => ?_)
    have tx16 : x16.toInt = (I 60 9).toInt + 1 := z_tadd ex16 rfl z_l1 (by omega) (by omega)
    refine z_put (T := TX3) (N := 17) (ci := 3) (i := 60) (v := .int x16) (I1 := z_up I14 60 9 x16) (J1 := JX) (P1 := PC c ad) hx hb hts zj_X3_add_X3 tyX3 tyX3_ok nmX3 hown hK hW hS rfl rfl 9 (by decide) (hts (.fieldLink RX3 45 "PetrolBoard$Journeys" "number" "I") (me_s (me_l (List.mem_of_getElem? (i := 0) rfl)))) (fun _ h => h) rfl rfl rfl (by first | rfl | exact congrArg _ z_up_s) (fun a b h ty => z_vI h ty) dX3_add_81 (fun H locs hz1 hW hS => ?_)
    obtain ⟨I17, eI17⟩ : ∃ K : z_I, K = z_up I14 60 9 x16 := ⟨_, rfl⟩
    rw [← eI17] at hW
    have f18 := z_fr_k f15 (show z_wr L_X3_add_g 60 9 = true by decide) eI17
    refine lv_aload_n hx hb dX3_add_84 rfl (lv_at hl 0 rfl) ?_
    refine z_get (T := TX3) (N := 17) (ci := 3) (i := 60) (v := .int x16) hx hb hts zj_X3_add_X3 hown hK hW rfl rfl 9 (by decide) (hts (.fieldLink RX3 45 "PetrolBoard$Journeys" "number" "I") (me_s (me_l (List.mem_of_getElem? (i := 0) rfl)))) (fun _ h => h) (congrArg Value.int (by rw [eI17, z_up_s])) dX3_add_85 ?_
    refine lv_iconst (v := 1) hx hb dX3_add_88 (by decide) ?_
    refine lv_isub hx hb dX3_add_89 ?_
    refine lv_topi (fun x19 ex19 => ?_)
    have tx19 : x19.toInt = x16.toInt - 1 := z_tsub ex19 rfl z_l1 (by omega) (by omega)
    exact z_iret hx hb hr hK hS (Nat.le_of_ble_eq_true rfl) (Nat.le_of_ble_eq_true rfl) hlocks dX3_add_90 (shC c, ad, I17, JX, PC c ad) hW ⟨I17, rfl, ⟨(by show 0 ≤ (I17 60 9).toInt ∧ (I17 60 9).toInt ≤ 60; rw [eI17, z_up_s]; omega), (by show 0 ≤ (I17 60 12).toInt ∧ (I17 60 12).toInt ≤ 12; rw [eI17, z_up_k (by decide), eI14, z_up_n (by decide), eI12, z_up_n (by decide), eI10, z_up_n (by decide), eI8, z_up_n (by decide), eI6, z_up_n (by decide), eI4, z_up_n (by decide)]; exact hJ.2)⟩, f18, (Or.inl ⟨by omega, by omega, (by have q9 : (I17 60 9) = x16 := (by rw [eI17, z_up_s]); show (I17 60 9).toInt = (I 60 9).toInt + 1; rw [q9]; first | done | omega), (fun j => by rw [eI17, z_up_n (by decide), eI14, z_up_n (by decide), eI12, z_up_n (by decide), eI10, z_up_n (by decide), eI8, z_up_n (by decide), eI6, z_up_n (by decide), eI4, z_up_j]), (fun j => by rw [eI17, z_up_n (by decide), eI14, z_up_n (by decide), eI12, z_up_n (by decide), eI10, z_up_n (by decide), eI8, z_up_n (by decide), eI6, z_up_j, eI4, z_up_n (by decide)]), (fun j => by rw [eI17, z_up_n (by decide), eI14, z_up_n (by decide), eI12, z_up_n (by decide), eI10, z_up_n (by decide), eI8, z_up_j, eI6, z_up_n (by decide), eI4, z_up_n (by decide)]), (fun j => by rw [eI17, z_up_n (by decide), eI14, z_up_n (by decide), eI12, z_up_n (by decide), eI10, z_up_j, eI8, z_up_n (by decide), eI6, z_up_n (by decide), eI4, z_up_n (by decide)]), (fun j => by rw [eI17, z_up_n (by decide), eI14, z_up_n (by decide), eI12, z_up_j, eI10, z_up_n (by decide), eI8, z_up_n (by decide), eI6, z_up_n (by decide), eI4, z_up_n (by decide)]), (fun j => by rw [eI17, z_up_n (by decide), eI14, z_up_j, eI12, z_up_n (by decide), eI10, z_up_n (by decide), eI8, z_up_n (by decide), eI6, z_up_n (by decide), eI4, z_up_n (by decide)])⟩)⟩
  · have g20 := z_f_nlt rfl z_l60 c2
    refine lv_iconst (v := (-1)) hx hb dX3_add_9 (by decide) ?_
    exact z_iret hx hb hr hK hS (Nat.le_of_ble_eq_true rfl) (Nat.le_of_ble_eq_true rfl) hlocks dX3_add_10 (shC c, ad, I, JX, PC c ad) hW ⟨I, rfl, ⟨(by show 0 ≤ (I 60 9).toInt ∧ (I 60 9).toInt ≤ 60; exact hJ.1), (by show 0 ≤ (I 60 12).toInt ∧ (I 60 12).toInt ≤ 12; exact hJ.2)⟩, z_fr_0, (Or.inr ⟨by omega, by decide, (by show (I 60 9).toInt = (I 60 9).toInt; omega), (fun j => ⟨rfl, rfl, rfl, rfl, rfl, rfl⟩)⟩)⟩
noncomputable def L_X11_ask_g : z_L := [(61, 999), (62, 999), (63, 999), (64, 999), (65, 999), (66, 999), (60, 9), (24, 999), (25, 999), (67, 999), (68, 999), (69, 999)]
set_option maxHeartbeats 8000000 in
set_option maxRecDepth 100000 in
theorem sx_X11_ask_g (l : Launch) (G : z_G) (ad : Nat → Nat) (c : z_C) (I : z_I) (hO : z_iO I) (hH : z_iH I) (hJ : z_iJ I) (hB : z_iB I) (SS : Nat → List zp_T) (a1 : Int32) (a2 : Int32) (a3 : Int32) (a4 : Int32) (a5 : Int32) (a6 : Int32) (hc : z_okc c) (h10 : c.1 ≤ 10) (hWu : zv_W c I SS) : z_M l yX11_ask wsX11_ask { frames := 6, cells := 0, slots := 0, locals := 160 } [.ref (ad 0), .int a1, .int a2, .int a3, .int a4, .int a5, .int a6] G (shC c, ad, I, JX, PC c ad) (fun r u1 => ∃ I1 : z_I, u1 = (shC c, ad, I1, JX, PC c ad) ∧ z_iO I1 ∧ z_iH I1 ∧ z_iJ I1 ∧ z_iB I1 ∧ z_fr L_X11_ask_g I1 I ∧ (((0 ≤ a1.toInt ∧ a1.toInt < (I 1 5).toInt ∧ 1 ≤ a2.toInt ∧ a2.toInt ≤ 500 ∧ 1 ≤ a3.toInt ∧ a3.toInt ≤ 8 ∧ 0 ≤ a4.toInt ∧ a4.toInt ≤ 4 ∧ (I 0 0).toInt ≤ a5.toInt ∧ a5.toInt ≤ 719 ∧ 0 ≤ a6.toInt ∧ a6.toInt ≤ 99 ∧ a6.toInt / 10 ≠ a6.toInt % 10 ∧ (I 60 9).toInt < 60) ∧ r.toInt = (I 60 9).toInt ∧ (I1 60 9).toInt = (I 60 9).toInt + 1 ∧ ∃ gr : Int32, zn_X c I SS a1 a5 (I 0 0) a2 a3 a4 gr.toInt ∧ zn_rX I1 I (I 60 9).toNatClampNeg a1 a2 a3 a4 a5 a6 (I 0 0) gr gr) ∨ (¬ (0 ≤ a1.toInt ∧ a1.toInt < (I 1 5).toInt ∧ 1 ≤ a2.toInt ∧ a2.toInt ≤ 500 ∧ 1 ≤ a3.toInt ∧ a3.toInt ≤ 8 ∧ 0 ≤ a4.toInt ∧ a4.toInt ≤ 4 ∧ (I 0 0).toInt ≤ a5.toInt ∧ a5.toInt ≤ 719 ∧ 0 ≤ a6.toInt ∧ a6.toInt ≤ 99 ∧ a6.toInt / 10 ≠ a6.toInt % 10 ∧ (I 60 9).toInt < 60) ∧ r.toInt = -1 ∧ (I1 60 9).toInt = (I 60 9).toInt ∧ zn_sX I1 I))) 0 0 := sorry
noncomputable def L_X12_appeal_g : z_L := [(62, 999), (66, 999), (24, 999), (30, 999)]
set_option maxHeartbeats 8000000 in
set_option maxRecDepth 100000 in
theorem sx_X12_appeal_g (l : Launch) (G : z_G) (ad : Nat → Nat) (I : z_I) (J : z_J) (hma : z_ima I) (hmb : z_imb I) (hmj : z_imj I) (hAtf : z_rg 11 0 288 I) (hAtm : z_rg 12 0 24 I) (hAjw : z_rg 59 0 29 I) (hNd : z_Nd I) (hAsf : z_rg 19 0 6200 I) (hAst : z_rg 20 0 6200 I) (hAsc : z_rg 18 (-1) 6199 I) (hEx : z_Ex I) (FF : Nat → Nat) (RS : Nat → List zm_row) (a1 : Int32) (a2 : Int32) (hb9 : (0 ≤ a1.toInt ∧ a1.toInt < (I 0 83).toInt) → zn_c I a1.toNatClampNeg) (hWm : zw_W I FF RS) : z_M l yX12_appeal wsX12_appeal { frames := 6, cells := 0, slots := 0, locals := 130 } [.ref (ad 0), .int a1, .int a2] G (shM, ad, I, J, PM ad) (fun r u1 => ∃ (I1 : z_I) (J1 : z_J), u1 = (shM, ad, I1, J1, PM ad) ∧ z_ima I1 ∧ z_imb I1 ∧ z_imj I1 ∧ z_rg 11 0 288 I1 ∧ z_rg 12 0 24 I1 ∧ z_rg 59 0 29 I1 ∧ z_Nd I1 ∧ z_rg 19 0 6200 I1 ∧ z_rg 20 0 6200 I1 ∧ z_rg 18 (-1) 6199 I1 ∧ z_Ex I1 ∧ z_fr L_X12_appeal_g I1 I ∧ (((0 ≤ a1.toInt ∧ a1.toInt < (I 0 83).toInt ∧ 0 ≤ a2.toInt ∧ a2.toInt ≤ 4) ∧ zn_M I RS (I 59 a1.toNatClampNeg) (I 63 a1.toNatClampNeg) (I 65 a1.toNatClampNeg) (I 60 a1.toNatClampNeg) (I 61 a1.toNatClampNeg) a2 r.toInt ∧ (∀ j, I1 59 j = I 59 j) ∧ (∀ j, I1 60 j = I 60 j) ∧ (∀ j, I1 61 j = I 61 j) ∧ (∀ j, I1 62 j = if j = a1.toNatClampNeg then a2 else I 62 j) ∧ (∀ j, I1 63 j = I 63 j) ∧ (∀ j, I1 64 j = I 64 j) ∧ (∀ j, I1 65 j = I 65 j) ∧ (∀ j, I1 66 j = if j = a1.toNatClampNeg then r else I 66 j) ∧ (∀ j, I1 67 j = I 67 j)) ∨ (¬ (0 ≤ a1.toInt ∧ a1.toInt < (I 0 83).toInt ∧ 0 ≤ a2.toInt ∧ a2.toInt ≤ 4) ∧ r.toInt = -1 ∧ zn_sM I1 I))) 0 0 := by
  intro sz
  refine z_headQ (cc := cX12_appeal) (maxL := 3) (ret := (some .int)) (by decide) rfl (Nat.le_of_ble_eq_true rfl) ?_
  intro p e s m below meth c0 ls hIn hK hsz hW hl
  obtain ⟨hx, hb, hr, hml, hown, hts, hlocks, hname⟩ := hIn
  subst hsz
  have hown : s.vm.findClass RX12 = some m.cls := hown
  have hA : ∀ q : Nat, s.heap.size ≤ q → z_A (shM, ad, I, J, PM ad) s.heap.size q := fun q h => Or.inr h
  generalize hAe : z_A (shM, ad, I, J, PM ad) s.heap.size = A at *
  have hS : va_S A s.heap s.heap [] := va_S.rf
  have hl : lv_has ls 3 [(0, .ref (ad 0)), (1, .int a1), (2, .int a2)] := hl
  refine lv_iload_n hx hb dX12_appeal_0 rfl (lv_at hl 1 rfl) ?_
  refine lv_if_lt (tgt := 21) hx hb dX12_appeal_1 (by decide) (fun c1 => ?_) (fun c1 => ?_)
  · have g2 := z_f_lt rfl z_l0 c1
    have b3 := Int32.toInt_lt a1
    refine lv_iconst (v := (-1)) hx hb dX12_appeal_21 (by decide) ?_
    exact z_iret hx hb hr hK hS (Nat.le_of_ble_eq_true rfl) (Nat.le_of_ble_eq_true rfl) hlocks dX12_appeal_22 (shM, ad, I, J, PM ad) hW ⟨I, J, rfl, ⟨(by show 0 ≤ (I 0 0).toInt ∧ (I 0 0).toInt ≤ 719; exact hma.1), (by show 0 ≤ (I 0 1).toInt ∧ (I 0 1).toInt ≤ 30; exact hma.2.1), (by show 0 ≤ (I 0 2).toInt ∧ (I 0 2).toInt ≤ 200; exact hma.2.2)⟩, ⟨(by show 0 ≤ (I 0 13).toInt ∧ (I 0 13).toInt ≤ 12; exact hmb.1), (by show 0 ≤ (I 0 14).toInt ∧ (I 0 14).toInt ≤ 288; exact hmb.2)⟩, (by show 0 ≤ (I 0 83).toInt ∧ (I 0 83).toInt ≤ 60; exact hmj), hAtf, hAtm, hAjw, hNd, hAsf, hAst, hAsc, hEx, z_fr_0, (Or.inr ⟨by omega, by decide, (fun j => ⟨rfl, rfl, rfl, rfl, rfl, rfl, rfl, rfl, rfl⟩)⟩)⟩
  · have g4 := z_f_nlt rfl z_l0 c1
    have b5 := Int32.toInt_lt a1
    refine lv_iload_n hx hb dX12_appeal_4 rfl (lv_at hl 1 rfl) ?_
    refine lv_aload_n hx hb dX12_appeal_5 rfl (lv_at hl 0 rfl) ?_
    have r6 : 0 ≤ (I 0 83).toInt ∧ (I 0 83).toInt ≤ 60 := hmj
    refine z_get (T := TX12) (N := 96) (ci := 12) (i := 0) (v := .int (I 0 83)) hx hb hts zj_X12_appeal_X12 hown hK hW rfl rfl 83 (by decide) (hts (.fieldLink RX12 505 "PetrolBoardModel" "journeys" "I") (me_s (me_l (me_l (List.mem_of_getElem? (i := 0) rfl))))) (fun _ h => h) rfl dX12_appeal_6 ?_
    refine lv_icmp_ge (tgt := 21) hx hb dX12_appeal_9 (by decide) (fun c7 => ?_) (fun c7 => ?_)
    · have g8 := z_f_ge rfl rfl c7
      refine lv_iconst (v := (-1)) hx hb dX12_appeal_21 (by decide) ?_
      exact z_iret hx hb hr hK hS (Nat.le_of_ble_eq_true rfl) (Nat.le_of_ble_eq_true rfl) hlocks dX12_appeal_22 (shM, ad, I, J, PM ad) hW ⟨I, J, rfl, ⟨(by show 0 ≤ (I 0 0).toInt ∧ (I 0 0).toInt ≤ 719; exact hma.1), (by show 0 ≤ (I 0 1).toInt ∧ (I 0 1).toInt ≤ 30; exact hma.2.1), (by show 0 ≤ (I 0 2).toInt ∧ (I 0 2).toInt ≤ 200; exact hma.2.2)⟩, ⟨(by show 0 ≤ (I 0 13).toInt ∧ (I 0 13).toInt ≤ 12; exact hmb.1), (by show 0 ≤ (I 0 14).toInt ∧ (I 0 14).toInt ≤ 288; exact hmb.2)⟩, (by show 0 ≤ (I 0 83).toInt ∧ (I 0 83).toInt ≤ 60; exact hmj), hAtf, hAtm, hAjw, hNd, hAsf, hAst, hAsc, hEx, z_fr_0, (Or.inr ⟨by omega, by decide, (fun j => ⟨rfl, rfl, rfl, rfl, rfl, rfl, rfl, rfl, rfl⟩)⟩)⟩
    · have g9 := z_f_nge rfl rfl c7
      refine lv_iload_n hx hb dX12_appeal_12 rfl (lv_at hl 2 rfl) ?_
      refine lv_iconst (v := 0) hx hb dX12_appeal_13 (by decide) ?_
      refine lv_iconst (v := 4) hx hb dX12_appeal_14 (by decide) ?_
      refine z_ci hW hS hA (va_runS (As := [.int a2, .int 0, .int 4]) (rest := []) ⟨hx, hb, hml, hown, hts⟩ (sx_X12_within_e l G ad I J  a2 0 4 _) (va_cwS 3 hts gX12_appeal_X12_within rfl rfl rfl (by decide +kernel) ⟨Nat.le_of_ble_eq_true rfl, Nat.le_of_ble_eq_true rfl⟩) (z_preS hK hW) rfl rfl hl.1 rfl (lv_room (Nat.le_of_ble_eq_true rfl)) dX12_appeal_15 ⟨Nat.le_of_ble_eq_true rfl, Nat.le_of_ble_eq_true rfl⟩) (fun r u1 H locs hp hW hS => ?_)
      obtain ⟨e9, hp⟩ := hp
      rw [e9] at hW
      rcases hp with ⟨rfl, h11⟩ | ⟨rfl, h11⟩
      · have h12 := h11
        have z13 := z_l0
        have z14 := z_l4
        refine lv_if_ne (tgt := 23) hx hb dX12_appeal_18 (by decide) (fun c15 => ?_) (fun c15 => absurd c15 (by decide))
        obtain ⟨bb1, bb2, bb3, bb4, bb5⟩ := hb9 (by omega)
        refine lv_aload_n hx hb dX12_appeal_23 rfl (lv_at hl 0 rfl) ?_
        refine z_get (T := TX12) (N := 96) (ci := 12) (i := 0) (v := .ref (ad 62)) hx hb hts zj_X12_appeal_X12 hown hK hW rfl rfl 87 (by decide) (hts (.fieldLink RX12 202 "PetrolBoardModel" "jReason" "[I") (me_s (me_l (me_l (List.mem_of_getElem? (i := 1) rfl))))) (fun _ h => h) rfl dX12_appeal_24 ?_
        refine lv_iload_n hx hb dX12_appeal_27 rfl (lv_at hl 1 rfl) ?_
        refine lv_iload_n hx hb dX12_appeal_28 rfl (lv_at hl 2 rfl) ?_
        refine z_iast (i := 62) hx hb hK hW hS rfl (z_ix rfl (by omega) (by omega)) dX12_appeal_29 (fun H locs hz1 hW hS => ?_)
        obtain ⟨I16, eI16⟩ : ∃ K : z_I, K = z_up I 62 a1.toNatClampNeg a2 := ⟨_, rfl⟩
        rw [← eI16] at hW
        have f17 := z_fr_a z_fr_0 (show z_wa L_X12_appeal_g 62 = true by decide) eI16
        have a18 := z_rg_n hAtf (by decide) eI16
        have a19 := z_rg_n hAtm (by decide) eI16
        have a20 := z_rg_n hAjw (by decide) eI16
        have a21 := z_Nd_n hNd (by decide) eI16
        have a22 := z_rg_n hAsf (by decide) eI16
        have a23 := z_rg_n hAst (by decide) eI16
        have a24 := z_rg_n hAsc (by decide) eI16
        have a25 := z_Ex_n hEx (by decide) eI16
        refine lv_aload_n hx hb dX12_appeal_30 rfl (lv_at hl 0 rfl) ?_
        refine z_get (T := TX12) (N := 96) (ci := 12) (i := 0) (v := .ref (ad 66)) hx hb hts zj_X12_appeal_X12 hown hK hW rfl rfl 91 (by decide) (hts (.fieldLink RX12 214 "PetrolBoardModel" "jGranted" "[I") (me_s (me_l (me_l (List.mem_of_getElem? (i := 2) rfl))))) (fun _ h => h) rfl dX12_appeal_31 ?_
        refine lv_iload_n hx hb dX12_appeal_34 rfl (lv_at hl 1 rfl) ?_
        refine lv_aload_n hx hb dX12_appeal_35 rfl (lv_at hl 0 rfl) ?_
        refine lv_iload_n hx hb dX12_appeal_36 rfl (lv_at hl 1 rfl) ?_
        refine z_ci hW hS hA (va_runV (As := [.int a1]) (rest := [.int a1, .ref (ad 66)]) ⟨hx, hb, hml, hown, hts⟩ (sx_X12_granted_g l G ad I16 J ⟨(by show 0 ≤ (I16 0 0).toInt ∧ (I16 0 0).toInt ≤ 719; rw [eI16, z_up_n (by decide)]; exact hma.1), (by show 0 ≤ (I16 0 1).toInt ∧ (I16 0 1).toInt ≤ 30; rw [eI16, z_up_n (by decide)]; exact hma.2.1), (by show 0 ≤ (I16 0 2).toInt ∧ (I16 0 2).toInt ≤ 200; rw [eI16, z_up_n (by decide)]; exact hma.2.2)⟩ ⟨(by show 0 ≤ (I16 0 13).toInt ∧ (I16 0 13).toInt ≤ 12; rw [eI16, z_up_n (by decide)]; exact hmb.1), (by show 0 ≤ (I16 0 14).toInt ∧ (I16 0 14).toInt ≤ 288; rw [eI16, z_up_n (by decide)]; exact hmb.2)⟩ (by show 0 ≤ (I16 0 83).toInt ∧ (I16 0 83).toInt ≤ 60; rw [eI16, z_up_n (by decide)]; exact hmj) a18 a19 a20 a21 a22 a23 a24 a25 FF RS a1 (by omega) ⟨by rw [eI16, z_up_n (by decide), z_up_n (by decide)]; exact bb1, by rw [eI16, z_up_n (by decide)]; exact bb2, by rw [eI16, z_up_n (by decide)]; exact bb3, by rw [eI16, z_up_n (by decide)]; exact bb4, by rw [eI16, z_up_s]; omega⟩ (zw_W_c hWm (f17 0 13 (by decide)) (fun t F R h => zw_T_c h (fun j => ⟨f17 11 j (z_wr_c (by decide)), f17 12 j (z_wr_c (by decide))⟩) (fun j => ⟨f17 15 j (z_wr_c (by decide)), f17 16 j (z_wr_c (by decide)), f17 17 j (z_wr_c (by decide)), f17 18 j (z_wr_c (by decide)), f17 19 j (z_wr_c (by decide)), f17 20 j (z_wr_c (by decide))⟩) (fun j => ⟨f17 21 j (z_wr_c (by decide)), f17 22 j (z_wr_c (by decide)), f17 23 j (z_wr_c (by decide))⟩)) (fun j => ⟨f17 6 j (z_wr_c (by decide)), f17 7 j (z_wr_c (by decide)), f17 8 j (z_wr_c (by decide)), f17 9 j (z_wr_c (by decide)), f17 10 j (z_wr_c (by decide))⟩) (f17 0 2 (by decide)) (f17 0 1 (by decide)) (fun j => ⟨f17 1 j (z_wr_c (by decide)), f17 2 j (z_wr_c (by decide))⟩)) _) (cwV 1 hts gX12_appeal_X12_granted rfl rfl rfl (by decide +kernel) ⟨Nat.le_of_ble_eq_true rfl, Nat.le_of_ble_eq_true rfl⟩) (z_preV (i := 0) hK hW rfl rfl) rfl rfl hl.1 rfl (lv_room (Nat.le_of_ble_eq_true rfl)) dX12_appeal_37 ⟨Nat.le_of_ble_eq_true rfl, Nat.le_of_ble_eq_true rfl⟩) (fun r u1 H locs hp hW hS => ?_)
        obtain ⟨I26, J28, e9, hI26ma, hI26mb, hI26mj, hI26Atf, hI26Atm, hI26Ajw, hI26Nd, hI26Asf, hI26Ast, hI26Asc, hI26Ex, fI26, hp⟩ := hp
        rw [e9] at hW
        have f27 := z_fr_sub (L := L_X12_appeal_g) f17 fI26 (by decide)
        have k29 : (I26 0 83).toInt = (I 0 83).toInt := by rw [fI26 0 83 (by decide), eI16, z_up_n (by decide)]
        refine lv_topi (fun x30 ex30 => ?_)
        rw [← ex30] at hp
        have hG31 := hp
        refine z_iast (i := 66) hx hb hK hW hS rfl (z_ix rfl (by omega) (by omega)) dX12_appeal_40 (fun H locs hz1 hW hS => ?_)
        obtain ⟨I32, eI32⟩ : ∃ K : z_I, K = z_up I26 66 a1.toNatClampNeg x30 := ⟨_, rfl⟩
        rw [← eI32] at hW
        have f33 := z_fr_a f27 (show z_wa L_X12_appeal_g 66 = true by decide) eI32
        have a34 := z_rg_n hI26Atf (by decide) eI32
        have a35 := z_rg_n hI26Atm (by decide) eI32
        have a36 := z_rg_n hI26Ajw (by decide) eI32
        have a37 := z_Nd_n hI26Nd (by decide) eI32
        have a38 := z_rg_n hI26Asf (by decide) eI32
        have a39 := z_rg_n hI26Ast (by decide) eI32
        have a40 := z_rg_n hI26Asc (by decide) eI32
        have a41 := z_Ex_n hI26Ex (by decide) eI32
        refine lv_aload_n hx hb dX12_appeal_41 rfl (lv_at hl 0 rfl) ?_
        refine z_get (T := TX12) (N := 96) (ci := 12) (i := 0) (v := .ref (ad 66)) hx hb hts zj_X12_appeal_X12 hown hK hW rfl rfl 91 (by decide) (hts (.fieldLink RX12 214 "PetrolBoardModel" "jGranted" "[I") (me_s (me_l (me_l (List.mem_of_getElem? (i := 2) rfl))))) (fun _ h => h) rfl dX12_appeal_42 ?_
        refine lv_iload_n hx hb dX12_appeal_45 rfl (lv_at hl 1 rfl) ?_
        refine z_iald (i := 66) hx hb hK hW rfl (z_ix rfl (by omega) (by omega)) dX12_appeal_46 ?_
        refine lv_topi (fun x42 ex42 => ?_)
        exact z_iret hx hb hr hK hS (Nat.le_of_ble_eq_true rfl) (Nat.le_of_ble_eq_true rfl) hlocks dX12_appeal_47 (shM, ad, I32, J28, PM ad) hW ⟨I32, J28, rfl, ⟨(by show 0 ≤ (I32 0 0).toInt ∧ (I32 0 0).toInt ≤ 719; rw [eI32, z_up_n (by decide)]; exact hI26ma.1), (by show 0 ≤ (I32 0 1).toInt ∧ (I32 0 1).toInt ≤ 30; rw [eI32, z_up_n (by decide)]; exact hI26ma.2.1), (by show 0 ≤ (I32 0 2).toInt ∧ (I32 0 2).toInt ≤ 200; rw [eI32, z_up_n (by decide)]; exact hI26ma.2.2)⟩, ⟨(by show 0 ≤ (I32 0 13).toInt ∧ (I32 0 13).toInt ≤ 12; rw [eI32, z_up_n (by decide)]; exact hI26mb.1), (by show 0 ≤ (I32 0 14).toInt ∧ (I32 0 14).toInt ≤ 288; rw [eI32, z_up_n (by decide)]; exact hI26mb.2)⟩, (by show 0 ≤ (I32 0 83).toInt ∧ (I32 0 83).toInt ≤ 60; rw [eI32, z_up_n (by decide)]; exact hI26mj), a34, a35, a36, a37, a38, a39, a40, a41, f33, (Or.inl ⟨by omega, (by rw [(show x42 = x30 by rw [ex42, eI32, z_up_s])]; exact (by have q9 := hG31; rw [show I16 59 a1.toNatClampNeg = I 59 a1.toNatClampNeg by rw [eI16, z_up_n (by decide)], show I16 63 a1.toNatClampNeg = I 63 a1.toNatClampNeg by rw [eI16, z_up_n (by decide)], show I16 65 a1.toNatClampNeg = I 65 a1.toNatClampNeg by rw [eI16, z_up_n (by decide)], show I16 60 a1.toNatClampNeg = I 60 a1.toNatClampNeg by rw [eI16, z_up_n (by decide)], show I16 61 a1.toNatClampNeg = I 61 a1.toNatClampNeg by rw [eI16, z_up_n (by decide)], show I16 62 a1.toNatClampNeg = a2 by rw [eI16, z_up_s]] at q9; exact zn_M_c (f17 0 13 (by decide)) (fun j => ⟨f17 13 j (z_wr_c (by decide)), f17 14 j (z_wr_c (by decide))⟩) (fun j => ⟨f17 6 j (z_wr_c (by decide)), f17 7 j (z_wr_c (by decide)), f17 8 j (z_wr_c (by decide)), f17 9 j (z_wr_c (by decide)), f17 10 j (z_wr_c (by decide))⟩) (f17 0 2 (by decide)) (fun j => ⟨f17 1 j (z_wr_c (by decide)), f17 2 j (z_wr_c (by decide))⟩) q9)), (fun j => by rw [eI32, z_up_n (by decide), fI26 59 j (z_wr_c (by decide)), eI16, z_up_n (by decide)]), (fun j => by rw [eI32, z_up_n (by decide), fI26 60 j (z_wr_c (by decide)), eI16, z_up_n (by decide)]), (fun j => by rw [eI32, z_up_n (by decide), fI26 61 j (z_wr_c (by decide)), eI16, z_up_n (by decide)]), (fun j => by rw [eI32, z_up_n (by decide), fI26 62 j (z_wr_c (by decide)), eI16, z_up_j]), (fun j => by rw [eI32, z_up_n (by decide), fI26 63 j (z_wr_c (by decide)), eI16, z_up_n (by decide)]), (fun j => by rw [eI32, z_up_n (by decide), fI26 64 j (z_wr_c (by decide)), eI16, z_up_n (by decide)]), (fun j => by rw [eI32, z_up_n (by decide), fI26 65 j (z_wr_c (by decide)), eI16, z_up_n (by decide)]), (fun j => by rw [eI32, z_up_j, fI26 66 j (z_wr_c (by decide)), eI16, z_up_n (by decide), (show x42 = x30 by rw [ex42, eI32, z_up_s])]), (fun j => by rw [eI32, z_up_n (by decide), fI26 67 j (z_wr_c (by decide)), eI16, z_up_n (by decide)])⟩)⟩
      · have h43 := h11
        have z44 := z_l0
        have z45 := z_l4
        refine lv_if_ne (tgt := 23) hx hb dX12_appeal_18 (by decide) (fun c46 => absurd (by decide) c46) (fun c46 => ?_)
        refine lv_iconst (v := (-1)) hx hb dX12_appeal_21 (by decide) ?_
        exact z_iret hx hb hr hK hS (Nat.le_of_ble_eq_true rfl) (Nat.le_of_ble_eq_true rfl) hlocks dX12_appeal_22 (shM, ad, I, J, PM ad) hW ⟨I, J, rfl, ⟨(by show 0 ≤ (I 0 0).toInt ∧ (I 0 0).toInt ≤ 719; exact hma.1), (by show 0 ≤ (I 0 1).toInt ∧ (I 0 1).toInt ≤ 30; exact hma.2.1), (by show 0 ≤ (I 0 2).toInt ∧ (I 0 2).toInt ≤ 200; exact hma.2.2)⟩, ⟨(by show 0 ≤ (I 0 13).toInt ∧ (I 0 13).toInt ≤ 12; exact hmb.1), (by show 0 ≤ (I 0 14).toInt ∧ (I 0 14).toInt ≤ 288; exact hmb.2)⟩, (by show 0 ≤ (I 0 83).toInt ∧ (I 0 83).toInt ≤ 60; exact hmj), hAtf, hAtm, hAjw, hNd, hAsf, hAst, hAsc, hEx, z_fr_0, (Or.inr ⟨by omega, by decide, (fun j => ⟨rfl, rfl, rfl, rfl, rfl, rfl, rfl, rfl, rfl⟩)⟩)⟩
noncomputable def L_X12_ask_g : z_L := [(59, 999), (60, 999), (61, 999), (62, 999), (63, 999), (64, 999), (65, 999), (66, 999), (67, 999), (0, 83), (24, 999), (30, 999)]
set_option maxHeartbeats 8000000 in
set_option maxRecDepth 100000 in
theorem sx_X12_ask_g (l : Launch) (G : z_G) (ad : Nat → Nat) (I : z_I) (J : z_J) (hma : z_ima I) (hmb : z_imb I) (hmj : z_imj I) (hAtf : z_rg 11 0 288 I) (hAtm : z_rg 12 0 24 I) (hAjw : z_rg 59 0 29 I) (hNd : z_Nd I) (hAsf : z_rg 19 0 6200 I) (hAst : z_rg 20 0 6200 I) (hAsc : z_rg 18 (-1) 6199 I) (hEx : z_Ex I) (FF : Nat → Nat) (RS : Nat → List zm_row) (a1 : Int32) (a2 : Int32) (a3 : Int32) (a4 : Int32) (a5 : Int32) (a6 : Int32) (hWm : zw_W I FF RS) : z_M l yX12_ask wsX12_ask { frames := 6, cells := 0, slots := 0, locals := 130 } [.ref (ad 0), .int a1, .int a2, .int a3, .int a4, .int a5, .int a6] G (shM, ad, I, J, PM ad) (fun r u1 => ∃ (I1 : z_I) (J1 : z_J), u1 = (shM, ad, I1, J1, PM ad) ∧ z_ima I1 ∧ z_imb I1 ∧ z_imj I1 ∧ z_rg 11 0 288 I1 ∧ z_rg 12 0 24 I1 ∧ z_rg 59 0 29 I1 ∧ z_Nd I1 ∧ z_rg 19 0 6200 I1 ∧ z_rg 20 0 6200 I1 ∧ z_rg 18 (-1) 6199 I1 ∧ z_Ex I1 ∧ z_fr L_X12_ask_g I1 I ∧ (((0 ≤ a1.toInt ∧ a1.toInt < (I 0 1).toInt ∧ 1 ≤ a2.toInt ∧ a2.toInt ≤ 500 ∧ 1 ≤ a3.toInt ∧ a3.toInt ≤ 8 ∧ 0 ≤ a4.toInt ∧ a4.toInt ≤ 4 ∧ (I 0 0).toInt ≤ a5.toInt ∧ a5.toInt ≤ 719 ∧ 0 ≤ a6.toInt ∧ a6.toInt ≤ 99 ∧ a6.toInt / 10 ≠ a6.toInt % 10 ∧ (I 0 83).toInt < 60) ∧ r.toInt = (I 0 83).toInt ∧ (I1 0 83).toInt = (I 0 83).toInt + 1 ∧ ∃ gr : Int32, zn_M I RS a1 a5 (I 0 0) a2 a3 a4 gr.toInt ∧ zn_rM I1 I (I 0 83).toNatClampNeg a1 a2 a3 a4 a5 a6 (I 0 0) gr gr) ∨ (¬ (0 ≤ a1.toInt ∧ a1.toInt < (I 0 1).toInt ∧ 1 ≤ a2.toInt ∧ a2.toInt ≤ 500 ∧ 1 ≤ a3.toInt ∧ a3.toInt ≤ 8 ∧ 0 ≤ a4.toInt ∧ a4.toInt ≤ 4 ∧ (I 0 0).toInt ≤ a5.toInt ∧ a5.toInt ≤ 719 ∧ 0 ≤ a6.toInt ∧ a6.toInt ≤ 99 ∧ a6.toInt / 10 ≠ a6.toInt % 10 ∧ (I 0 83).toInt < 60) ∧ r.toInt = -1 ∧ (I1 0 83).toInt = (I 0 83).toInt ∧ zn_sM I1 I))) 0 0 := sorry
set_option maxHeartbeats 8000000 in
set_option maxRecDepth 100000 in
theorem sx_X3_isLike_g (l : Launch) (G : z_G) (ad : Nat → Nat) (c : z_C) (I : z_I) (hJ : z_iJ I) (hH : z_iH I) (a2 : Int32) (a3 : Int32) (a4 : Int32) (q2 : 0 ≤ a2.toInt ∧ a2.toInt < (I 60 9).toInt) (q3 : 0 ≤ a3.toInt ∧ a3.toInt < (I 60 9).toInt) (hM : ∀ j : Nat, (j : Int) < (I 60 9).toInt → 0 ≤ (I 62 j).toInt ∧ (I 62 j).toInt ≤ 500) : z_M l yX3_isLike wsX3_isLike { frames := 2, cells := 0, slots := 0, locals := 40 } [.ref (ad 60), .ref (ad 1), .int a2, .int a3, .int a4] G (shC c, ad, I, JX, PC c ad) (fun r u1 => u1 = (shC c, ad, I, JX, PC c ad) ∧ ((r = 1 ∧ zn_lx I a4.toInt a2.toNatClampNeg a3.toNatClampNeg) ∨ (r = 0 ∧ ¬ zn_lx I a4.toInt a2.toNatClampNeg a3.toNatClampNeg))) 0 0 := by
  intro sz
  refine z_headQ (cc := cX3_isLike) (maxL := 5) (ret := (some .boolean)) (by decide) rfl (Nat.le_of_ble_eq_true rfl) ?_
  intro p e s m below meth c0 ls hIn hK hsz hW hl
  obtain ⟨hx, hb, hr, hml, hown, hts, hlocks, hname⟩ := hIn
  subst hsz
  have hown : s.vm.findClass RX3 = some m.cls := hown
  have hA : ∀ q : Nat, s.heap.size ≤ q → z_A (shC c, ad, I, JX, PC c ad) s.heap.size q := fun q h => Or.inr h
  generalize hAe : z_A (shC c, ad, I, JX, PC c ad) s.heap.size = A at *
  have hS : va_S A s.heap s.heap [] := va_S.rf
  have hl : lv_has ls 5 [(0, .ref (ad 60)), (1, .ref (ad 1)), (2, .int a2), (3, .int a3), (4, .int a4)] := hl
  refine lv_aload_n hx hb dX3_isLike_0 rfl (lv_at hl 0 rfl) ?_
  have o9 := z_clt (x := a2) rfl (by omega)
  have j9 := z_clt (x := a3) rfl (by omega)
  have m9 := hM a2.toNatClampNeg (by omega)
  have m8 := hM a3.toNatClampNeg (by omega)
  refine lv_iload_n hx hb dX3_isLike_1 rfl (lv_at hl 2 rfl) ?_
  refine z_ci hW hS hA (va_runV (As := [.int a2]) (rest := []) ⟨hx, hb, hml, hown, hts⟩ (sx_X3_has_g l G ad c I ⟨(by show 0 ≤ (I 60 9).toInt ∧ (I 60 9).toInt ≤ 60; exact hJ.1), (by show 0 ≤ (I 60 12).toInt ∧ (I 60 12).toInt ≤ 12; exact hJ.2)⟩ a2 _) (cwV 1 hts gX3_isLike_X3_has rfl rfl rfl (by decide +kernel) ⟨Nat.le_of_ble_eq_true rfl, Nat.le_of_ble_eq_true rfl⟩) (z_preV (i := 60) hK hW rfl rfl) rfl rfl hl.1 rfl (lv_room (Nat.le_of_ble_eq_true rfl)) dX3_isLike_2 ⟨Nat.le_of_ble_eq_true rfl, Nat.le_of_ble_eq_true rfl⟩) (fun r u1 H locs hp hW hS => ?_)
  obtain ⟨e9, hp⟩ := hp
  rw [e9] at hW
  rcases hp with ⟨rfl, h1⟩ | ⟨rfl, h1⟩
  · have h2 := h1
    have r3 : 0 ≤ (I 60 9).toInt ∧ (I 60 9).toInt ≤ 60 := hJ.1
    refine lv_if_eq (tgt := 36) hx hb dX3_isLike_5 (by decide) (fun c4 => absurd c4 (by decide)) (fun c4 => ?_)
    refine lv_aload_n hx hb dX3_isLike_8 rfl (lv_at hl 0 rfl) ?_
    refine lv_iload_n hx hb dX3_isLike_9 rfl (lv_at hl 3 rfl) ?_
    refine z_ci hW hS hA (va_runV (As := [.int a3]) (rest := []) ⟨hx, hb, hml, hown, hts⟩ (sx_X3_has_g l G ad c I ⟨(by show 0 ≤ (I 60 9).toInt ∧ (I 60 9).toInt ≤ 60; exact hJ.1), (by show 0 ≤ (I 60 12).toInt ∧ (I 60 12).toInt ≤ 12; exact hJ.2)⟩ a3 _) (cwV 1 hts gX3_isLike_X3_has rfl rfl rfl (by decide +kernel) ⟨Nat.le_of_ble_eq_true rfl, Nat.le_of_ble_eq_true rfl⟩) (z_preV (i := 60) hK hW rfl rfl) rfl rfl hl.1 rfl (lv_room (Nat.le_of_ble_eq_true rfl)) dX3_isLike_10 ⟨Nat.le_of_ble_eq_true rfl, Nat.le_of_ble_eq_true rfl⟩) (fun r u1 H locs hp hW hS => ?_)
    obtain ⟨e9, hp⟩ := hp
    rw [e9] at hW
    rcases hp with ⟨rfl, h5⟩ | ⟨rfl, h5⟩
    · have h6 := h5
      refine lv_if_eq (tgt := 36) hx hb dX3_isLike_13 (by decide) (fun c7 => absurd c7 (by decide)) (fun c7 => ?_)
      refine lv_iload_n hx hb dX3_isLike_16 rfl (lv_at hl 2 rfl) ?_
      refine lv_iload_n hx hb dX3_isLike_17 rfl (lv_at hl 3 rfl) ?_
      refine lv_icmp_eq (tgt := 36) hx hb dX3_isLike_18 (by decide) (fun c8 => ?_) (fun c8 => ?_)
      · have g9 := z_f_eq rfl rfl c8
        refine lv_iconst (v := 0) hx hb dX3_isLike_36 (by decide) ?_
        exact z_zret hx hb hr (by decide) hK hS (Nat.le_of_ble_eq_true rfl) (Nat.le_of_ble_eq_true rfl) hlocks dX3_isLike_37 (shC c, ad, I, JX, PC c ad) hW ⟨rfl, (Or.inr ⟨rfl, fun ⟨p1, p2, p3, p4, p5, p6⟩ => by omega⟩)⟩
      · have g10 := z_f_ne rfl rfl c8
        refine lv_aload_n hx hb dX3_isLike_21 rfl (lv_at hl 0 rfl) ?_
        refine z_get (T := TX3) (N := 17) (ci := 3) (i := 60) (v := .ref (ad 68)) hx hb hts zj_X3_isLike_X3 hown hK hW rfl rfl 7 (by decide) (hts (.fieldLink RX3 33 "PetrolBoard$Journeys" "granted" "[I") (me_s (me_l (me_l (me_l (List.mem_of_getElem? (i := 0) rfl)))))) (fun _ h => h) rfl dX3_isLike_22 ?_
        refine lv_iload_n hx hb dX3_isLike_25 rfl (lv_at hl 2 rfl) ?_
        refine z_iald (i := 68) hx hb hK hW rfl (z_ix rfl (by omega) (by omega)) dX3_isLike_26 ?_
        refine lv_topi (fun x11 ex11 => ?_)
        have hr12 : (I 68 a2.toNatClampNeg) = x11 := ex11.symm
        have hv13 : (I 68 a2.toNatClampNeg).toInt = x11.toInt := congrArg Int32.toInt hr12
        refine lv_aload_n hx hb dX3_isLike_27 rfl (lv_at hl 0 rfl) ?_
        refine z_get (T := TX3) (N := 17) (ci := 3) (i := 60) (v := .ref (ad 68)) hx hb hts zj_X3_isLike_X3 hown hK hW rfl rfl 7 (by decide) (hts (.fieldLink RX3 33 "PetrolBoard$Journeys" "granted" "[I") (me_s (me_l (me_l (me_l (List.mem_of_getElem? (i := 0) rfl)))))) (fun _ h => h) rfl dX3_isLike_28 ?_
        refine lv_iload_n hx hb dX3_isLike_31 rfl (lv_at hl 3 rfl) ?_
        refine z_iald (i := 68) hx hb hK hW rfl (z_ix rfl (by omega) (by omega)) dX3_isLike_32 ?_
        refine lv_topi (fun x14 ex14 => ?_)
        have hr15 : (I 68 a3.toNatClampNeg) = x14 := ex14.symm
        have hv16 : (I 68 a3.toNatClampNeg).toInt = x14.toInt := congrArg Int32.toInt hr15
        refine lv_icmp_ne (tgt := 38) hx hb dX3_isLike_33 (by decide) (fun c17 => ?_) (fun c17 => ?_)
        · have g18 := z_f_ne rfl rfl c17
          have b19 := Int32.toInt_lt x11
          have b20 := Int32.toInt_lt x14
          refine lv_aload_n hx hb dX3_isLike_38 rfl (lv_at hl 0 rfl) ?_
          refine z_get (T := TX3) (N := 17) (ci := 3) (i := 60) (v := .ref (ad 64)) hx hb hts zj_X3_isLike_X3 hown hK hW rfl rfl 3 (by decide) (hts (.fieldLink RX3 21 "PetrolBoard$Journeys" "reason" "[I") (me_s (me_l (me_l (me_l (List.mem_of_getElem? (i := 1) rfl)))))) (fun _ h => h) rfl dX3_isLike_39 ?_
          refine lv_iload_n hx hb dX3_isLike_42 rfl (lv_at hl 2 rfl) ?_
          refine z_iald (i := 64) hx hb hK hW rfl (z_ix rfl (by omega) (by omega)) dX3_isLike_43 ?_
          refine lv_topi (fun x21 ex21 => ?_)
          have hr22 : (I 64 a2.toNatClampNeg) = x21 := ex21.symm
          have hv23 : (I 64 a2.toNatClampNeg).toInt = x21.toInt := congrArg Int32.toInt hr22
          refine lv_aload_n hx hb dX3_isLike_44 rfl (lv_at hl 0 rfl) ?_
          refine z_get (T := TX3) (N := 17) (ci := 3) (i := 60) (v := .ref (ad 64)) hx hb hts zj_X3_isLike_X3 hown hK hW rfl rfl 3 (by decide) (hts (.fieldLink RX3 21 "PetrolBoard$Journeys" "reason" "[I") (me_s (me_l (me_l (me_l (List.mem_of_getElem? (i := 1) rfl)))))) (fun _ h => h) rfl dX3_isLike_45 ?_
          refine lv_iload_n hx hb dX3_isLike_48 rfl (lv_at hl 3 rfl) ?_
          refine z_iald (i := 64) hx hb hK hW rfl (z_ix rfl (by omega) (by omega)) dX3_isLike_49 ?_
          refine lv_topi (fun x24 ex24 => ?_)
          have hr25 : (I 64 a3.toNatClampNeg) = x24 := ex24.symm
          have hv26 : (I 64 a3.toNatClampNeg).toInt = x24.toInt := congrArg Int32.toInt hr25
          refine lv_icmp_ne (tgt := 68) hx hb dX3_isLike_50 (by decide) (fun c27 => ?_) (fun c27 => ?_)
          · have g28 := z_f_ne rfl rfl c27
            have b29 := Int32.toInt_lt x21
            have b30 := Int32.toInt_lt x24
            refine lv_iconst (v := 0) hx hb dX3_isLike_68 (by decide) ?_
            exact z_zret hx hb hr (by decide) hK hS (Nat.le_of_ble_eq_true rfl) (Nat.le_of_ble_eq_true rfl) hlocks dX3_isLike_69 (shC c, ad, I, JX, PC c ad) hW ⟨rfl, (Or.inr ⟨rfl, fun ⟨p1, p2, p3, p4, p5, p6⟩ => by omega⟩)⟩
          · have g31 := z_f_eq rfl rfl c27
            have b32 := Int32.toInt_lt x21
            have b33 := Int32.toInt_lt x24
            refine lv_aload_n hx hb dX3_isLike_53 rfl (lv_at hl 0 rfl) ?_
            refine z_get (T := TX3) (N := 17) (ci := 3) (i := 60) (v := .ref (ad 63)) hx hb hts zj_X3_isLike_X3 hown hK hW rfl rfl 2 (by decide) (hts (.fieldLink RX3 18 "PetrolBoard$Journeys" "people" "[I") (me_s (me_l (me_l (me_l (List.mem_of_getElem? (i := 2) rfl)))))) (fun _ h => h) rfl dX3_isLike_54 ?_
            refine lv_iload_n hx hb dX3_isLike_57 rfl (lv_at hl 2 rfl) ?_
            refine z_iald (i := 63) hx hb hK hW rfl (z_ix rfl (by omega) (by omega)) dX3_isLike_58 ?_
            refine lv_topi (fun x34 ex34 => ?_)
            have hr35 : (I 63 a2.toNatClampNeg) = x34 := ex34.symm
            have hv36 : (I 63 a2.toNatClampNeg).toInt = x34.toInt := congrArg Int32.toInt hr35
            refine lv_aload_n hx hb dX3_isLike_59 rfl (lv_at hl 0 rfl) ?_
            refine z_get (T := TX3) (N := 17) (ci := 3) (i := 60) (v := .ref (ad 63)) hx hb hts zj_X3_isLike_X3 hown hK hW rfl rfl 2 (by decide) (hts (.fieldLink RX3 18 "PetrolBoard$Journeys" "people" "[I") (me_s (me_l (me_l (me_l (List.mem_of_getElem? (i := 2) rfl)))))) (fun _ h => h) rfl dX3_isLike_60 ?_
            refine lv_iload_n hx hb dX3_isLike_63 rfl (lv_at hl 3 rfl) ?_
            refine z_iald (i := 63) hx hb hK hW rfl (z_ix rfl (by omega) (by omega)) dX3_isLike_64 ?_
            refine lv_topi (fun x37 ex37 => ?_)
            have hr38 : (I 63 a3.toNatClampNeg) = x37 := ex37.symm
            have hv39 : (I 63 a3.toNatClampNeg).toInt = x37.toInt := congrArg Int32.toInt hr38
            refine lv_icmp_eq (tgt := 70) hx hb dX3_isLike_65 (by decide) (fun c40 => ?_) (fun c40 => ?_)
            · have g41 := z_f_eq rfl rfl c40
              have b42 := Int32.toInt_lt x34
              have b43 := Int32.toInt_lt x37
              refine lv_aload_n hx hb dX3_isLike_70 rfl (lv_at hl 0 rfl) ?_
              refine z_get (T := TX3) (N := 17) (ci := 3) (i := 60) (v := .ref (ad 62)) hx hb hts zj_X3_isLike_X3 hown hK hW rfl rfl 1 (by decide) (hts (.fieldLink RX3 15 "PetrolBoard$Journeys" "miles" "[I") (me_s (me_l (me_l (me_l (List.mem_of_getElem? (i := 3) rfl)))))) (fun _ h => h) rfl dX3_isLike_71 ?_
              refine lv_iload_n hx hb dX3_isLike_74 rfl (lv_at hl 2 rfl) ?_
              refine z_iald (i := 62) hx hb hK hW rfl (z_ix rfl (by omega) (by omega)) dX3_isLike_75 ?_
              refine lv_topi (fun x44 ex44 => ?_)
              have hr45 : (I 62 a2.toNatClampNeg) = x44 := ex44.symm
              have hv46 : (I 62 a2.toNatClampNeg).toInt = x44.toInt := congrArg Int32.toInt hr45
              refine lv_aload_n hx hb dX3_isLike_76 rfl (lv_at hl 0 rfl) ?_
              refine z_get (T := TX3) (N := 17) (ci := 3) (i := 60) (v := .ref (ad 62)) hx hb hts zj_X3_isLike_X3 hown hK hW rfl rfl 1 (by decide) (hts (.fieldLink RX3 15 "PetrolBoard$Journeys" "miles" "[I") (me_s (me_l (me_l (me_l (List.mem_of_getElem? (i := 3) rfl)))))) (fun _ h => h) rfl dX3_isLike_77 ?_
              refine lv_iload_n hx hb dX3_isLike_80 rfl (lv_at hl 3 rfl) ?_
              refine z_iald (i := 62) hx hb hK hW rfl (z_ix rfl (by omega) (by omega)) dX3_isLike_81 ?_
              refine lv_topi (fun x47 ex47 => ?_)
              have hr48 : (I 62 a3.toNatClampNeg) = x47 := ex47.symm
              have hv49 : (I 62 a3.toNatClampNeg).toInt = x47.toInt := congrArg Int32.toInt hr48
              refine lv_isub hx hb dX3_isLike_82 ?_
              refine lv_topi (fun x50 ex50 => ?_)
              have tx50 : x50.toInt = x44.toInt - x47.toInt := z_tsub ex50 rfl rfl (by omega) (by omega)
              refine va_mabs (x := x50) hx hb (hml.trans hl.1.symm) hown (hts (.methodLink RX3 57 Lib.Math.abs.name) (me_s (me_l (me_l (me_l (List.mem_of_getElem? (i := 4) rfl)))))) (hts (.static Lib.Math.abs.name) (me_s (me_l (me_l (me_l (List.mem_of_getElem? (i := 5) rfl)))))) (hts (.initialized "java/lang/Math") (me_s (me_l (me_l (me_l (List.mem_of_getElem? (i := 6) rfl)))))) (hts (.code Lib.Math.abs.name Lib.Math.abs.code 1 (some .int)) (me_s (me_l (me_l (me_l (List.mem_of_getElem? (i := 7) rfl)))))) (Nat.le_of_ble_eq_true rfl) (Nat.le_of_ble_eq_true rfl) (Nat.le_of_ble_eq_true rfl) (Nat.le_of_ble_eq_true rfl) dX3_isLike_83 ?_
              refine lv_topi (fun x51 ex51 => ?_)
              have hab52 := zn_abs ex51 (show x50.toInt = _ from tx50) (by omega)
              refine lv_aload_n hx hb dX3_isLike_86 rfl (lv_at hl 0 rfl) ?_
              refine z_get (T := TX3) (N := 17) (ci := 3) (i := 60) (v := .ref (ad 62)) hx hb hts zj_X3_isLike_X3 hown hK hW rfl rfl 1 (by decide) (hts (.fieldLink RX3 15 "PetrolBoard$Journeys" "miles" "[I") (me_s (me_l (me_l (me_l (List.mem_of_getElem? (i := 3) rfl)))))) (fun _ h => h) rfl dX3_isLike_87 ?_
              refine lv_iload_n hx hb dX3_isLike_90 rfl (lv_at hl 2 rfl) ?_
              refine z_iald (i := 62) hx hb hK hW rfl (z_ix rfl (by omega) (by omega)) dX3_isLike_91 ?_
              refine z_topi (v := x44) ex44.symm ?_
              refine lv_bipush (v := 10) hx hb dX3_isLike_92 (by decide) ?_
              refine lv_idiv hx hb dX3_isLike_94 (by decide) ?_
              refine lv_topi (fun x53 ex53 => ?_)
              have tx53 := z_tdiv ex53 rfl z_l10 (by decide)
              refine lv_icmp_le (tgt := 100) hx hb dX3_isLike_95 (by decide) (fun c54 => ?_) (fun c54 => ?_)
              · have g55 := z_f_le rfl rfl c54
                have b56 := Int32.toInt_lt x51
                refine lv_aload_n hx hb dX3_isLike_100 rfl (lv_at hl 1 rfl) ?_
                refine lv_aload_n hx hb dX3_isLike_101 rfl (lv_at hl 0 rfl) ?_
                refine z_get (T := TX3) (N := 17) (ci := 3) (i := 60) (v := .ref (ad 61)) hx hb hts zj_X3_isLike_X3 hown hK hW rfl rfl 0 (by decide) (hts (.fieldLink RX3 9 "PetrolBoard$Journeys" "holder" "[I") (me_s (me_l (me_l (me_l (List.mem_of_getElem? (i := 8) rfl)))))) (fun _ h => h) rfl dX3_isLike_102 ?_
                refine lv_iload_n hx hb dX3_isLike_105 rfl (lv_at hl 2 rfl) ?_
                refine z_iald (i := 61) hx hb hK hW rfl (z_ix rfl (by omega) (by omega)) dX3_isLike_106 ?_
                refine lv_topi (fun x57 ex57 => ?_)
                have hr58 : (I 61 a2.toNatClampNeg) = x57 := ex57.symm
                have hv59 : (I 61 a2.toNatClampNeg).toInt = x57.toInt := congrArg Int32.toInt hr58
                refine lv_aload_n hx hb dX3_isLike_107 rfl (lv_at hl 0 rfl) ?_
                refine z_get (T := TX3) (N := 17) (ci := 3) (i := 60) (v := .ref (ad 65)) hx hb hts zj_X3_isLike_X3 hown hK hW rfl rfl 4 (by decide) (hts (.fieldLink RX3 24 "PetrolBoard$Journeys" "day" "[I") (me_s (me_l (me_l (me_l (List.mem_of_getElem? (i := 9) rfl)))))) (fun _ h => h) rfl dX3_isLike_108 ?_
                refine lv_iload_n hx hb dX3_isLike_111 rfl (lv_at hl 2 rfl) ?_
                refine z_iald (i := 65) hx hb hK hW rfl (z_ix rfl (by omega) (by omega)) dX3_isLike_112 ?_
                refine lv_topi (fun x60 ex60 => ?_)
                have hr61 : (I 65 a2.toNatClampNeg) = x60 := ex60.symm
                have hv62 : (I 65 a2.toNatClampNeg).toInt = x60.toInt := congrArg Int32.toInt hr61
                refine lv_iload hx hb dX3_isLike_113 (lv_at hl 4 rfl) ?_
                refine z_ci hW hS hA (va_runV (As := [.int x57, .int x60, .int a4]) (rest := []) ⟨hx, hb, hml, hown, hts⟩ (sx_X2_kindOn_r l G ad c I ⟨(by show 0 ≤ (I 1 5).toInt ∧ (I 1 5).toInt ≤ 30; exact hH.1), (by show 0 ≤ (I 1 11).toInt ∧ (I 1 11).toInt ≤ 200; exact hH.2)⟩ x57 x60 a4 _) (cwV 3 hts gX3_isLike_X2_kindOn rfl rfl rfl (by decide +kernel) ⟨Nat.le_of_ble_eq_true rfl, Nat.le_of_ble_eq_true rfl⟩) (z_preV (i := 1) hK hW rfl rfl) rfl rfl hl.1 rfl (lv_room (Nat.le_of_ble_eq_true rfl)) dX3_isLike_115 ⟨Nat.le_of_ble_eq_true rfl, Nat.le_of_ble_eq_true rfl⟩) (fun r u1 H locs hp hW hS => ?_)
                obtain ⟨e9, hp⟩ := hp
                rw [e9] at hW
                refine lv_topi (fun x63 ex63 => ?_)
                have h64 := hp
                rw [← ex63] at h64
                refine lv_aload_n hx hb dX3_isLike_118 rfl (lv_at hl 1 rfl) ?_
                refine lv_aload_n hx hb dX3_isLike_119 rfl (lv_at hl 0 rfl) ?_
                refine z_get (T := TX3) (N := 17) (ci := 3) (i := 60) (v := .ref (ad 61)) hx hb hts zj_X3_isLike_X3 hown hK hW rfl rfl 0 (by decide) (hts (.fieldLink RX3 9 "PetrolBoard$Journeys" "holder" "[I") (me_s (me_l (me_l (me_l (List.mem_of_getElem? (i := 8) rfl)))))) (fun _ h => h) rfl dX3_isLike_120 ?_
                refine lv_iload_n hx hb dX3_isLike_123 rfl (lv_at hl 3 rfl) ?_
                refine z_iald (i := 61) hx hb hK hW rfl (z_ix rfl (by omega) (by omega)) dX3_isLike_124 ?_
                refine lv_topi (fun x65 ex65 => ?_)
                have hr66 : (I 61 a3.toNatClampNeg) = x65 := ex65.symm
                have hv67 : (I 61 a3.toNatClampNeg).toInt = x65.toInt := congrArg Int32.toInt hr66
                refine lv_aload_n hx hb dX3_isLike_125 rfl (lv_at hl 0 rfl) ?_
                refine z_get (T := TX3) (N := 17) (ci := 3) (i := 60) (v := .ref (ad 65)) hx hb hts zj_X3_isLike_X3 hown hK hW rfl rfl 4 (by decide) (hts (.fieldLink RX3 24 "PetrolBoard$Journeys" "day" "[I") (me_s (me_l (me_l (me_l (List.mem_of_getElem? (i := 9) rfl)))))) (fun _ h => h) rfl dX3_isLike_126 ?_
                refine lv_iload_n hx hb dX3_isLike_129 rfl (lv_at hl 3 rfl) ?_
                refine z_iald (i := 65) hx hb hK hW rfl (z_ix rfl (by omega) (by omega)) dX3_isLike_130 ?_
                refine lv_topi (fun x68 ex68 => ?_)
                have hr69 : (I 65 a3.toNatClampNeg) = x68 := ex68.symm
                have hv70 : (I 65 a3.toNatClampNeg).toInt = x68.toInt := congrArg Int32.toInt hr69
                refine lv_iload hx hb dX3_isLike_131 (lv_at hl 4 rfl) ?_
                refine z_ci hW hS hA (va_runV (As := [.int x65, .int x68, .int a4]) (rest := [.int x63]) ⟨hx, hb, hml, hown, hts⟩ (sx_X2_kindOn_r l G ad c I ⟨(by show 0 ≤ (I 1 5).toInt ∧ (I 1 5).toInt ≤ 30; exact hH.1), (by show 0 ≤ (I 1 11).toInt ∧ (I 1 11).toInt ≤ 200; exact hH.2)⟩ x65 x68 a4 _) (cwV 3 hts gX3_isLike_X2_kindOn rfl rfl rfl (by decide +kernel) ⟨Nat.le_of_ble_eq_true rfl, Nat.le_of_ble_eq_true rfl⟩) (z_preV (i := 1) hK hW rfl rfl) rfl rfl hl.1 rfl (lv_room (Nat.le_of_ble_eq_true rfl)) dX3_isLike_133 ⟨Nat.le_of_ble_eq_true rfl, Nat.le_of_ble_eq_true rfl⟩) (fun r u1 H locs hp hW hS => ?_)
                obtain ⟨e9, hp⟩ := hp
                rw [e9] at hW
                refine lv_topi (fun x71 ex71 => ?_)
                have h72 := hp
                rw [← ex71] at h72
                refine lv_icmp_ne (tgt := 143) hx hb dX3_isLike_136 (by decide) (fun c73 => ?_) (fun c73 => ?_)
                · have g74 := z_f_ne rfl rfl c73
                  have b75 := Int32.toInt_lt x63
                  have b76 := Int32.toInt_lt x71
                  refine lv_iconst (v := 0) hx hb dX3_isLike_143 (by decide) ?_
                  exact z_zret hx hb hr (by decide) hK hS (Nat.le_of_ble_eq_true rfl) (Nat.le_of_ble_eq_true rfl) hlocks dX3_isLike_144 (shC c, ad, I, JX, PC c ad) hW ⟨rfl, (Or.inr ⟨rfl, (by have k1 : (z_kx I (I 61 a2.toNatClampNeg).toInt (I 65 a2.toNatClampNeg).toInt a4.toInt (I 1 11).toNatClampNeg).2 = x63.toInt := (by rw [hr58, hr61]; exact h64.symm); have k2 : (z_kx I (I 61 a3.toNatClampNeg).toInt (I 65 a3.toNatClampNeg).toInt a4.toInt (I 1 11).toNatClampNeg).2 = x71.toInt := (by rw [hr66, hr69]; exact h72.symm); exact fun ⟨p1, p2, p3, p4, p5, p6⟩ => by omega)⟩)⟩
                · have g77 := z_f_eq rfl rfl c73
                  have b78 := Int32.toInt_lt x63
                  have b79 := Int32.toInt_lt x71
                  refine lv_iconst (v := 1) hx hb dX3_isLike_139 (by decide) ?_
                  refine lv_goto (tgt := 144) hx hb dX3_isLike_140 (by decide) ?_
                  exact z_zret hx hb hr (by decide) hK hS (Nat.le_of_ble_eq_true rfl) (Nat.le_of_ble_eq_true rfl) hlocks dX3_isLike_144 (shC c, ad, I, JX, PC c ad) hW ⟨rfl, (Or.inl ⟨rfl, (by have k1 : (z_kx I (I 61 a2.toNatClampNeg).toInt (I 65 a2.toNatClampNeg).toInt a4.toInt (I 1 11).toNatClampNeg).2 = x63.toInt := (by rw [hr58, hr61]; exact h64.symm); have k2 : (z_kx I (I 61 a3.toNatClampNeg).toInt (I 65 a3.toNatClampNeg).toInt a4.toInt (I 1 11).toNatClampNeg).2 = x71.toInt := (by rw [hr66, hr69]; exact h72.symm); exact ⟨by omega, by omega, by omega, by omega, by omega, by omega⟩)⟩)⟩
              · have g80 := z_f_nle rfl rfl c54
                have b81 := Int32.toInt_lt x51
                refine lv_iconst (v := 0) hx hb dX3_isLike_98 (by decide) ?_
                exact z_zret hx hb hr (by decide) hK hS (Nat.le_of_ble_eq_true rfl) (Nat.le_of_ble_eq_true rfl) hlocks dX3_isLike_99 (shC c, ad, I, JX, PC c ad) hW ⟨rfl, (Or.inr ⟨rfl, fun ⟨p1, p2, p3, p4, p5, p6⟩ => by omega⟩)⟩
            · have g82 := z_f_ne rfl rfl c40
              have b83 := Int32.toInt_lt x34
              have b84 := Int32.toInt_lt x37
              refine lv_iconst (v := 0) hx hb dX3_isLike_68 (by decide) ?_
              exact z_zret hx hb hr (by decide) hK hS (Nat.le_of_ble_eq_true rfl) (Nat.le_of_ble_eq_true rfl) hlocks dX3_isLike_69 (shC c, ad, I, JX, PC c ad) hW ⟨rfl, (Or.inr ⟨rfl, fun ⟨p1, p2, p3, p4, p5, p6⟩ => by omega⟩)⟩
        · have g85 := z_f_eq rfl rfl c17
          have b86 := Int32.toInt_lt x11
          have b87 := Int32.toInt_lt x14
          refine lv_iconst (v := 0) hx hb dX3_isLike_36 (by decide) ?_
          exact z_zret hx hb hr (by decide) hK hS (Nat.le_of_ble_eq_true rfl) (Nat.le_of_ble_eq_true rfl) hlocks dX3_isLike_37 (shC c, ad, I, JX, PC c ad) hW ⟨rfl, (Or.inr ⟨rfl, fun ⟨p1, p2, p3, p4, p5, p6⟩ => by omega⟩)⟩
    · have h88 := h5
      refine lv_if_eq (tgt := 36) hx hb dX3_isLike_13 (by decide) (fun c89 => ?_) (fun c89 => absurd (by decide) c89)
      refine lv_iconst (v := 0) hx hb dX3_isLike_36 (by decide) ?_
      exact z_zret hx hb hr (by decide) hK hS (Nat.le_of_ble_eq_true rfl) (Nat.le_of_ble_eq_true rfl) hlocks dX3_isLike_37 (shC c, ad, I, JX, PC c ad) hW ⟨rfl, (Or.inr ⟨rfl, fun ⟨p1, p2, p3, p4, p5, p6⟩ => by omega⟩)⟩
  · have h90 := h1
    have r91 : 0 ≤ (I 60 9).toInt ∧ (I 60 9).toInt ≤ 60 := hJ.1
    refine lv_if_eq (tgt := 36) hx hb dX3_isLike_5 (by decide) (fun c92 => ?_) (fun c92 => absurd (by decide) c92)
    refine lv_iconst (v := 0) hx hb dX3_isLike_36 (by decide) ?_
    exact z_zret hx hb hr (by decide) hK hS (Nat.le_of_ble_eq_true rfl) (Nat.le_of_ble_eq_true rfl) hlocks dX3_isLike_37 (shC c, ad, I, JX, PC c ad) hW ⟨rfl, (Or.inr ⟨rfl, fun ⟨p1, p2, p3, p4, p5, p6⟩ => by omega⟩)⟩
set_option maxHeartbeats 8000000 in
set_option maxRecDepth 100000 in
theorem sx_X3_likeOf_g (l : Launch) (G : z_G) (ad : Nat → Nat) (c : z_C) (I : z_I) (hJ : z_iJ I) (hH : z_iH I) (a2 : Int32) (a3 : Int32) (a4 : Int32) (q2 : 0 ≤ a2.toInt ∧ a2.toInt < (I 60 9).toInt) (hM : ∀ j : Nat, (j : Int) < (I 60 9).toInt → 0 ≤ (I 62 j).toInt ∧ (I 62 j).toInt ≤ 500) : z_M l yX3_likeOf wsX3_likeOf { frames := 3, cells := 0, slots := 0, locals := 64 } [.ref (ad 60), .ref (ad 1), .int a2, .int a3, .int a4] G (shC c, ad, I, JX, PC c ad) (fun r u1 => u1 = (shC c, ad, I, JX, PC c ad) ∧ (r.toInt = zn_nt (zn_lx I a4.toInt a2.toNatClampNeg) a3.toInt (I 60 9).toNatClampNeg)) 0 0 := by
  intro sz
  refine z_headQ (cc := cX3_likeOf) (maxL := 7) (ret := (some .int)) (by decide) rfl (Nat.le_of_ble_eq_true rfl) ?_
  intro p e s m below meth c0 ls hIn hK hsz hW hl
  obtain ⟨hx, hb, hr, hml, hown, hts, hlocks, hname⟩ := hIn
  subst hsz
  have hown : s.vm.findClass RX3 = some m.cls := hown
  have hA : ∀ q : Nat, s.heap.size ≤ q → z_A (shC c, ad, I, JX, PC c ad) s.heap.size q := fun q h => Or.inr h
  generalize hAe : z_A (shC c, ad, I, JX, PC c ad) s.heap.size = A at *
  have hS : va_S A s.heap s.heap [] := va_S.rf
  have hl : lv_has ls 7 [(0, .ref (ad 60)), (1, .ref (ad 1)), (2, .int a2), (3, .int a3), (4, .int a4)] := hl
  refine lv_iconst (v := 0) hx hb dX3_likeOf_0 (by decide) ?_
  refine lv_istore (lv' := [(5, .int 0), (0, .ref (ad 60)), (1, .ref (ad 1)), (2, .int a2), (3, .int a3), (4, .int a4)]) hx hb dX3_likeOf_1 hl (by decide) rfl (fun ls hl => ?_)
  refine lv_iconst (v := 0) hx hb dX3_likeOf_3 (by decide) ?_
  refine lv_istore (lv' := [(6, .int 0), (5, .int 0), (0, .ref (ad 60)), (1, .ref (ad 1)), (2, .int a2), (3, .int a3), (4, .int a4)]) hx hb dX3_likeOf_4 hl (by decide) rfl (fun ls hl => ?_)
  have lp1 : ∀ (f : Nat) (y2 : Int32) (y3 : Int32) (H : Heap) (locs : List Loc) (ls : Array Slot), (2147483647 < y2.toInt + (f : Int)) → (0 ≤ y2.toInt) → (0 ≤ y3.toInt) → (y3.toInt ≤ 60) → (y3.toInt = zn_ct (zn_lx I a4.toInt a2.toNatClampNeg) y2.toNatClampNeg ∧ zn_nt (zn_lx I a4.toInt a2.toNatClampNeg) a3.toInt y2.toNatClampNeg = -1 ∧ y3.toInt ≤ y2.toInt ∧ y2.toInt ≤ (I 60 9).toInt) → z_W G A (shC c, ad, I, JX, PC c ad) H → va_S A s.heap H locs → lv_has ls 7 [(6, .int y2), (5, .int y3), (0, .ref (ad 60)), (1, .ref (ad 1)), (2, .int a2), (3, .int a3), (4, .int a4)] → W p l e (headSpec wsX3_likeOf { frames := 3, cells := 0, slots := 0, locals := 64 }).room s m ([.ref (ad 60), .ref (ad 1), .int a2, .int a3, .int a4] : List Value).toArray below meth c0 H locs 0 0 (MQ below (va_Qi (fun (r : Int32) (u1 : z_U) => u1 = (shC c, ad, I, JX, PC c ad) ∧ (r.toInt = zn_nt (zn_lx I a4.toInt a2.toNatClampNeg) a3.toInt (I 60 9).toNatClampNeg)) (z_B G A) A) ([.ref (ad 60), .ref (ad 1), .int a2, .int a3, .int a4] : List Value).toArray s 0 0 A) (F0 m 6 ls []) := by
    intro f
    induction f with
    | zero => intro y2 y3 H locs ls lp1m lp1l6 lp1l5 lp1u5 lp1B hW hS hl; exact absurd lp1m (by have := Int32.toInt_lt y2; have := Int32.le_toInt y2; omega)
    | succ f lp1ih =>
      intro y2 y3 H locs ls lp1m lp1l6 lp1l5 lp1u5 lp1B hW hS hl
      refine lv_iload hx hb dX3_likeOf_6 (lv_at hl 0 rfl) ?_
      refine lv_aload_n hx hb dX3_likeOf_8 rfl (lv_at hl 2 rfl) ?_
      have r4 : 0 ≤ (I 60 9).toInt ∧ (I 60 9).toInt ≤ 60 := hJ.1
      refine z_get (T := TX3) (N := 17) (ci := 3) (i := 60) (v := .int (I 60 9)) hx hb hts zj_X3_likeOf_X3 hown hK hW rfl rfl 9 (by decide) (hts (.fieldLink RX3 45 "PetrolBoard$Journeys" "number" "I") (me_s (me_l (me_l (me_l (List.mem_of_getElem? (i := 0) rfl)))))) (fun _ h => h) rfl dX3_likeOf_9 ?_
      refine lv_icmp_ge (tgt := 53) hx hb dX3_likeOf_12 (by decide) (fun c5 => ?_) (fun c5 => ?_)
      · have g6 := z_f_ge rfl rfl c5
        have b7 := Int32.toInt_lt y2
        refine lv_iconst (v := (-1)) hx hb dX3_likeOf_53 (by decide) ?_
        exact z_iret hx hb hr hK hS (Nat.le_of_ble_eq_true rfl) (Nat.le_of_ble_eq_true rfl) hlocks dX3_likeOf_54 (shC c, ad, I, JX, PC c ad) hW ⟨rfl, (by have q1 := z_clt (x := y2) rfl (by omega); have q2 := z_clt (x := (I 60 9)) rfl (by omega); rw [show (I 60 9).toNatClampNeg = y2.toNatClampNeg by omega, lp1B.2.1]; decide)⟩
      · have g8 := z_f_nge rfl rfl c5
        have b9 := Int32.toInt_lt y2
        refine lv_iload hx hb dX3_likeOf_15 (lv_at hl 0 rfl) ?_
        refine lv_bipush (v := 60) hx hb dX3_likeOf_17 (by decide) ?_
        refine lv_icmp_ge (tgt := 53) hx hb dX3_likeOf_19 (by decide) (fun c10 => (by have g := z_f_ge rfl z_l60 c10; omega)) (fun c10 => ?_)
        have g11 := z_f_nge rfl z_l60 c10
        refine lv_aload_n hx hb dX3_likeOf_22 rfl (lv_at hl 2 rfl) ?_
        refine lv_aload_n hx hb dX3_likeOf_23 rfl (lv_at hl 3 rfl) ?_
        refine lv_iload_n hx hb dX3_likeOf_24 rfl (lv_at hl 4 rfl) ?_
        refine lv_iload hx hb dX3_likeOf_25 (lv_at hl 0 rfl) ?_
        refine lv_iload hx hb dX3_likeOf_27 (lv_at hl 6 rfl) ?_
        refine z_ci hW hS hA (va_runV (As := [.ref (ad 1), .int a2, .int y2, .int a4]) (rest := []) ⟨hx, hb, hml, hown, hts⟩ (sx_X3_isLike_g l G ad c I ⟨(by show 0 ≤ (I 60 9).toInt ∧ (I 60 9).toInt ≤ 60; exact hJ.1), (by show 0 ≤ (I 60 12).toInt ∧ (I 60 12).toInt ≤ 12; exact hJ.2)⟩ ⟨(by show 0 ≤ (I 1 5).toInt ∧ (I 1 5).toInt ≤ 30; exact hH.1), (by show 0 ≤ (I 1 11).toInt ∧ (I 1 11).toInt ≤ 200; exact hH.2)⟩ a2 y2 a4 (by omega) (by omega) hM _) (cwV 4 hts gX3_likeOf_X3_isLike rfl rfl rfl (by decide +kernel) ⟨Nat.le_of_ble_eq_true rfl, Nat.le_of_ble_eq_true rfl⟩) (z_preV (i := 60) hK hW rfl rfl) rfl rfl hl.1 rfl (lv_room (Nat.le_of_ble_eq_true rfl)) dX3_likeOf_29 ⟨Nat.le_of_ble_eq_true rfl, Nat.le_of_ble_eq_true rfl⟩) (fun r u1 H locs hp hW hS => ?_)
        obtain ⟨e9, hp⟩ := hp
        rw [e9] at hW
        rcases hp with ⟨rfl, hb12⟩ | ⟨rfl, hb12⟩
        · refine lv_if_eq (tgt := 47) hx hb dX3_likeOf_32 (by decide) (fun c13 => absurd c13 (by decide)) (fun c13 => ?_)
          refine lv_iload hx hb dX3_likeOf_35 (lv_at hl 1 rfl) ?_
          refine lv_iload_n hx hb dX3_likeOf_37 rfl (lv_at hl 5 rfl) ?_
          refine lv_icmp_ne (tgt := 44) hx hb dX3_likeOf_38 (by decide) (fun c14 => ?_) (fun c14 => ?_)
          · have g15 := z_f_ne rfl rfl c14
            have b16 := Int32.toInt_lt a3
            obtain ⟨x17, ex17⟩ : ∃ y : Int32, y = y3 + 1 := ⟨_, rfl⟩
            have tx17 : x17.toInt = y3.toInt + 1 := z_tadd ex17 rfl z_l1 (by omega) (by omega)
            refine lv_iinc (v := x17) (lv' := [(5, .int x17), (6, .int y2), (0, .ref (ad 60)), (1, .ref (ad 1)), (2, .int a2), (3, .int a3), (4, .int a4)]) hx hb dX3_likeOf_44 hl (k := 1) rfl (by rw [ex17]; rfl) (by decide) rfl (fun ls hl => ?_)
            obtain ⟨x18, ex18⟩ : ∃ y : Int32, y = y2 + 1 := ⟨_, rfl⟩
            have tx18 : x18.toInt = y2.toInt + 1 := z_tadd ex18 rfl z_l1 (by omega) (by omega)
            refine lv_iinc (v := x18) (lv' := [(6, .int x18), (5, .int x17), (0, .ref (ad 60)), (1, .ref (ad 1)), (2, .int a2), (3, .int a3), (4, .int a4)]) hx hb dX3_likeOf_47 hl (k := 1) rfl (by rw [ex18]; rfl) (by decide) rfl (fun ls hl => ?_)
            refine lv_goto (tgt := 6) hx hb dX3_likeOf_50 (by decide) ?_
            exact lp1ih x18 x17 _ _ _ (by omega) (by omega) (by omega) (by omega) ⟨by rw [(show x18.toNatClampNeg = y2.toNatClampNeg + 1 from z_cln (by omega) (by omega)), zn_ct_y hb12]; omega, by rw [(show x18.toNatClampNeg = y2.toNatClampNeg + 1 from z_cln (by omega) (by omega))]; exact zn_nt_n lp1B.2.1 (fun q => absurd q.2 (by omega)), by omega, by omega⟩ hW hS (lv_sub hl [0, 1, 2, 3, 4, 5, 6] rfl)
          · have g19 := z_f_eq rfl rfl c14
            have b20 := Int32.toInt_lt a3
            refine lv_iload hx hb dX3_likeOf_41 (lv_at hl 0 rfl) ?_
            exact z_iret hx hb hr hK hS (Nat.le_of_ble_eq_true rfl) (Nat.le_of_ble_eq_true rfl) hlocks dX3_likeOf_43 (shC c, ad, I, JX, PC c ad) hW ⟨rfl, (by have q1 := z_clt (x := y2) rfl (by omega); have q2 := z_clt (x := (I 60 9)) rfl (by omega); have q3 := zn_nt_y lp1B.2.1 hb12 (by omega); rw [zn_nt_m (n := y2.toNatClampNeg + 1) (by omega) (by omega), q3, q1])⟩
        · refine lv_if_eq (tgt := 47) hx hb dX3_likeOf_32 (by decide) (fun c21 => ?_) (fun c21 => absurd (by decide) c21)
          obtain ⟨x22, ex22⟩ : ∃ y : Int32, y = y2 + 1 := ⟨_, rfl⟩
          have tx22 : x22.toInt = y2.toInt + 1 := z_tadd ex22 rfl z_l1 (by omega) (by omega)
          refine lv_iinc (v := x22) (lv' := [(6, .int x22), (5, .int y3), (0, .ref (ad 60)), (1, .ref (ad 1)), (2, .int a2), (3, .int a3), (4, .int a4)]) hx hb dX3_likeOf_47 hl (k := 0) rfl (by rw [ex22]; rfl) (by decide) rfl (fun ls hl => ?_)
          refine lv_goto (tgt := 6) hx hb dX3_likeOf_50 (by decide) ?_
          exact lp1ih x22 y3 _ _ _ (by omega) (by omega) (by omega) (by omega) ⟨by rw [(show x22.toNatClampNeg = y2.toNatClampNeg + 1 from z_cln (by omega) (by omega)), zn_ct_n hb12]; omega, by rw [(show x22.toNatClampNeg = y2.toNatClampNeg + 1 from z_cln (by omega) (by omega))]; exact zn_nt_n lp1B.2.1 (fun q => hb12 q.1), by omega, by omega⟩ hW hS (lv_sub hl [0, 1, 2, 3, 4, 5, 6] rfl)
  exact lp1 4294967296 (0) (0) _ _ _ (z_m0u _) (by rw [z_l0]; omega) (by rw [z_l0]; omega) (by rw [z_l0]; omega) ⟨by rw [show (0 : Int32).toNatClampNeg = 0 by decide]; rfl, by rw [show (0 : Int32).toNatClampNeg = 0 by decide]; rfl, by omega, by have q0 := z_l0; omega⟩ hW hS (lv_sub hl [0, 1, 2, 3, 4, 5, 6] rfl)
set_option maxHeartbeats 8000000 in
set_option maxRecDepth 100000 in
theorem sx_X3_tell_g (l : Launch) (G : z_G) (ad : Nat → Nat) (c : z_C) (I : z_I) (hJ : z_iJ I) (a1 : Int32) (a2 : Int32) : z_M l yX3_tell wsX3_tell { frames := 2, cells := 0, slots := 0, locals := 33 } [.ref (ad 60), .int a1, .int a2] G (shC c, ad, I, JX, PC c ad) (fun r u1 => u1 = (shC c, ad, I, JX, PC c ad) ∧ ((¬ (0 ≤ a1.toInt ∧ a1.toInt < (I 60 9).toInt) ∧ r.toInt = -1) ∨ ((0 ≤ a1.toInt ∧ a1.toInt < (I 60 9).toInt) ∧ zn_t (zn_tx I a1.toNatClampNeg) a2.toInt r.toInt))) 0 0 := by
  intro sz
  refine z_headQ (cc := cX3_tell) (maxL := 3) (ret := (some .int)) (by decide) rfl (Nat.le_of_ble_eq_true rfl) ?_
  intro p e s m below meth c0 ls hIn hK hsz hW hl
  obtain ⟨hx, hb, hr, hml, hown, hts, hlocks, hname⟩ := hIn
  subst hsz
  have hown : s.vm.findClass RX3 = some m.cls := hown
  have hA : ∀ q : Nat, s.heap.size ≤ q → z_A (shC c, ad, I, JX, PC c ad) s.heap.size q := fun q h => Or.inr h
  generalize hAe : z_A (shC c, ad, I, JX, PC c ad) s.heap.size = A at *
  have hS : va_S A s.heap s.heap [] := va_S.rf
  have hl : lv_has ls 3 [(0, .ref (ad 60)), (1, .int a1), (2, .int a2)] := hl
  refine lv_aload_n hx hb dX3_tell_0 rfl (lv_at hl 0 rfl) ?_
  refine lv_iload_n hx hb dX3_tell_1 rfl (lv_at hl 1 rfl) ?_
  refine z_ci hW hS hA (va_runV (As := [.int a1]) (rest := []) ⟨hx, hb, hml, hown, hts⟩ (sx_X3_has_g l G ad c I ⟨(by show 0 ≤ (I 60 9).toInt ∧ (I 60 9).toInt ≤ 60; exact hJ.1), (by show 0 ≤ (I 60 12).toInt ∧ (I 60 12).toInt ≤ 12; exact hJ.2)⟩ a1 _) (cwV 1 hts gX3_tell_X3_has rfl rfl rfl (by decide +kernel) ⟨Nat.le_of_ble_eq_true rfl, Nat.le_of_ble_eq_true rfl⟩) (z_preV (i := 60) hK hW rfl rfl) rfl rfl hl.1 rfl (lv_room (Nat.le_of_ble_eq_true rfl)) dX3_tell_2 ⟨Nat.le_of_ble_eq_true rfl, Nat.le_of_ble_eq_true rfl⟩) (fun r u1 H locs hp hW hS => ?_)
  obtain ⟨e9, hp⟩ := hp
  rw [e9] at hW
  rcases hp with ⟨rfl, h1⟩ | ⟨rfl, h1⟩
  · have h2 := h1
    have r3 : 0 ≤ (I 60 9).toInt ∧ (I 60 9).toInt ≤ 60 := hJ.1
    refine lv_if_ne (tgt := 10) hx hb dX3_tell_5 (by decide) (fun c4 => ?_) (fun c4 => absurd c4 (by decide))
    refine lv_iload_n hx hb dX3_tell_10 rfl (lv_at hl 2 rfl) ?_
    by_cases q5 : a2 = 0
    · refine lv_tableIn (tgt := 56) hx hb dX3_tell_11 (by rw [q5]; decide) (by rw [q5]; decide) (by rw [q5]; rfl) (by decide) ?_
      refine lv_aload_n hx hb dX3_tell_56 rfl (lv_at hl 0 rfl) ?_
      refine z_get (T := TX3) (N := 17) (ci := 3) (i := 60) (v := .ref (ad 61)) hx hb hts zj_X3_tell_X3 hown hK hW rfl rfl 0 (by decide) (hts (.fieldLink RX3 9 "PetrolBoard$Journeys" "holder" "[I") (me_s (me_l (List.mem_of_getElem? (i := 0) rfl)))) (fun _ h => h) rfl dX3_tell_57 ?_
      refine lv_iload_n hx hb dX3_tell_60 rfl (lv_at hl 1 rfl) ?_
      refine z_iald (i := 61) hx hb hK hW rfl (z_ix rfl (by omega) (by omega)) dX3_tell_61 ?_
      refine lv_topi (fun x6 ex6 => ?_)
      exact z_iret hx hb hr hK hS (Nat.le_of_ble_eq_true rfl) (Nat.le_of_ble_eq_true rfl) hlocks dX3_tell_62 (shC c, ad, I, JX, PC c ad) hW ⟨rfl, (Or.inr ⟨by omega, zn_t_i (k := 0) (show a2.toInt = 0 by rw [‹a2 = 0›]; decide) (by decide) (by rw [ex6]; rfl)⟩)⟩
    by_cases q7 : a2 = 1
    · refine lv_tableIn (tgt := 63) hx hb dX3_tell_11 (by rw [q7]; decide) (by rw [q7]; decide) (by rw [q7]; rfl) (by decide) ?_
      refine lv_aload_n hx hb dX3_tell_63 rfl (lv_at hl 0 rfl) ?_
      refine z_get (T := TX3) (N := 17) (ci := 3) (i := 60) (v := .ref (ad 62)) hx hb hts zj_X3_tell_X3 hown hK hW rfl rfl 1 (by decide) (hts (.fieldLink RX3 15 "PetrolBoard$Journeys" "miles" "[I") (me_s (me_l (List.mem_of_getElem? (i := 1) rfl)))) (fun _ h => h) rfl dX3_tell_64 ?_
      refine lv_iload_n hx hb dX3_tell_67 rfl (lv_at hl 1 rfl) ?_
      refine z_iald (i := 62) hx hb hK hW rfl (z_ix rfl (by omega) (by omega)) dX3_tell_68 ?_
      refine lv_topi (fun x8 ex8 => ?_)
      exact z_iret hx hb hr hK hS (Nat.le_of_ble_eq_true rfl) (Nat.le_of_ble_eq_true rfl) hlocks dX3_tell_69 (shC c, ad, I, JX, PC c ad) hW ⟨rfl, (Or.inr ⟨by omega, zn_t_i (k := 1) (show a2.toInt = 1 by rw [‹a2 = 1›]; decide) (by decide) (by rw [ex8]; rfl)⟩)⟩
    by_cases q9 : a2 = 2
    · refine lv_tableIn (tgt := 70) hx hb dX3_tell_11 (by rw [q9]; decide) (by rw [q9]; decide) (by rw [q9]; rfl) (by decide) ?_
      refine lv_aload_n hx hb dX3_tell_70 rfl (lv_at hl 0 rfl) ?_
      refine z_get (T := TX3) (N := 17) (ci := 3) (i := 60) (v := .ref (ad 63)) hx hb hts zj_X3_tell_X3 hown hK hW rfl rfl 2 (by decide) (hts (.fieldLink RX3 18 "PetrolBoard$Journeys" "people" "[I") (me_s (me_l (List.mem_of_getElem? (i := 2) rfl)))) (fun _ h => h) rfl dX3_tell_71 ?_
      refine lv_iload_n hx hb dX3_tell_74 rfl (lv_at hl 1 rfl) ?_
      refine z_iald (i := 63) hx hb hK hW rfl (z_ix rfl (by omega) (by omega)) dX3_tell_75 ?_
      refine lv_topi (fun x10 ex10 => ?_)
      exact z_iret hx hb hr hK hS (Nat.le_of_ble_eq_true rfl) (Nat.le_of_ble_eq_true rfl) hlocks dX3_tell_76 (shC c, ad, I, JX, PC c ad) hW ⟨rfl, (Or.inr ⟨by omega, zn_t_i (k := 2) (show a2.toInt = 2 by rw [‹a2 = 2›]; decide) (by decide) (by rw [ex10]; rfl)⟩)⟩
    by_cases q11 : a2 = 3
    · refine lv_tableIn (tgt := 77) hx hb dX3_tell_11 (by rw [q11]; decide) (by rw [q11]; decide) (by rw [q11]; rfl) (by decide) ?_
      refine lv_aload_n hx hb dX3_tell_77 rfl (lv_at hl 0 rfl) ?_
      refine z_get (T := TX3) (N := 17) (ci := 3) (i := 60) (v := .ref (ad 64)) hx hb hts zj_X3_tell_X3 hown hK hW rfl rfl 3 (by decide) (hts (.fieldLink RX3 21 "PetrolBoard$Journeys" "reason" "[I") (me_s (me_l (List.mem_of_getElem? (i := 3) rfl)))) (fun _ h => h) rfl dX3_tell_78 ?_
      refine lv_iload_n hx hb dX3_tell_81 rfl (lv_at hl 1 rfl) ?_
      refine z_iald (i := 64) hx hb hK hW rfl (z_ix rfl (by omega) (by omega)) dX3_tell_82 ?_
      refine lv_topi (fun x12 ex12 => ?_)
      exact z_iret hx hb hr hK hS (Nat.le_of_ble_eq_true rfl) (Nat.le_of_ble_eq_true rfl) hlocks dX3_tell_83 (shC c, ad, I, JX, PC c ad) hW ⟨rfl, (Or.inr ⟨by omega, zn_t_i (k := 3) (show a2.toInt = 3 by rw [‹a2 = 3›]; decide) (by decide) (by rw [ex12]; rfl)⟩)⟩
    by_cases q13 : a2 = 4
    · refine lv_tableIn (tgt := 84) hx hb dX3_tell_11 (by rw [q13]; decide) (by rw [q13]; decide) (by rw [q13]; rfl) (by decide) ?_
      refine lv_aload_n hx hb dX3_tell_84 rfl (lv_at hl 0 rfl) ?_
      refine z_get (T := TX3) (N := 17) (ci := 3) (i := 60) (v := .ref (ad 65)) hx hb hts zj_X3_tell_X3 hown hK hW rfl rfl 4 (by decide) (hts (.fieldLink RX3 24 "PetrolBoard$Journeys" "day" "[I") (me_s (me_l (List.mem_of_getElem? (i := 4) rfl)))) (fun _ h => h) rfl dX3_tell_85 ?_
      refine lv_iload_n hx hb dX3_tell_88 rfl (lv_at hl 1 rfl) ?_
      refine z_iald (i := 65) hx hb hK hW rfl (z_ix rfl (by omega) (by omega)) dX3_tell_89 ?_
      refine lv_topi (fun x14 ex14 => ?_)
      exact z_iret hx hb hr hK hS (Nat.le_of_ble_eq_true rfl) (Nat.le_of_ble_eq_true rfl) hlocks dX3_tell_90 (shC c, ad, I, JX, PC c ad) hW ⟨rfl, (Or.inr ⟨by omega, zn_t_i (k := 4) (show a2.toInt = 4 by rw [‹a2 = 4›]; decide) (by decide) (by rw [ex14]; rfl)⟩)⟩
    by_cases q15 : a2 = 5
    · refine lv_tableIn (tgt := 91) hx hb dX3_tell_11 (by rw [q15]; decide) (by rw [q15]; decide) (by rw [q15]; rfl) (by decide) ?_
      refine lv_aload_n hx hb dX3_tell_91 rfl (lv_at hl 0 rfl) ?_
      refine z_get (T := TX3) (N := 17) (ci := 3) (i := 60) (v := .ref (ad 66)) hx hb hts zj_X3_tell_X3 hown hK hW rfl rfl 5 (by decide) (hts (.fieldLink RX3 27 "PetrolBoard$Journeys" "way" "[I") (me_s (me_l (List.mem_of_getElem? (i := 5) rfl)))) (fun _ h => h) rfl dX3_tell_92 ?_
      refine lv_iload_n hx hb dX3_tell_95 rfl (lv_at hl 1 rfl) ?_
      refine z_iald (i := 66) hx hb hK hW rfl (z_ix rfl (by omega) (by omega)) dX3_tell_96 ?_
      refine lv_topi (fun x16 ex16 => ?_)
      exact z_iret hx hb hr hK hS (Nat.le_of_ble_eq_true rfl) (Nat.le_of_ble_eq_true rfl) hlocks dX3_tell_97 (shC c, ad, I, JX, PC c ad) hW ⟨rfl, (Or.inr ⟨by omega, zn_t_i (k := 5) (show a2.toInt = 5 by rw [‹a2 = 5›]; decide) (by decide) (by rw [ex16]; rfl)⟩)⟩
    by_cases q17 : a2 = 6
    · refine lv_tableIn (tgt := 98) hx hb dX3_tell_11 (by rw [q17]; decide) (by rw [q17]; decide) (by rw [q17]; rfl) (by decide) ?_
      refine lv_aload_n hx hb dX3_tell_98 rfl (lv_at hl 0 rfl) ?_
      refine z_get (T := TX3) (N := 17) (ci := 3) (i := 60) (v := .ref (ad 68)) hx hb hts zj_X3_tell_X3 hown hK hW rfl rfl 7 (by decide) (hts (.fieldLink RX3 33 "PetrolBoard$Journeys" "granted" "[I") (me_s (me_l (List.mem_of_getElem? (i := 6) rfl)))) (fun _ h => h) rfl dX3_tell_99 ?_
      refine lv_iload_n hx hb dX3_tell_102 rfl (lv_at hl 1 rfl) ?_
      refine z_iald (i := 68) hx hb hK hW rfl (z_ix rfl (by omega) (by omega)) dX3_tell_103 ?_
      refine lv_topi (fun x18 ex18 => ?_)
      exact z_iret hx hb hr hK hS (Nat.le_of_ble_eq_true rfl) (Nat.le_of_ble_eq_true rfl) hlocks dX3_tell_104 (shC c, ad, I, JX, PC c ad) hW ⟨rfl, (Or.inr ⟨by omega, zn_t_i (k := 6) (show a2.toInt = 6 by rw [‹a2 = 6›]; decide) (by decide) (by rw [ex18]; rfl)⟩)⟩
    by_cases q19 : a2 = 7
    · refine lv_tableIn (tgt := 105) hx hb dX3_tell_11 (by rw [q19]; decide) (by rw [q19]; decide) (by rw [q19]; rfl) (by decide) ?_
      refine lv_aload_n hx hb dX3_tell_105 rfl (lv_at hl 0 rfl) ?_
      refine z_get (T := TX3) (N := 17) (ci := 3) (i := 60) (v := .ref (ad 69)) hx hb hts zj_X3_tell_X3 hown hK hW rfl rfl 8 (by decide) (hts (.fieldLink RX3 36 "PetrolBoard$Journeys" "grantedFirst" "[I") (me_s (me_l (List.mem_of_getElem? (i := 7) rfl)))) (fun _ h => h) rfl dX3_tell_106 ?_
      refine lv_iload_n hx hb dX3_tell_109 rfl (lv_at hl 1 rfl) ?_
      refine z_iald (i := 69) hx hb hK hW rfl (z_ix rfl (by omega) (by omega)) dX3_tell_110 ?_
      refine lv_topi (fun x20 ex20 => ?_)
      exact z_iret hx hb hr hK hS (Nat.le_of_ble_eq_true rfl) (Nat.le_of_ble_eq_true rfl) hlocks dX3_tell_111 (shC c, ad, I, JX, PC c ad) hW ⟨rfl, (Or.inr ⟨by omega, zn_t_i (k := 7) (show a2.toInt = 7 by rw [‹a2 = 7›]; decide) (by decide) (by rw [ex20]; rfl)⟩)⟩
    have q5 := z_f_ne rfl z_l0 q5
    have q7 := z_f_ne rfl z_l1 q7
    have q9 := z_f_ne rfl z_l2 q9
    have q11 := z_f_ne rfl z_l3 q11
    have q13 := z_f_ne rfl z_l4 q13
    have q15 := z_f_ne rfl z_l5 q15
    have q17 := z_f_ne rfl z_l6 q17
    have q19 := z_f_ne rfl z_l7 q19
    refine lv_tableOut (tgt := 112) hx hb dX3_tell_11 (by omega) (by decide) ?_
    refine lv_iconst (v := (-1)) hx hb dX3_tell_112 (by decide) ?_
    exact z_iret hx hb hr hK hS (Nat.le_of_ble_eq_true rfl) (Nat.le_of_ble_eq_true rfl) hlocks dX3_tell_113 (shC c, ad, I, JX, PC c ad) hW ⟨rfl, (by first | exact Or.inl ⟨by omega, by decide⟩ | exact Or.inr ⟨by omega, Or.inr ⟨by omega, by decide⟩⟩)⟩
  · have h21 := h1
    have r22 : 0 ≤ (I 60 9).toInt ∧ (I 60 9).toInt ≤ 60 := hJ.1
    refine lv_if_ne (tgt := 10) hx hb dX3_tell_5 (by decide) (fun c23 => absurd (by decide) c23) (fun c23 => ?_)
    refine lv_iconst (v := (-1)) hx hb dX3_tell_8 (by decide) ?_
    exact z_iret hx hb hr hK hS (Nat.le_of_ble_eq_true rfl) (Nat.le_of_ble_eq_true rfl) hlocks dX3_tell_9 (shC c, ad, I, JX, PC c ad) hW ⟨rfl, (by first | exact Or.inl ⟨by omega, by decide⟩ | exact Or.inr ⟨by omega, Or.inr ⟨by omega, by decide⟩⟩)⟩
set_option maxHeartbeats 8000000 in
set_option maxRecDepth 100000 in
theorem sx_X11_journey_g (l : Launch) (G : z_G) (ad : Nat → Nat) (c : z_C) (I : z_I) (hH : z_iH I) (hJ : z_iJ I) (hB : z_iB I) (a1 : Int32) (a2 : Int32) (hc : z_okc c) (h10 : c.1 ≤ 10) (hM : ∀ j : Nat, (j : Int) < (I 60 9).toInt → 0 ≤ (I 62 j).toInt ∧ (I 62 j).toInt ≤ 500) : z_M l yX11_journey wsX11_journey { frames := 4, cells := 0, slots := 0, locals := 90 } [.ref (ad 0), .int a1, .int a2] G (shC c, ad, I, JX, PC c ad) (fun r u1 => u1 = (shC c, ad, I, JX, PC c ad) ∧ ((¬ (0 ≤ a1.toInt ∧ a1.toInt < (I 60 9).toInt) ∧ r.toInt = -1) ∨ ((0 ≤ a1.toInt ∧ a1.toInt < (I 60 9).toInt) ∧ ((100 ≤ a2.toInt ∧ r.toInt = zn_nt (zn_lx I (I 0 0).toInt a1.toNatClampNeg) (a2.toInt - 100) (I 60 9).toNatClampNeg) ∨ (¬ 100 ≤ a2.toInt ∧ zn_t (zn_tx I a1.toNatClampNeg) a2.toInt r.toInt))))) 0 0 := by
  intro sz
  refine z_headQ (cc := cX11_journey) (maxL := 3) (ret := (some .int)) (by decide) rfl (Nat.le_of_ble_eq_true rfl) ?_
  intro p e s m below meth c0 ls hIn hK hsz hW hl
  obtain ⟨hx, hb, hr, hml, hown, hts, hlocks, hname⟩ := hIn
  subst hsz
  have hown : s.vm.findClass RX11 = some m.cls := hown
  have hA : ∀ q : Nat, s.heap.size ≤ q → z_A (shC c, ad, I, JX, PC c ad) s.heap.size q := fun q h => Or.inr h
  generalize hAe : z_A (shC c, ad, I, JX, PC c ad) s.heap.size = A at *
  have hS : va_S A s.heap s.heap [] := va_S.rf
  have hl : lv_has ls 3 [(0, .ref (ad 0)), (1, .int a1), (2, .int a2)] := hl
  refine lv_aload_n hx hb dX11_journey_0 rfl (lv_at hl 0 rfl) ?_
  refine z_get (T := TX11) (N := 13) (ci := 11) (i := 0) (v := .ref (ad 60)) hx hb hts zj_X11_journey_X11 hown hK hW rfl rfl 11 (by decide) (hts (.fieldLink RX11 68 "PetrolBoard" "journeys" "LPetrolBoard$Journeys;") (me_s (me_l (me_l (me_l (me_l (List.mem_of_getElem? (i := 0) rfl))))))) (fun _ h => h) rfl dX11_journey_1 ?_
  refine lv_iload_n hx hb dX11_journey_4 rfl (lv_at hl 1 rfl) ?_
  refine z_ci hW hS hA (va_runV (As := [.int a1]) (rest := []) ⟨hx, hb, hml, hown, hts⟩ (sx_X3_has_g l G ad c I ⟨(by show 0 ≤ (I 60 9).toInt ∧ (I 60 9).toInt ≤ 60; exact hJ.1), (by show 0 ≤ (I 60 12).toInt ∧ (I 60 12).toInt ≤ 12; exact hJ.2)⟩ a1 _) (cwV 1 hts gX11_journey_X3_has rfl rfl rfl (by decide +kernel) ⟨Nat.le_of_ble_eq_true rfl, Nat.le_of_ble_eq_true rfl⟩) (z_preV (i := 60) hK hW rfl rfl) rfl rfl hl.1 rfl (lv_room (Nat.le_of_ble_eq_true rfl)) dX11_journey_5 ⟨Nat.le_of_ble_eq_true rfl, Nat.le_of_ble_eq_true rfl⟩) (fun r u1 H locs hp hW hS => ?_)
  obtain ⟨e9, hp⟩ := hp
  rw [e9] at hW
  rcases hp with ⟨rfl, h1⟩ | ⟨rfl, h1⟩
  · have h2 := h1
    have r3 : 0 ≤ (I 60 9).toInt ∧ (I 60 9).toInt ≤ 60 := hJ.1
    refine lv_if_ne (tgt := 13) hx hb dX11_journey_8 (by decide) (fun c4 => ?_) (fun c4 => absurd c4 (by decide))
    refine lv_iload_n hx hb dX11_journey_13 rfl (lv_at hl 2 rfl) ?_
    refine lv_bipush (v := 100) hx hb dX11_journey_14 (by decide) ?_
    refine lv_icmp_lt (tgt := 40) hx hb dX11_journey_16 (by decide) (fun c5 => ?_) (fun c5 => ?_)
    · have g6 := z_f_lt rfl z_l100 c5
      have b7 := Int32.toInt_lt a2
      refine lv_aload_n hx hb dX11_journey_40 rfl (lv_at hl 0 rfl) ?_
      refine z_get (T := TX11) (N := 13) (ci := 11) (i := 0) (v := .ref (ad 60)) hx hb hts zj_X11_journey_X11 hown hK hW rfl rfl 11 (by decide) (hts (.fieldLink RX11 68 "PetrolBoard" "journeys" "LPetrolBoard$Journeys;") (me_s (me_l (me_l (me_l (me_l (List.mem_of_getElem? (i := 0) rfl))))))) (fun _ h => h) rfl dX11_journey_41 ?_
      refine lv_iload_n hx hb dX11_journey_44 rfl (lv_at hl 1 rfl) ?_
      refine lv_iload_n hx hb dX11_journey_45 rfl (lv_at hl 2 rfl) ?_
      refine z_ci hW hS hA (va_runV (As := [.int a1, .int a2]) (rest := []) ⟨hx, hb, hml, hown, hts⟩ (sx_X3_tell_g l G ad c I ⟨(by show 0 ≤ (I 60 9).toInt ∧ (I 60 9).toInt ≤ 60; exact hJ.1), (by show 0 ≤ (I 60 12).toInt ∧ (I 60 12).toInt ≤ 12; exact hJ.2)⟩ a1 a2 _) (cwV 2 hts gX11_journey_X3_tell rfl rfl rfl (by decide +kernel) ⟨Nat.le_of_ble_eq_true rfl, Nat.le_of_ble_eq_true rfl⟩) (z_preV (i := 60) hK hW rfl rfl) rfl rfl hl.1 rfl (lv_room (Nat.le_of_ble_eq_true rfl)) dX11_journey_46 ⟨Nat.le_of_ble_eq_true rfl, Nat.le_of_ble_eq_true rfl⟩) (fun r u1 H locs hp hW hS => ?_)
      obtain ⟨e9, hp⟩ := hp
      rw [e9] at hW
      refine lv_topi (fun x8 ex8 => ?_)
      rw [← ex8] at hp
      have hP9 := hp
      exact z_iret hx hb hr hK hS (Nat.le_of_ble_eq_true rfl) (Nat.le_of_ble_eq_true rfl) hlocks dX11_journey_49 (shC c, ad, I, JX, PC c ad) hW ⟨rfl, (by rcases hP9 with ⟨w, _⟩ | ⟨_, w⟩; (· exfalso; omega); (· exact Or.inr ⟨by omega, Or.inr ⟨by omega, w⟩⟩))⟩
    · have g10 := z_f_nlt rfl z_l100 c5
      have b11 := Int32.toInt_lt a2
      refine lv_aload_n hx hb dX11_journey_19 rfl (lv_at hl 0 rfl) ?_
      refine z_get (T := TX11) (N := 13) (ci := 11) (i := 0) (v := .ref (ad 60)) hx hb hts zj_X11_journey_X11 hown hK hW rfl rfl 11 (by decide) (hts (.fieldLink RX11 68 "PetrolBoard" "journeys" "LPetrolBoard$Journeys;") (me_s (me_l (me_l (me_l (me_l (List.mem_of_getElem? (i := 0) rfl))))))) (fun _ h => h) rfl dX11_journey_20 ?_
      refine lv_aload_n hx hb dX11_journey_23 rfl (lv_at hl 0 rfl) ?_
      refine z_get (T := TX11) (N := 13) (ci := 11) (i := 0) (v := .ref (ad 1)) hx hb hts zj_X11_journey_X11 hown hK hW rfl rfl 2 (by decide) (hts (.fieldLink RX11 16 "PetrolBoard" "holders" "LPetrolBoard$Holders;") (me_s (me_l (me_l (me_l (me_l (List.mem_of_getElem? (i := 1) rfl))))))) (fun _ h => h) rfl dX11_journey_24 ?_
      refine lv_iload_n hx hb dX11_journey_27 rfl (lv_at hl 1 rfl) ?_
      refine lv_iload_n hx hb dX11_journey_28 rfl (lv_at hl 2 rfl) ?_
      refine lv_bipush (v := 100) hx hb dX11_journey_29 (by decide) ?_
      refine lv_isub hx hb dX11_journey_31 ?_
      refine lv_topi (fun x12 ex12 => ?_)
      have tx12 : x12.toInt = a2.toInt - 100 := z_tsub ex12 rfl z_l100 (by have := Int32.le_toInt a2; have := Int32.toInt_lt a2; omega) (by have := Int32.le_toInt a2; have := Int32.toInt_lt a2; omega)
      refine lv_aload_n hx hb dX11_journey_32 rfl (lv_at hl 0 rfl) ?_
      have r13 : 0 ≤ (I 0 0).toInt ∧ (I 0 0).toInt ≤ 719 := hB.1
      refine z_get (T := TX11) (N := 13) (ci := 11) (i := 0) (v := .int (I 0 0)) hx hb hts zj_X11_journey_X11 hown hK hW rfl rfl 0 (by decide) (hts (.fieldLink RX11 85 "PetrolBoard" "today" "I") (me_s (me_l (me_l (me_l (me_l (List.mem_of_getElem? (i := 2) rfl))))))) (fun _ h => h) rfl dX11_journey_33 ?_
      refine z_ci hW hS hA (va_runV (As := [.ref (ad 1), .int a1, .int x12, .int (I 0 0)]) (rest := []) ⟨hx, hb, hml, hown, hts⟩ (sx_X3_likeOf_g l G ad c I ⟨(by show 0 ≤ (I 60 9).toInt ∧ (I 60 9).toInt ≤ 60; exact hJ.1), (by show 0 ≤ (I 60 12).toInt ∧ (I 60 12).toInt ≤ 12; exact hJ.2)⟩ ⟨(by show 0 ≤ (I 1 5).toInt ∧ (I 1 5).toInt ≤ 30; exact hH.1), (by show 0 ≤ (I 1 11).toInt ∧ (I 1 11).toInt ≤ 200; exact hH.2)⟩ a1 x12 (I 0 0) (by omega) hM _) (cwV 4 hts gX11_journey_X3_likeOf rfl rfl rfl (by decide +kernel) ⟨Nat.le_of_ble_eq_true rfl, Nat.le_of_ble_eq_true rfl⟩) (z_preV (i := 60) hK hW rfl rfl) rfl rfl hl.1 rfl (lv_room (Nat.le_of_ble_eq_true rfl)) dX11_journey_36 ⟨Nat.le_of_ble_eq_true rfl, Nat.le_of_ble_eq_true rfl⟩) (fun r u1 H locs hp hW hS => ?_)
      obtain ⟨e9, hp⟩ := hp
      rw [e9] at hW
      refine lv_topi (fun x14 ex14 => ?_)
      rw [← ex14] at hp
      have hP15 := hp
      exact z_iret hx hb hr hK hS (Nat.le_of_ble_eq_true rfl) (Nat.le_of_ble_eq_true rfl) hlocks dX11_journey_39 (shC c, ad, I, JX, PC c ad) hW ⟨rfl, (Or.inr ⟨by omega, Or.inl ⟨by omega, by rw [show a2.toInt - 100 = x12.toInt by omega]; exact hP15⟩⟩)⟩
  · have h16 := h1
    have r17 : 0 ≤ (I 60 9).toInt ∧ (I 60 9).toInt ≤ 60 := hJ.1
    refine lv_if_ne (tgt := 13) hx hb dX11_journey_8 (by decide) (fun c18 => absurd (by decide) c18) (fun c18 => ?_)
    refine lv_iconst (v := (-1)) hx hb dX11_journey_11 (by decide) ?_
    exact z_iret hx hb hr hK hS (Nat.le_of_ble_eq_true rfl) (Nat.le_of_ble_eq_true rfl) hlocks dX11_journey_12 (shC c, ad, I, JX, PC c ad) hW ⟨rfl, (Or.inl ⟨by omega, by decide⟩)⟩
set_option maxHeartbeats 8000000 in
set_option maxRecDepth 100000 in
theorem sx_X12_abs_g (l : Launch) (G : z_G) (ad : Nat → Nat) (I : z_I) (J : z_J) (a1 : Int32) (q1 : -500 ≤ a1.toInt ∧ a1.toInt ≤ 500) : z_M l yX12_abs wsX12_abs { frames := 1, cells := 0, slots := 0, locals := 12 } [.int a1] G (shM, ad, I, J, PM ad) (fun r u1 => u1 = (shM, ad, I, J, PM ad) ∧ ((0 ≤ a1.toInt ∧ r.toInt = a1.toInt) ∨ (a1.toInt < 0 ∧ r.toInt = -a1.toInt))) 0 0 := by
  intro sz
  refine z_headQ (cc := cX12_abs) (maxL := 1) (ret := (some .int)) (by decide) rfl (Nat.le_of_ble_eq_true rfl) ?_
  intro p e s m below meth c0 ls hIn hK hsz hW hl
  obtain ⟨hx, hb, hr, hml, hown, hts, hlocks, hname⟩ := hIn
  subst hsz
  have hown : s.vm.findClass RX12 = some m.cls := hown
  have hA : ∀ q : Nat, s.heap.size ≤ q → z_A (shM, ad, I, J, PM ad) s.heap.size q := fun q h => Or.inr h
  generalize hAe : z_A (shM, ad, I, J, PM ad) s.heap.size = A at *
  have hS : va_S A s.heap s.heap [] := va_S.rf
  have hl : lv_has ls 1 [(0, .int a1)] := hl
  refine lv_iload_n hx hb dX12_abs_0 rfl (lv_at hl 0 rfl) ?_
  refine lv_if_ge (tgt := 9) hx hb dX12_abs_1 (by decide) (fun c1 => ?_) (fun c1 => ?_)
  · have g2 := z_f_ge rfl z_l0 c1
    refine lv_iload_n hx hb dX12_abs_9 rfl (lv_at hl 0 rfl) ?_
    exact z_iret hx hb hr hK hS (Nat.le_of_ble_eq_true rfl) (Nat.le_of_ble_eq_true rfl) hlocks dX12_abs_10 (shM, ad, I, J, PM ad) hW ⟨rfl, (by first | exact Or.inl ⟨by omega, by omega⟩ | exact Or.inr ⟨by omega, by omega⟩)⟩
  · have g3 := z_f_nge rfl z_l0 c1
    refine lv_iload_n hx hb dX12_abs_4 rfl (lv_at hl 0 rfl) ?_
    refine lv_ineg hx hb dX12_abs_5 ?_
    refine lv_topi (fun x4 ex4 => ?_)
    have tx4 : x4.toInt = -a1.toInt := z_tneg ex4 rfl (by omega)
    refine lv_goto (tgt := 10) hx hb dX12_abs_6 (by decide) ?_
    exact z_iret hx hb hr hK hS (Nat.le_of_ble_eq_true rfl) (Nat.le_of_ble_eq_true rfl) hlocks dX12_abs_10 (shM, ad, I, J, PM ad) hW ⟨rfl, (by first | exact Or.inl ⟨by omega, by omega⟩ | exact Or.inr ⟨by omega, by omega⟩)⟩
set_option maxHeartbeats 8000000 in
set_option maxRecDepth 100000 in
theorem sx_X12_isLike_g (l : Launch) (G : z_G) (ad : Nat → Nat) (I : z_I) (J : z_J) (hma : z_ima I) (hmj : z_imj I) (a1 : Int32) (a2 : Int32) (q1 : 0 ≤ a1.toInt ∧ a1.toInt ≤ 59) (q2 : 0 ≤ a2.toInt ∧ a2.toInt ≤ 59) (q3 : a1.toInt < (I 0 83).toInt ∧ a2.toInt < (I 0 83).toInt) (hM : ∀ j : Nat, (j : Int) < (I 0 83).toInt → 0 ≤ (I 60 j).toInt ∧ (I 60 j).toInt ≤ 500) : z_M l yX12_isLike wsX12_isLike { frames := 2, cells := 0, slots := 0, locals := 37 } [.ref (ad 0), .int a1, .int a2] G (shM, ad, I, J, PM ad) (fun r u1 => u1 = (shM, ad, I, J, PM ad) ∧ ((r = 1 ∧ zn_lm I (I 0 0).toInt a1.toNatClampNeg a2.toNatClampNeg) ∨ (r = 0 ∧ ¬ zn_lm I (I 0 0).toInt a1.toNatClampNeg a2.toNatClampNeg))) 0 0 := by
  intro sz
  refine z_headQ (cc := cX12_isLike) (maxL := 3) (ret := (some .boolean)) (by decide) rfl (Nat.le_of_ble_eq_true rfl) ?_
  intro p e s m below meth c0 ls hIn hK hsz hW hl
  obtain ⟨hx, hb, hr, hml, hown, hts, hlocks, hname⟩ := hIn
  subst hsz
  have hown : s.vm.findClass RX12 = some m.cls := hown
  have hA : ∀ q : Nat, s.heap.size ≤ q → z_A (shM, ad, I, J, PM ad) s.heap.size q := fun q h => Or.inr h
  generalize hAe : z_A (shM, ad, I, J, PM ad) s.heap.size = A at *
  have hS : va_S A s.heap s.heap [] := va_S.rf
  have hl : lv_has ls 3 [(0, .ref (ad 0)), (1, .int a1), (2, .int a2)] := hl
  refine lv_iload_n hx hb dX12_isLike_0 rfl (lv_at hl 2 rfl) ?_
  have o9 := z_clt (x := a1) rfl (by omega)
  have j9 := z_clt (x := a2) rfl (by omega)
  have m9 := hM a1.toNatClampNeg (by omega)
  have m8 := hM a2.toNatClampNeg (by omega)
  refine lv_iload_n hx hb dX12_isLike_1 rfl (lv_at hl 1 rfl) ?_
  refine lv_icmp_eq (tgt := 78) hx hb dX12_isLike_2 (by decide) (fun c1 => ?_) (fun c1 => ?_)
  · have g2 := z_f_eq rfl rfl c1
    refine lv_iconst (v := 0) hx hb dX12_isLike_78 (by decide) ?_
    exact z_zret hx hb hr (by decide) hK hS (Nat.le_of_ble_eq_true rfl) (Nat.le_of_ble_eq_true rfl) hlocks dX12_isLike_79 (shM, ad, I, J, PM ad) hW ⟨rfl, (Or.inr ⟨rfl, fun ⟨p1, p2, p3, p4, p5, p6⟩ => by omega⟩)⟩
  · have g3 := z_f_ne rfl rfl c1
    refine lv_aload_n hx hb dX12_isLike_5 rfl (lv_at hl 0 rfl) ?_
    refine z_get (T := TX12) (N := 96) (ci := 12) (i := 0) (v := .ref (ad 62)) hx hb hts zj_X12_isLike_X12 hown hK hW rfl rfl 87 (by decide) (hts (.fieldLink RX12 202 "PetrolBoardModel" "jReason" "[I") (me_s (me_l (List.mem_of_getElem? (i := 0) rfl)))) (fun _ h => h) rfl dX12_isLike_6 ?_
    refine lv_iload_n hx hb dX12_isLike_9 rfl (lv_at hl 2 rfl) ?_
    refine z_iald (i := 62) hx hb hK hW rfl (z_ix rfl (by omega) (by omega)) dX12_isLike_10 ?_
    refine lv_topi (fun x4 ex4 => ?_)
    have hr5 : (I 62 a2.toNatClampNeg) = x4 := ex4.symm
    have hv6 : (I 62 a2.toNatClampNeg).toInt = x4.toInt := congrArg Int32.toInt hr5
    refine lv_aload_n hx hb dX12_isLike_11 rfl (lv_at hl 0 rfl) ?_
    refine z_get (T := TX12) (N := 96) (ci := 12) (i := 0) (v := .ref (ad 62)) hx hb hts zj_X12_isLike_X12 hown hK hW rfl rfl 87 (by decide) (hts (.fieldLink RX12 202 "PetrolBoardModel" "jReason" "[I") (me_s (me_l (List.mem_of_getElem? (i := 0) rfl)))) (fun _ h => h) rfl dX12_isLike_12 ?_
    refine lv_iload_n hx hb dX12_isLike_15 rfl (lv_at hl 1 rfl) ?_
    refine z_iald (i := 62) hx hb hK hW rfl (z_ix rfl (by omega) (by omega)) dX12_isLike_16 ?_
    refine lv_topi (fun x7 ex7 => ?_)
    have hr8 : (I 62 a1.toNatClampNeg) = x7 := ex7.symm
    have hv9 : (I 62 a1.toNatClampNeg).toInt = x7.toInt := congrArg Int32.toInt hr8
    refine lv_icmp_ne (tgt := 78) hx hb dX12_isLike_17 (by decide) (fun c10 => ?_) (fun c10 => ?_)
    · have g11 := z_f_ne rfl rfl c10
      have b12 := Int32.toInt_lt x4
      have b13 := Int32.toInt_lt x7
      refine lv_iconst (v := 0) hx hb dX12_isLike_78 (by decide) ?_
      exact z_zret hx hb hr (by decide) hK hS (Nat.le_of_ble_eq_true rfl) (Nat.le_of_ble_eq_true rfl) hlocks dX12_isLike_79 (shM, ad, I, J, PM ad) hW ⟨rfl, (Or.inr ⟨rfl, fun ⟨p1, p2, p3, p4, p5, p6⟩ => by omega⟩)⟩
    · have g14 := z_f_eq rfl rfl c10
      have b15 := Int32.toInt_lt x4
      have b16 := Int32.toInt_lt x7
      refine lv_aload_n hx hb dX12_isLike_20 rfl (lv_at hl 0 rfl) ?_
      refine z_get (T := TX12) (N := 96) (ci := 12) (i := 0) (v := .ref (ad 61)) hx hb hts zj_X12_isLike_X12 hown hK hW rfl rfl 86 (by decide) (hts (.fieldLink RX12 199 "PetrolBoardModel" "jPeople" "[I") (me_s (me_l (List.mem_of_getElem? (i := 1) rfl)))) (fun _ h => h) rfl dX12_isLike_21 ?_
      refine lv_iload_n hx hb dX12_isLike_24 rfl (lv_at hl 2 rfl) ?_
      refine z_iald (i := 61) hx hb hK hW rfl (z_ix rfl (by omega) (by omega)) dX12_isLike_25 ?_
      refine lv_topi (fun x17 ex17 => ?_)
      have hr18 : (I 61 a2.toNatClampNeg) = x17 := ex17.symm
      have hv19 : (I 61 a2.toNatClampNeg).toInt = x17.toInt := congrArg Int32.toInt hr18
      refine lv_aload_n hx hb dX12_isLike_26 rfl (lv_at hl 0 rfl) ?_
      refine z_get (T := TX12) (N := 96) (ci := 12) (i := 0) (v := .ref (ad 61)) hx hb hts zj_X12_isLike_X12 hown hK hW rfl rfl 86 (by decide) (hts (.fieldLink RX12 199 "PetrolBoardModel" "jPeople" "[I") (me_s (me_l (List.mem_of_getElem? (i := 1) rfl)))) (fun _ h => h) rfl dX12_isLike_27 ?_
      refine lv_iload_n hx hb dX12_isLike_30 rfl (lv_at hl 1 rfl) ?_
      refine z_iald (i := 61) hx hb hK hW rfl (z_ix rfl (by omega) (by omega)) dX12_isLike_31 ?_
      refine lv_topi (fun x20 ex20 => ?_)
      have hr21 : (I 61 a1.toNatClampNeg) = x20 := ex20.symm
      have hv22 : (I 61 a1.toNatClampNeg).toInt = x20.toInt := congrArg Int32.toInt hr21
      refine lv_icmp_ne (tgt := 78) hx hb dX12_isLike_32 (by decide) (fun c23 => ?_) (fun c23 => ?_)
      · have g24 := z_f_ne rfl rfl c23
        have b25 := Int32.toInt_lt x17
        have b26 := Int32.toInt_lt x20
        refine lv_iconst (v := 0) hx hb dX12_isLike_78 (by decide) ?_
        exact z_zret hx hb hr (by decide) hK hS (Nat.le_of_ble_eq_true rfl) (Nat.le_of_ble_eq_true rfl) hlocks dX12_isLike_79 (shM, ad, I, J, PM ad) hW ⟨rfl, (Or.inr ⟨rfl, fun ⟨p1, p2, p3, p4, p5, p6⟩ => by omega⟩)⟩
      · have g27 := z_f_eq rfl rfl c23
        have b28 := Int32.toInt_lt x17
        have b29 := Int32.toInt_lt x20
        refine lv_aload_n hx hb dX12_isLike_35 rfl (lv_at hl 0 rfl) ?_
        refine z_get (T := TX12) (N := 96) (ci := 12) (i := 0) (v := .ref (ad 60)) hx hb hts zj_X12_isLike_X12 hown hK hW rfl rfl 85 (by decide) (hts (.fieldLink RX12 196 "PetrolBoardModel" "jMiles" "[I") (me_s (me_l (List.mem_of_getElem? (i := 2) rfl)))) (fun _ h => h) rfl dX12_isLike_36 ?_
        refine lv_iload_n hx hb dX12_isLike_39 rfl (lv_at hl 2 rfl) ?_
        refine z_iald (i := 60) hx hb hK hW rfl (z_ix rfl (by omega) (by omega)) dX12_isLike_40 ?_
        refine lv_topi (fun x30 ex30 => ?_)
        have hr31 : (I 60 a2.toNatClampNeg) = x30 := ex30.symm
        have hv32 : (I 60 a2.toNatClampNeg).toInt = x30.toInt := congrArg Int32.toInt hr31
        refine lv_aload_n hx hb dX12_isLike_41 rfl (lv_at hl 0 rfl) ?_
        refine z_get (T := TX12) (N := 96) (ci := 12) (i := 0) (v := .ref (ad 60)) hx hb hts zj_X12_isLike_X12 hown hK hW rfl rfl 85 (by decide) (hts (.fieldLink RX12 196 "PetrolBoardModel" "jMiles" "[I") (me_s (me_l (List.mem_of_getElem? (i := 2) rfl)))) (fun _ h => h) rfl dX12_isLike_42 ?_
        refine lv_iload_n hx hb dX12_isLike_45 rfl (lv_at hl 1 rfl) ?_
        refine z_iald (i := 60) hx hb hK hW rfl (z_ix rfl (by omega) (by omega)) dX12_isLike_46 ?_
        refine lv_topi (fun x33 ex33 => ?_)
        have hr34 : (I 60 a1.toNatClampNeg) = x33 := ex33.symm
        have hv35 : (I 60 a1.toNatClampNeg).toInt = x33.toInt := congrArg Int32.toInt hr34
        refine lv_isub hx hb dX12_isLike_47 ?_
        refine lv_topi (fun x36 ex36 => ?_)
        have tx36 : x36.toInt = x30.toInt - x33.toInt := z_tsub ex36 rfl rfl (by omega) (by omega)
        refine z_ci hW hS hA (va_runS (As := [.int x36]) (rest := []) ⟨hx, hb, hml, hown, hts⟩ (sx_X12_abs_g l G ad I J x36 (by omega) _) (va_cwS 1 hts gX12_isLike_X12_abs rfl rfl rfl (by decide +kernel) ⟨Nat.le_of_ble_eq_true rfl, Nat.le_of_ble_eq_true rfl⟩) (z_preS hK hW) rfl rfl hl.1 rfl (lv_room (Nat.le_of_ble_eq_true rfl)) dX12_isLike_48 ⟨Nat.le_of_ble_eq_true rfl, Nat.le_of_ble_eq_true rfl⟩) (fun r u1 H locs hp hW hS => ?_)
        obtain ⟨e9, hp⟩ := hp
        rw [e9] at hW
        refine lv_topi (fun x37 ex37 => ?_)
        rw [← ex37] at hp
        have hP38 := hp
        refine lv_aload_n hx hb dX12_isLike_51 rfl (lv_at hl 0 rfl) ?_
        refine z_get (T := TX12) (N := 96) (ci := 12) (i := 0) (v := .ref (ad 60)) hx hb hts zj_X12_isLike_X12 hown hK hW rfl rfl 85 (by decide) (hts (.fieldLink RX12 196 "PetrolBoardModel" "jMiles" "[I") (me_s (me_l (List.mem_of_getElem? (i := 2) rfl)))) (fun _ h => h) rfl dX12_isLike_52 ?_
        refine lv_iload_n hx hb dX12_isLike_55 rfl (lv_at hl 1 rfl) ?_
        refine z_iald (i := 60) hx hb hK hW rfl (z_ix rfl (by omega) (by omega)) dX12_isLike_56 ?_
        refine z_topi (v := x33) ex33.symm ?_
        refine lv_bipush (v := 10) hx hb dX12_isLike_57 (by decide) ?_
        refine lv_idiv hx hb dX12_isLike_59 (by decide) ?_
        refine lv_topi (fun x39 ex39 => ?_)
        have tx39 := z_tdiv ex39 rfl z_l10 (by decide)
        refine lv_icmp_gt (tgt := 78) hx hb dX12_isLike_60 (by decide) (fun c40 => ?_) (fun c40 => ?_)
        · have g41 := z_f_gt rfl rfl c40
          have b42 := Int32.toInt_lt x37
          refine lv_iconst (v := 0) hx hb dX12_isLike_78 (by decide) ?_
          exact z_zret hx hb hr (by decide) hK hS (Nat.le_of_ble_eq_true rfl) (Nat.le_of_ble_eq_true rfl) hlocks dX12_isLike_79 (shM, ad, I, J, PM ad) hW ⟨rfl, (Or.inr ⟨rfl, fun ⟨p1, p2, p3, p4, p5, p6⟩ => by omega⟩)⟩
        · have g43 := z_f_ngt rfl rfl c40
          have b44 := Int32.toInt_lt x37
          refine lv_aload_n hx hb dX12_isLike_63 rfl (lv_at hl 0 rfl) ?_
          refine z_get (T := TX12) (N := 96) (ci := 12) (i := 0) (v := .ref (ad 66)) hx hb hts zj_X12_isLike_X12 hown hK hW rfl rfl 91 (by decide) (hts (.fieldLink RX12 214 "PetrolBoardModel" "jGranted" "[I") (me_s (me_l (List.mem_of_getElem? (i := 3) rfl)))) (fun _ h => h) rfl dX12_isLike_64 ?_
          refine lv_iload_n hx hb dX12_isLike_67 rfl (lv_at hl 2 rfl) ?_
          refine z_iald (i := 66) hx hb hK hW rfl (z_ix rfl (by omega) (by omega)) dX12_isLike_68 ?_
          refine lv_topi (fun x45 ex45 => ?_)
          have hr46 : (I 66 a2.toNatClampNeg) = x45 := ex45.symm
          have hv47 : (I 66 a2.toNatClampNeg).toInt = x45.toInt := congrArg Int32.toInt hr46
          refine lv_aload_n hx hb dX12_isLike_69 rfl (lv_at hl 0 rfl) ?_
          refine z_get (T := TX12) (N := 96) (ci := 12) (i := 0) (v := .ref (ad 66)) hx hb hts zj_X12_isLike_X12 hown hK hW rfl rfl 91 (by decide) (hts (.fieldLink RX12 214 "PetrolBoardModel" "jGranted" "[I") (me_s (me_l (List.mem_of_getElem? (i := 3) rfl)))) (fun _ h => h) rfl dX12_isLike_70 ?_
          refine lv_iload_n hx hb dX12_isLike_73 rfl (lv_at hl 1 rfl) ?_
          refine z_iald (i := 66) hx hb hK hW rfl (z_ix rfl (by omega) (by omega)) dX12_isLike_74 ?_
          refine lv_topi (fun x48 ex48 => ?_)
          have hr49 : (I 66 a1.toNatClampNeg) = x48 := ex48.symm
          have hv50 : (I 66 a1.toNatClampNeg).toInt = x48.toInt := congrArg Int32.toInt hr49
          refine lv_icmp_ne (tgt := 80) hx hb dX12_isLike_75 (by decide) (fun c51 => ?_) (fun c51 => ?_)
          · have g52 := z_f_ne rfl rfl c51
            have b53 := Int32.toInt_lt x45
            have b54 := Int32.toInt_lt x48
            refine lv_aload_n hx hb dX12_isLike_80 rfl (lv_at hl 0 rfl) ?_
            refine lv_aload_n hx hb dX12_isLike_81 rfl (lv_at hl 0 rfl) ?_
            refine z_get (T := TX12) (N := 96) (ci := 12) (i := 0) (v := .ref (ad 59)) hx hb hts zj_X12_isLike_X12 hown hK hW rfl rfl 84 (by decide) (hts (.fieldLink RX12 193 "PetrolBoardModel" "jWho" "[I") (me_s (me_l (List.mem_of_getElem? (i := 4) rfl)))) (fun _ h => h) rfl dX12_isLike_82 ?_
            refine lv_iload_n hx hb dX12_isLike_85 rfl (lv_at hl 2 rfl) ?_
            refine z_iald (i := 59) hx hb hK hW rfl (z_ix rfl (by omega) (by omega)) dX12_isLike_86 ?_
            refine lv_topi (fun x55 ex55 => ?_)
            have hr56 : (I 59 a2.toNatClampNeg) = x55 := ex55.symm
            have hv57 : (I 59 a2.toNatClampNeg).toInt = x55.toInt := congrArg Int32.toInt hr56
            refine lv_aload_n hx hb dX12_isLike_87 rfl (lv_at hl 0 rfl) ?_
            refine z_get (T := TX12) (N := 96) (ci := 12) (i := 0) (v := .ref (ad 63)) hx hb hts zj_X12_isLike_X12 hown hK hW rfl rfl 88 (by decide) (hts (.fieldLink RX12 205 "PetrolBoardModel" "jDay" "[I") (me_s (me_l (List.mem_of_getElem? (i := 5) rfl)))) (fun _ h => h) rfl dX12_isLike_88 ?_
            refine lv_iload_n hx hb dX12_isLike_91 rfl (lv_at hl 2 rfl) ?_
            refine z_iald (i := 63) hx hb hK hW rfl (z_ix rfl (by omega) (by omega)) dX12_isLike_92 ?_
            refine lv_topi (fun x58 ex58 => ?_)
            have hr59 : (I 63 a2.toNatClampNeg) = x58 := ex58.symm
            have hv60 : (I 63 a2.toNatClampNeg).toInt = x58.toInt := congrArg Int32.toInt hr59
            refine lv_aload_n hx hb dX12_isLike_93 rfl (lv_at hl 0 rfl) ?_
            have r61 : 0 ≤ (I 0 0).toInt ∧ (I 0 0).toInt ≤ 719 := hma.1
            refine z_get (T := TX12) (N := 96) (ci := 12) (i := 0) (v := .int (I 0 0)) hx hb hts zj_X12_isLike_X12 hown hK hW rfl rfl 0 (by decide) (hts (.fieldLink RX12 232 "PetrolBoardModel" "today" "I") (me_s (me_l (List.mem_of_getElem? (i := 6) rfl)))) (fun _ h => h) rfl dX12_isLike_94 ?_
            refine z_ci hW hS hA (va_runV (As := [.int x55, .int x58, .int (I 0 0)]) (rest := []) ⟨hx, hb, hml, hown, hts⟩ (sx_X12_kindOn_r l G ad I J ⟨(by show 0 ≤ (I 0 0).toInt ∧ (I 0 0).toInt ≤ 719; exact hma.1), (by show 0 ≤ (I 0 1).toInt ∧ (I 0 1).toInt ≤ 30; exact hma.2.1), (by show 0 ≤ (I 0 2).toInt ∧ (I 0 2).toInt ≤ 200; exact hma.2.2)⟩ x55 x58 (I 0 0) _) (cwV 3 hts gX12_isLike_X12_kindOn rfl rfl rfl (by decide +kernel) ⟨Nat.le_of_ble_eq_true rfl, Nat.le_of_ble_eq_true rfl⟩) (z_preV (i := 0) hK hW rfl rfl) rfl rfl hl.1 rfl (lv_room (Nat.le_of_ble_eq_true rfl)) dX12_isLike_97 ⟨Nat.le_of_ble_eq_true rfl, Nat.le_of_ble_eq_true rfl⟩) (fun r u1 H locs hp hW hS => ?_)
            obtain ⟨e9, hp⟩ := hp
            rw [e9] at hW
            refine lv_topi (fun x62 ex62 => ?_)
            have h63 := hp
            rw [← ex62] at h63
            refine lv_aload_n hx hb dX12_isLike_100 rfl (lv_at hl 0 rfl) ?_
            refine lv_aload_n hx hb dX12_isLike_101 rfl (lv_at hl 0 rfl) ?_
            refine z_get (T := TX12) (N := 96) (ci := 12) (i := 0) (v := .ref (ad 59)) hx hb hts zj_X12_isLike_X12 hown hK hW rfl rfl 84 (by decide) (hts (.fieldLink RX12 193 "PetrolBoardModel" "jWho" "[I") (me_s (me_l (List.mem_of_getElem? (i := 4) rfl)))) (fun _ h => h) rfl dX12_isLike_102 ?_
            refine lv_iload_n hx hb dX12_isLike_105 rfl (lv_at hl 1 rfl) ?_
            refine z_iald (i := 59) hx hb hK hW rfl (z_ix rfl (by omega) (by omega)) dX12_isLike_106 ?_
            refine lv_topi (fun x64 ex64 => ?_)
            have hr65 : (I 59 a1.toNatClampNeg) = x64 := ex64.symm
            have hv66 : (I 59 a1.toNatClampNeg).toInt = x64.toInt := congrArg Int32.toInt hr65
            refine lv_aload_n hx hb dX12_isLike_107 rfl (lv_at hl 0 rfl) ?_
            refine z_get (T := TX12) (N := 96) (ci := 12) (i := 0) (v := .ref (ad 63)) hx hb hts zj_X12_isLike_X12 hown hK hW rfl rfl 88 (by decide) (hts (.fieldLink RX12 205 "PetrolBoardModel" "jDay" "[I") (me_s (me_l (List.mem_of_getElem? (i := 5) rfl)))) (fun _ h => h) rfl dX12_isLike_108 ?_
            refine lv_iload_n hx hb dX12_isLike_111 rfl (lv_at hl 1 rfl) ?_
            refine z_iald (i := 63) hx hb hK hW rfl (z_ix rfl (by omega) (by omega)) dX12_isLike_112 ?_
            refine lv_topi (fun x67 ex67 => ?_)
            have hr68 : (I 63 a1.toNatClampNeg) = x67 := ex67.symm
            have hv69 : (I 63 a1.toNatClampNeg).toInt = x67.toInt := congrArg Int32.toInt hr68
            refine lv_aload_n hx hb dX12_isLike_113 rfl (lv_at hl 0 rfl) ?_
            refine z_get (T := TX12) (N := 96) (ci := 12) (i := 0) (v := .int (I 0 0)) hx hb hts zj_X12_isLike_X12 hown hK hW rfl rfl 0 (by decide) (hts (.fieldLink RX12 232 "PetrolBoardModel" "today" "I") (me_s (me_l (List.mem_of_getElem? (i := 6) rfl)))) (fun _ h => h) rfl dX12_isLike_114 ?_
            refine z_ci hW hS hA (va_runV (As := [.int x64, .int x67, .int (I 0 0)]) (rest := [.int x62]) ⟨hx, hb, hml, hown, hts⟩ (sx_X12_kindOn_r l G ad I J ⟨(by show 0 ≤ (I 0 0).toInt ∧ (I 0 0).toInt ≤ 719; exact hma.1), (by show 0 ≤ (I 0 1).toInt ∧ (I 0 1).toInt ≤ 30; exact hma.2.1), (by show 0 ≤ (I 0 2).toInt ∧ (I 0 2).toInt ≤ 200; exact hma.2.2)⟩ x64 x67 (I 0 0) _) (cwV 3 hts gX12_isLike_X12_kindOn rfl rfl rfl (by decide +kernel) ⟨Nat.le_of_ble_eq_true rfl, Nat.le_of_ble_eq_true rfl⟩) (z_preV (i := 0) hK hW rfl rfl) rfl rfl hl.1 rfl (lv_room (Nat.le_of_ble_eq_true rfl)) dX12_isLike_117 ⟨Nat.le_of_ble_eq_true rfl, Nat.le_of_ble_eq_true rfl⟩) (fun r u1 H locs hp hW hS => ?_)
            obtain ⟨e9, hp⟩ := hp
            rw [e9] at hW
            refine lv_topi (fun x70 ex70 => ?_)
            have h71 := hp
            rw [← ex70] at h71
            refine lv_icmp_ne (tgt := 127) hx hb dX12_isLike_120 (by decide) (fun c72 => ?_) (fun c72 => ?_)
            · have g73 := z_f_ne rfl rfl c72
              have b74 := Int32.toInt_lt x62
              have b75 := Int32.toInt_lt x70
              refine lv_iconst (v := 0) hx hb dX12_isLike_127 (by decide) ?_
              exact z_zret hx hb hr (by decide) hK hS (Nat.le_of_ble_eq_true rfl) (Nat.le_of_ble_eq_true rfl) hlocks dX12_isLike_128 (shM, ad, I, J, PM ad) hW ⟨rfl, (Or.inr ⟨rfl, (by have k1 : z_kmr I (I 59 a2.toNatClampNeg).toInt (I 63 a2.toNatClampNeg).toInt (I 0 0).toInt (I 0 2).toNatClampNeg = x62.toInt := (by rw [hr56, hr59]; exact h63.symm); have k2 : z_kmr I (I 59 a1.toNatClampNeg).toInt (I 63 a1.toNatClampNeg).toInt (I 0 0).toInt (I 0 2).toNatClampNeg = x70.toInt := (by rw [hr65, hr68]; exact h71.symm); exact fun ⟨p1, p2, p3, p4, p5, p6⟩ => by omega)⟩)⟩
            · have g76 := z_f_eq rfl rfl c72
              have b77 := Int32.toInt_lt x62
              have b78 := Int32.toInt_lt x70
              refine lv_iconst (v := 1) hx hb dX12_isLike_123 (by decide) ?_
              refine lv_goto (tgt := 128) hx hb dX12_isLike_124 (by decide) ?_
              exact z_zret hx hb hr (by decide) hK hS (Nat.le_of_ble_eq_true rfl) (Nat.le_of_ble_eq_true rfl) hlocks dX12_isLike_128 (shM, ad, I, J, PM ad) hW ⟨rfl, (Or.inl ⟨rfl, (by have k1 : z_kmr I (I 59 a2.toNatClampNeg).toInt (I 63 a2.toNatClampNeg).toInt (I 0 0).toInt (I 0 2).toNatClampNeg = x62.toInt := (by rw [hr56, hr59]; exact h63.symm); have k2 : z_kmr I (I 59 a1.toNatClampNeg).toInt (I 63 a1.toNatClampNeg).toInt (I 0 0).toInt (I 0 2).toNatClampNeg = x70.toInt := (by rw [hr65, hr68]; exact h71.symm); exact ⟨by omega, by omega, by omega, by omega, by omega, by omega⟩)⟩)⟩
          · have g79 := z_f_eq rfl rfl c51
            have b80 := Int32.toInt_lt x45
            have b81 := Int32.toInt_lt x48
            refine lv_iconst (v := 0) hx hb dX12_isLike_78 (by decide) ?_
            exact z_zret hx hb hr (by decide) hK hS (Nat.le_of_ble_eq_true rfl) (Nat.le_of_ble_eq_true rfl) hlocks dX12_isLike_79 (shM, ad, I, J, PM ad) hW ⟨rfl, (Or.inr ⟨rfl, fun ⟨p1, p2, p3, p4, p5, p6⟩ => by omega⟩)⟩
set_option maxHeartbeats 8000000 in
set_option maxRecDepth 100000 in
theorem sx_X12_journey_g (l : Launch) (G : z_G) (ad : Nat → Nat) (I : z_I) (J : z_J) (hma : z_ima I) (hmj : z_imj I) (a1 : Int32) (a2 : Int32) (hM : ∀ j : Nat, (j : Int) < (I 0 83).toInt → 0 ≤ (I 60 j).toInt ∧ (I 60 j).toInt ≤ 500) : z_M l yX12_journey wsX12_journey { frames := 3, cells := 0, slots := 0, locals := 59 } [.ref (ad 0), .int a1, .int a2] G (shM, ad, I, J, PM ad) (fun r u1 => u1 = (shM, ad, I, J, PM ad) ∧ ((¬ (0 ≤ a1.toInt ∧ a1.toInt < (I 0 83).toInt) ∧ r.toInt = -1) ∨ ((0 ≤ a1.toInt ∧ a1.toInt < (I 0 83).toInt) ∧ ((100 ≤ a2.toInt ∧ r.toInt = zn_nt (zn_lm I (I 0 0).toInt a1.toNatClampNeg) (a2.toInt - 100) (I 0 83).toNatClampNeg) ∨ (¬ 100 ≤ a2.toInt ∧ zn_t (zn_tm I a1.toNatClampNeg) a2.toInt r.toInt))))) 0 0 := by
  intro sz
  refine z_headQ (cc := cX12_journey) (maxL := 5) (ret := (some .int)) (by decide) rfl (Nat.le_of_ble_eq_true rfl) ?_
  intro p e s m below meth c0 ls hIn hK hsz hW hl
  obtain ⟨hx, hb, hr, hml, hown, hts, hlocks, hname⟩ := hIn
  subst hsz
  have hown : s.vm.findClass RX12 = some m.cls := hown
  have hA : ∀ q : Nat, s.heap.size ≤ q → z_A (shM, ad, I, J, PM ad) s.heap.size q := fun q h => Or.inr h
  generalize hAe : z_A (shM, ad, I, J, PM ad) s.heap.size = A at *
  have hS : va_S A s.heap s.heap [] := va_S.rf
  have hl : lv_has ls 5 [(0, .ref (ad 0)), (1, .int a1), (2, .int a2)] := hl
  refine lv_iload_n hx hb dX12_journey_0 rfl (lv_at hl 1 rfl) ?_
  refine lv_if_lt (tgt := 12) hx hb dX12_journey_1 (by decide) (fun c1 => ?_) (fun c1 => ?_)
  · have g2 := z_f_lt rfl z_l0 c1
    have b3 := Int32.toInt_lt a1
    refine lv_iconst (v := (-1)) hx hb dX12_journey_12 (by decide) ?_
    exact z_iret hx hb hr hK hS (Nat.le_of_ble_eq_true rfl) (Nat.le_of_ble_eq_true rfl) hlocks dX12_journey_13 (shM, ad, I, J, PM ad) hW ⟨rfl, (by first | exact Or.inl ⟨by omega, by decide⟩ | exact Or.inr ⟨by omega, Or.inr ⟨by omega, Or.inr ⟨by omega, by decide⟩⟩⟩)⟩
  · have g4 := z_f_nlt rfl z_l0 c1
    have b5 := Int32.toInt_lt a1
    refine lv_iload_n hx hb dX12_journey_4 rfl (lv_at hl 1 rfl) ?_
    refine lv_aload_n hx hb dX12_journey_5 rfl (lv_at hl 0 rfl) ?_
    have r6 : 0 ≤ (I 0 83).toInt ∧ (I 0 83).toInt ≤ 60 := hmj
    refine z_get (T := TX12) (N := 96) (ci := 12) (i := 0) (v := .int (I 0 83)) hx hb hts zj_X12_journey_X12 hown hK hW rfl rfl 83 (by decide) (hts (.fieldLink RX12 505 "PetrolBoardModel" "journeys" "I") (me_s (me_l (me_l (List.mem_of_getElem? (i := 0) rfl))))) (fun _ h => h) rfl dX12_journey_6 ?_
    refine lv_icmp_lt (tgt := 14) hx hb dX12_journey_9 (by decide) (fun c7 => ?_) (fun c7 => ?_)
    · have g8 := z_f_lt rfl rfl c7
      refine lv_iload_n hx hb dX12_journey_14 rfl (lv_at hl 2 rfl) ?_
      refine lv_bipush (v := 100) hx hb dX12_journey_15 (by decide) ?_
      refine lv_icmp_lt (tgt := 69) hx hb dX12_journey_17 (by decide) (fun c9 => ?_) (fun c9 => ?_)
      · have g10 := z_f_lt rfl z_l100 c9
        have b11 := Int32.toInt_lt a2
        refine lv_iload_n hx hb dX12_journey_69 rfl (lv_at hl 2 rfl) ?_
        by_cases q12 : a2 = 0
        · refine lv_tableIn (tgt := 116) hx hb dX12_journey_70 (by rw [q12]; decide) (by rw [q12]; decide) (by rw [q12]; rfl) (by decide) ?_
          refine lv_aload_n hx hb dX12_journey_116 rfl (lv_at hl 0 rfl) ?_
          refine z_get (T := TX12) (N := 96) (ci := 12) (i := 0) (v := .ref (ad 59)) hx hb hts zj_X12_journey_X12 hown hK hW rfl rfl 84 (by decide) (hts (.fieldLink RX12 193 "PetrolBoardModel" "jWho" "[I") (me_s (me_l (me_l (List.mem_of_getElem? (i := 1) rfl))))) (fun _ h => h) rfl dX12_journey_117 ?_
          refine lv_iload_n hx hb dX12_journey_120 rfl (lv_at hl 1 rfl) ?_
          refine z_iald (i := 59) hx hb hK hW rfl (z_ix rfl (by omega) (by omega)) dX12_journey_121 ?_
          refine lv_topi (fun x13 ex13 => ?_)
          exact z_iret hx hb hr hK hS (Nat.le_of_ble_eq_true rfl) (Nat.le_of_ble_eq_true rfl) hlocks dX12_journey_122 (shM, ad, I, J, PM ad) hW ⟨rfl, (Or.inr ⟨by omega, Or.inr ⟨by omega, zn_t_i (k := 0) (show a2.toInt = 0 by rw [‹a2 = 0›]; decide) (by decide) (by rw [ex13]; rfl)⟩⟩)⟩
        by_cases q14 : a2 = 1
        · refine lv_tableIn (tgt := 123) hx hb dX12_journey_70 (by rw [q14]; decide) (by rw [q14]; decide) (by rw [q14]; rfl) (by decide) ?_
          refine lv_aload_n hx hb dX12_journey_123 rfl (lv_at hl 0 rfl) ?_
          refine z_get (T := TX12) (N := 96) (ci := 12) (i := 0) (v := .ref (ad 60)) hx hb hts zj_X12_journey_X12 hown hK hW rfl rfl 85 (by decide) (hts (.fieldLink RX12 196 "PetrolBoardModel" "jMiles" "[I") (me_s (me_l (me_l (List.mem_of_getElem? (i := 2) rfl))))) (fun _ h => h) rfl dX12_journey_124 ?_
          refine lv_iload_n hx hb dX12_journey_127 rfl (lv_at hl 1 rfl) ?_
          refine z_iald (i := 60) hx hb hK hW rfl (z_ix rfl (by omega) (by omega)) dX12_journey_128 ?_
          refine lv_topi (fun x15 ex15 => ?_)
          exact z_iret hx hb hr hK hS (Nat.le_of_ble_eq_true rfl) (Nat.le_of_ble_eq_true rfl) hlocks dX12_journey_129 (shM, ad, I, J, PM ad) hW ⟨rfl, (Or.inr ⟨by omega, Or.inr ⟨by omega, zn_t_i (k := 1) (show a2.toInt = 1 by rw [‹a2 = 1›]; decide) (by decide) (by rw [ex15]; rfl)⟩⟩)⟩
        by_cases q16 : a2 = 2
        · refine lv_tableIn (tgt := 130) hx hb dX12_journey_70 (by rw [q16]; decide) (by rw [q16]; decide) (by rw [q16]; rfl) (by decide) ?_
          refine lv_aload_n hx hb dX12_journey_130 rfl (lv_at hl 0 rfl) ?_
          refine z_get (T := TX12) (N := 96) (ci := 12) (i := 0) (v := .ref (ad 61)) hx hb hts zj_X12_journey_X12 hown hK hW rfl rfl 86 (by decide) (hts (.fieldLink RX12 199 "PetrolBoardModel" "jPeople" "[I") (me_s (me_l (me_l (List.mem_of_getElem? (i := 3) rfl))))) (fun _ h => h) rfl dX12_journey_131 ?_
          refine lv_iload_n hx hb dX12_journey_134 rfl (lv_at hl 1 rfl) ?_
          refine z_iald (i := 61) hx hb hK hW rfl (z_ix rfl (by omega) (by omega)) dX12_journey_135 ?_
          refine lv_topi (fun x17 ex17 => ?_)
          exact z_iret hx hb hr hK hS (Nat.le_of_ble_eq_true rfl) (Nat.le_of_ble_eq_true rfl) hlocks dX12_journey_136 (shM, ad, I, J, PM ad) hW ⟨rfl, (Or.inr ⟨by omega, Or.inr ⟨by omega, zn_t_i (k := 2) (show a2.toInt = 2 by rw [‹a2 = 2›]; decide) (by decide) (by rw [ex17]; rfl)⟩⟩)⟩
        by_cases q18 : a2 = 3
        · refine lv_tableIn (tgt := 137) hx hb dX12_journey_70 (by rw [q18]; decide) (by rw [q18]; decide) (by rw [q18]; rfl) (by decide) ?_
          refine lv_aload_n hx hb dX12_journey_137 rfl (lv_at hl 0 rfl) ?_
          refine z_get (T := TX12) (N := 96) (ci := 12) (i := 0) (v := .ref (ad 62)) hx hb hts zj_X12_journey_X12 hown hK hW rfl rfl 87 (by decide) (hts (.fieldLink RX12 202 "PetrolBoardModel" "jReason" "[I") (me_s (me_l (me_l (List.mem_of_getElem? (i := 4) rfl))))) (fun _ h => h) rfl dX12_journey_138 ?_
          refine lv_iload_n hx hb dX12_journey_141 rfl (lv_at hl 1 rfl) ?_
          refine z_iald (i := 62) hx hb hK hW rfl (z_ix rfl (by omega) (by omega)) dX12_journey_142 ?_
          refine lv_topi (fun x19 ex19 => ?_)
          exact z_iret hx hb hr hK hS (Nat.le_of_ble_eq_true rfl) (Nat.le_of_ble_eq_true rfl) hlocks dX12_journey_143 (shM, ad, I, J, PM ad) hW ⟨rfl, (Or.inr ⟨by omega, Or.inr ⟨by omega, zn_t_i (k := 3) (show a2.toInt = 3 by rw [‹a2 = 3›]; decide) (by decide) (by rw [ex19]; rfl)⟩⟩)⟩
        by_cases q20 : a2 = 4
        · refine lv_tableIn (tgt := 144) hx hb dX12_journey_70 (by rw [q20]; decide) (by rw [q20]; decide) (by rw [q20]; rfl) (by decide) ?_
          refine lv_aload_n hx hb dX12_journey_144 rfl (lv_at hl 0 rfl) ?_
          refine z_get (T := TX12) (N := 96) (ci := 12) (i := 0) (v := .ref (ad 63)) hx hb hts zj_X12_journey_X12 hown hK hW rfl rfl 88 (by decide) (hts (.fieldLink RX12 205 "PetrolBoardModel" "jDay" "[I") (me_s (me_l (me_l (List.mem_of_getElem? (i := 5) rfl))))) (fun _ h => h) rfl dX12_journey_145 ?_
          refine lv_iload_n hx hb dX12_journey_148 rfl (lv_at hl 1 rfl) ?_
          refine z_iald (i := 63) hx hb hK hW rfl (z_ix rfl (by omega) (by omega)) dX12_journey_149 ?_
          refine lv_topi (fun x21 ex21 => ?_)
          exact z_iret hx hb hr hK hS (Nat.le_of_ble_eq_true rfl) (Nat.le_of_ble_eq_true rfl) hlocks dX12_journey_150 (shM, ad, I, J, PM ad) hW ⟨rfl, (Or.inr ⟨by omega, Or.inr ⟨by omega, zn_t_i (k := 4) (show a2.toInt = 4 by rw [‹a2 = 4›]; decide) (by decide) (by rw [ex21]; rfl)⟩⟩)⟩
        by_cases q22 : a2 = 5
        · refine lv_tableIn (tgt := 151) hx hb dX12_journey_70 (by rw [q22]; decide) (by rw [q22]; decide) (by rw [q22]; rfl) (by decide) ?_
          refine lv_aload_n hx hb dX12_journey_151 rfl (lv_at hl 0 rfl) ?_
          refine z_get (T := TX12) (N := 96) (ci := 12) (i := 0) (v := .ref (ad 64)) hx hb hts zj_X12_journey_X12 hown hK hW rfl rfl 89 (by decide) (hts (.fieldLink RX12 208 "PetrolBoardModel" "jWay" "[I") (me_s (me_l (me_l (List.mem_of_getElem? (i := 6) rfl))))) (fun _ h => h) rfl dX12_journey_152 ?_
          refine lv_iload_n hx hb dX12_journey_155 rfl (lv_at hl 1 rfl) ?_
          refine z_iald (i := 64) hx hb hK hW rfl (z_ix rfl (by omega) (by omega)) dX12_journey_156 ?_
          refine lv_topi (fun x23 ex23 => ?_)
          exact z_iret hx hb hr hK hS (Nat.le_of_ble_eq_true rfl) (Nat.le_of_ble_eq_true rfl) hlocks dX12_journey_157 (shM, ad, I, J, PM ad) hW ⟨rfl, (Or.inr ⟨by omega, Or.inr ⟨by omega, zn_t_i (k := 5) (show a2.toInt = 5 by rw [‹a2 = 5›]; decide) (by decide) (by rw [ex23]; rfl)⟩⟩)⟩
        by_cases q24 : a2 = 6
        · refine lv_tableIn (tgt := 158) hx hb dX12_journey_70 (by rw [q24]; decide) (by rw [q24]; decide) (by rw [q24]; rfl) (by decide) ?_
          refine lv_aload_n hx hb dX12_journey_158 rfl (lv_at hl 0 rfl) ?_
          refine z_get (T := TX12) (N := 96) (ci := 12) (i := 0) (v := .ref (ad 66)) hx hb hts zj_X12_journey_X12 hown hK hW rfl rfl 91 (by decide) (hts (.fieldLink RX12 214 "PetrolBoardModel" "jGranted" "[I") (me_s (me_l (me_l (List.mem_of_getElem? (i := 7) rfl))))) (fun _ h => h) rfl dX12_journey_159 ?_
          refine lv_iload_n hx hb dX12_journey_162 rfl (lv_at hl 1 rfl) ?_
          refine z_iald (i := 66) hx hb hK hW rfl (z_ix rfl (by omega) (by omega)) dX12_journey_163 ?_
          refine lv_topi (fun x25 ex25 => ?_)
          exact z_iret hx hb hr hK hS (Nat.le_of_ble_eq_true rfl) (Nat.le_of_ble_eq_true rfl) hlocks dX12_journey_164 (shM, ad, I, J, PM ad) hW ⟨rfl, (Or.inr ⟨by omega, Or.inr ⟨by omega, zn_t_i (k := 6) (show a2.toInt = 6 by rw [‹a2 = 6›]; decide) (by decide) (by rw [ex25]; rfl)⟩⟩)⟩
        by_cases q26 : a2 = 7
        · refine lv_tableIn (tgt := 165) hx hb dX12_journey_70 (by rw [q26]; decide) (by rw [q26]; decide) (by rw [q26]; rfl) (by decide) ?_
          refine lv_aload_n hx hb dX12_journey_165 rfl (lv_at hl 0 rfl) ?_
          refine z_get (T := TX12) (N := 96) (ci := 12) (i := 0) (v := .ref (ad 67)) hx hb hts zj_X12_journey_X12 hown hK hW rfl rfl 92 (by decide) (hts (.fieldLink RX12 217 "PetrolBoardModel" "jFirst" "[I") (me_s (me_l (me_l (List.mem_of_getElem? (i := 8) rfl))))) (fun _ h => h) rfl dX12_journey_166 ?_
          refine lv_iload_n hx hb dX12_journey_169 rfl (lv_at hl 1 rfl) ?_
          refine z_iald (i := 67) hx hb hK hW rfl (z_ix rfl (by omega) (by omega)) dX12_journey_170 ?_
          refine lv_topi (fun x27 ex27 => ?_)
          exact z_iret hx hb hr hK hS (Nat.le_of_ble_eq_true rfl) (Nat.le_of_ble_eq_true rfl) hlocks dX12_journey_171 (shM, ad, I, J, PM ad) hW ⟨rfl, (Or.inr ⟨by omega, Or.inr ⟨by omega, zn_t_i (k := 7) (show a2.toInt = 7 by rw [‹a2 = 7›]; decide) (by decide) (by rw [ex27]; rfl)⟩⟩)⟩
        have q12 := z_f_ne rfl z_l0 q12
        have q14 := z_f_ne rfl z_l1 q14
        have q16 := z_f_ne rfl z_l2 q16
        have q18 := z_f_ne rfl z_l3 q18
        have q20 := z_f_ne rfl z_l4 q20
        have q22 := z_f_ne rfl z_l5 q22
        have q24 := z_f_ne rfl z_l6 q24
        have q26 := z_f_ne rfl z_l7 q26
        refine lv_tableOut (tgt := 172) hx hb dX12_journey_70 (by omega) (by decide) ?_
        refine lv_iconst (v := (-1)) hx hb dX12_journey_172 (by decide) ?_
        exact z_iret hx hb hr hK hS (Nat.le_of_ble_eq_true rfl) (Nat.le_of_ble_eq_true rfl) hlocks dX12_journey_173 (shM, ad, I, J, PM ad) hW ⟨rfl, (by first | exact Or.inl ⟨by omega, by decide⟩ | exact Or.inr ⟨by omega, Or.inr ⟨by omega, Or.inr ⟨by omega, by decide⟩⟩⟩)⟩
      · have g28 := z_f_nlt rfl z_l100 c9
        have b29 := Int32.toInt_lt a2
        refine lv_iconst (v := 0) hx hb dX12_journey_20 (by decide) ?_
        refine lv_istore_n (lv' := [(3, .int 0), (0, .ref (ad 0)), (1, .int a1), (2, .int a2)]) hx hb dX12_journey_21 rfl hl (by decide) rfl (fun ls hl => ?_)
        refine lv_iconst (v := 0) hx hb dX12_journey_22 (by decide) ?_
        refine lv_istore (lv' := [(4, .int 0), (3, .int 0), (0, .ref (ad 0)), (1, .int a1), (2, .int a2)]) hx hb dX12_journey_23 hl (by decide) rfl (fun ls hl => ?_)
        have lp30 : ∀ (f : Nat) (y31 : Int32) (y32 : Int32) (H : Heap) (locs : List Loc) (ls : Array Slot), (2147483647 < y31.toInt + (f : Int)) → (0 ≤ y31.toInt) → (0 ≤ y32.toInt) → (y32.toInt ≤ 60) → (y32.toInt = zn_ct (zn_lm I (I 0 0).toInt a1.toNatClampNeg) y31.toNatClampNeg ∧ zn_nt (zn_lm I (I 0 0).toInt a1.toNatClampNeg) (a2.toInt - 100) y31.toNatClampNeg = -1 ∧ y32.toInt ≤ y31.toInt ∧ y31.toInt ≤ (I 0 83).toInt) → z_W G A (shM, ad, I, J, PM ad) H → va_S A s.heap H locs → lv_has ls 5 [(4, .int y31), (3, .int y32), (0, .ref (ad 0)), (1, .int a1), (2, .int a2)] → W p l e (headSpec wsX12_journey { frames := 3, cells := 0, slots := 0, locals := 59 }).room s m ([.ref (ad 0), .int a1, .int a2] : List Value).toArray below meth c0 H locs 0 0 (MQ below (va_Qi (fun (r : Int32) (u1 : z_U) => u1 = (shM, ad, I, J, PM ad) ∧ ((¬ (0 ≤ a1.toInt ∧ a1.toInt < (I 0 83).toInt) ∧ r.toInt = -1) ∨ ((0 ≤ a1.toInt ∧ a1.toInt < (I 0 83).toInt) ∧ ((100 ≤ a2.toInt ∧ r.toInt = zn_nt (zn_lm I (I 0 0).toInt a1.toNatClampNeg) (a2.toInt - 100) (I 0 83).toNatClampNeg) ∨ (¬ 100 ≤ a2.toInt ∧ zn_t (zn_tm I a1.toNatClampNeg) a2.toInt r.toInt))))) (z_B G A) A) ([.ref (ad 0), .int a1, .int a2] : List Value).toArray s 0 0 A) (F0 m 25 ls []) := by
          intro f
          induction f with
          | zero => intro y31 y32 H locs ls lp30m lp30l4 lp30l3 lp30u3 lp30B hW hS hl; exact absurd lp30m (by have := Int32.toInt_lt y31; have := Int32.le_toInt y31; omega)
          | succ f lp30ih =>
            intro y31 y32 H locs ls lp30m lp30l4 lp30l3 lp30u3 lp30B hW hS hl
            refine lv_iload hx hb dX12_journey_25 (lv_at hl 0 rfl) ?_
            refine lv_aload_n hx hb dX12_journey_27 rfl (lv_at hl 2 rfl) ?_
            refine z_get (T := TX12) (N := 96) (ci := 12) (i := 0) (v := .int (I 0 83)) hx hb hts zj_X12_journey_X12 hown hK hW rfl rfl 83 (by decide) (hts (.fieldLink RX12 505 "PetrolBoardModel" "journeys" "I") (me_s (me_l (me_l (List.mem_of_getElem? (i := 0) rfl))))) (fun _ h => h) rfl dX12_journey_28 ?_
            refine lv_icmp_ge (tgt := 67) hx hb dX12_journey_31 (by decide) (fun c33 => ?_) (fun c33 => ?_)
            · have g34 := z_f_ge rfl rfl c33
              have b35 := Int32.toInt_lt y31
              refine lv_iconst (v := (-1)) hx hb dX12_journey_67 (by decide) ?_
              exact z_iret hx hb hr hK hS (Nat.le_of_ble_eq_true rfl) (Nat.le_of_ble_eq_true rfl) hlocks dX12_journey_68 (shM, ad, I, J, PM ad) hW ⟨rfl, (by have q1 := z_clt (x := y31) rfl (by omega); have q2 := z_clt (x := (I 0 83)) rfl (by omega); exact Or.inr ⟨by omega, Or.inl ⟨by omega, by rw [show (I 0 83).toNatClampNeg = y31.toNatClampNeg by omega, lp30B.2.1]; decide⟩⟩)⟩
            · have g36 := z_f_nge rfl rfl c33
              have b37 := Int32.toInt_lt y31
              refine lv_aload_n hx hb dX12_journey_34 rfl (lv_at hl 2 rfl) ?_
              refine lv_iload_n hx hb dX12_journey_35 rfl (lv_at hl 3 rfl) ?_
              refine lv_iload hx hb dX12_journey_36 (lv_at hl 0 rfl) ?_
              refine z_ci hW hS hA (va_runV (As := [.int a1, .int y31]) (rest := []) ⟨hx, hb, hml, hown, hts⟩ (sx_X12_isLike_g l G ad I J ⟨(by show 0 ≤ (I 0 0).toInt ∧ (I 0 0).toInt ≤ 719; exact hma.1), (by show 0 ≤ (I 0 1).toInt ∧ (I 0 1).toInt ≤ 30; exact hma.2.1), (by show 0 ≤ (I 0 2).toInt ∧ (I 0 2).toInt ≤ 200; exact hma.2.2)⟩ (by show 0 ≤ (I 0 83).toInt ∧ (I 0 83).toInt ≤ 60; exact hmj) a1 y31 (by omega) (by omega) (by omega) hM _) (cwV 2 hts gX12_journey_X12_isLike rfl rfl rfl (by decide +kernel) ⟨Nat.le_of_ble_eq_true rfl, Nat.le_of_ble_eq_true rfl⟩) (z_preV (i := 0) hK hW rfl rfl) rfl rfl hl.1 rfl (lv_room (Nat.le_of_ble_eq_true rfl)) dX12_journey_38 ⟨Nat.le_of_ble_eq_true rfl, Nat.le_of_ble_eq_true rfl⟩) (fun r u1 H locs hp hW hS => ?_)
              obtain ⟨e9, hp⟩ := hp
              rw [e9] at hW
              rcases hp with ⟨rfl, hb38⟩ | ⟨rfl, hb38⟩
              · refine lv_if_ne (tgt := 47) hx hb dX12_journey_41 (by decide) (fun c39 => ?_) (fun c39 => absurd c39 (by decide))
                refine lv_iload_n hx hb dX12_journey_47 rfl (lv_at hl 1 rfl) ?_
                refine lv_iload_n hx hb dX12_journey_48 rfl (lv_at hl 4 rfl) ?_
                refine lv_bipush (v := 100) hx hb dX12_journey_49 (by decide) ?_
                refine lv_isub hx hb dX12_journey_51 ?_
                refine lv_topi (fun x40 ex40 => ?_)
                have tx40 : x40.toInt = a2.toInt - 100 := z_tsub ex40 rfl z_l100 (by have := Int32.le_toInt a2; have := Int32.toInt_lt a2; omega) (by have := Int32.le_toInt a2; have := Int32.toInt_lt a2; omega)
                refine lv_icmp_ne (tgt := 58) hx hb dX12_journey_52 (by decide) (fun c41 => ?_) (fun c41 => ?_)
                · have g42 := z_f_ne rfl rfl c41
                  obtain ⟨x43, ex43⟩ : ∃ y : Int32, y = y32 + 1 := ⟨_, rfl⟩
                  have tx43 : x43.toInt = y32.toInt + 1 := z_tadd ex43 rfl z_l1 (by omega) (by omega)
                  refine lv_iinc (v := x43) (lv' := [(3, .int x43), (4, .int y31), (0, .ref (ad 0)), (1, .int a1), (2, .int a2)]) hx hb dX12_journey_58 hl (k := 1) rfl (by rw [ex43]; rfl) (by decide) rfl (fun ls hl => ?_)
                  obtain ⟨x44, ex44⟩ : ∃ y : Int32, y = y31 + 1 := ⟨_, rfl⟩
                  have tx44 : x44.toInt = y31.toInt + 1 := z_tadd ex44 rfl z_l1 (by omega) (by omega)
                  refine lv_iinc (v := x44) (lv' := [(4, .int x44), (3, .int x43), (0, .ref (ad 0)), (1, .int a1), (2, .int a2)]) hx hb dX12_journey_61 hl (k := 1) rfl (by rw [ex44]; rfl) (by decide) rfl (fun ls hl => ?_)
                  refine lv_goto (tgt := 25) hx hb dX12_journey_64 (by decide) ?_
                  exact lp30ih x44 x43 _ _ _ (by omega) (by omega) (by omega) (by omega) ⟨by rw [(show x44.toNatClampNeg = y31.toNatClampNeg + 1 from z_cln (by omega) (by omega)), zn_ct_y hb38]; omega, by rw [(show x44.toNatClampNeg = y31.toNatClampNeg + 1 from z_cln (by omega) (by omega))]; exact zn_nt_n lp30B.2.1 (fun q => absurd q.2 (by omega)), by omega, by omega⟩ hW hS (lv_sub hl [0, 1, 2, 3, 4] rfl)
                · have g45 := z_f_eq rfl rfl c41
                  refine lv_iload hx hb dX12_journey_55 (lv_at hl 0 rfl) ?_
                  exact z_iret hx hb hr hK hS (Nat.le_of_ble_eq_true rfl) (Nat.le_of_ble_eq_true rfl) hlocks dX12_journey_57 (shM, ad, I, J, PM ad) hW ⟨rfl, (by have q1 := z_clt (x := y31) rfl (by omega); have q2 := z_clt (x := (I 0 83)) rfl (by omega); have q3 := zn_nt_y lp30B.2.1 hb38 (by omega); exact Or.inr ⟨by omega, Or.inl ⟨by omega, by rw [zn_nt_m (n := y31.toNatClampNeg + 1) (by omega) (by omega), q3, q1]⟩⟩)⟩
              · refine lv_if_ne (tgt := 47) hx hb dX12_journey_41 (by decide) (fun c46 => absurd (by decide) c46) (fun c46 => ?_)
                refine lv_goto (tgt := 61) hx hb dX12_journey_44 (by decide) ?_
                obtain ⟨x47, ex47⟩ : ∃ y : Int32, y = y31 + 1 := ⟨_, rfl⟩
                have tx47 : x47.toInt = y31.toInt + 1 := z_tadd ex47 rfl z_l1 (by omega) (by omega)
                refine lv_iinc (v := x47) (lv' := [(4, .int x47), (3, .int y32), (0, .ref (ad 0)), (1, .int a1), (2, .int a2)]) hx hb dX12_journey_61 hl (k := 0) rfl (by rw [ex47]; rfl) (by decide) rfl (fun ls hl => ?_)
                refine lv_goto (tgt := 25) hx hb dX12_journey_64 (by decide) ?_
                exact lp30ih x47 y32 _ _ _ (by omega) (by omega) (by omega) (by omega) ⟨by rw [(show x47.toNatClampNeg = y31.toNatClampNeg + 1 from z_cln (by omega) (by omega)), zn_ct_n hb38]; omega, by rw [(show x47.toNatClampNeg = y31.toNatClampNeg + 1 from z_cln (by omega) (by omega))]; exact zn_nt_n lp30B.2.1 (fun q => hb38 q.1), by omega, by omega⟩ hW hS (lv_sub hl [0, 1, 2, 3, 4] rfl)
        exact lp30 4294967296 (0) (0) _ _ _ (z_m0u _) (by rw [z_l0]; omega) (by rw [z_l0]; omega) (by rw [z_l0]; omega) ⟨by rw [show (0 : Int32).toNatClampNeg = 0 by decide]; rfl, by rw [show (0 : Int32).toNatClampNeg = 0 by decide]; rfl, by omega, by have q0 := z_l0; omega⟩ hW hS (lv_sub hl [0, 1, 2, 3, 4] rfl)
    · have g48 := z_f_nlt rfl rfl c7
      refine lv_iconst (v := (-1)) hx hb dX12_journey_12 (by decide) ?_
      exact z_iret hx hb hr hK hS (Nat.le_of_ble_eq_true rfl) (Nat.le_of_ble_eq_true rfl) hlocks dX12_journey_13 (shM, ad, I, J, PM ad) hW ⟨rfl, (by first | exact Or.inl ⟨by omega, by decide⟩ | exact Or.inr ⟨by omega, Or.inr ⟨by omega, Or.inr ⟨by omega, by decide⟩⟩⟩)⟩
end SG60zc
section SG60zd
/-! JOURNEYS on both sides -/
noncomputable def z_RQ (Ix Im : z_I) : Prop := ∀ j : Nat, (j : Int) < (Ix 60 9).toInt → (Ix 61 j = Im 59 j ∧ Ix 62 j = Im 60 j ∧ Ix 63 j = Im 61 j ∧ Ix 64 j = Im 62 j ∧ Ix 65 j = Im 63 j ∧ Ix 66 j = Im 64 j ∧ Ix 67 j = Im 65 j ∧ Ix 68 j = Im 66 j ∧ Ix 69 j = Im 67 j) ∧ zn_b Ix j ∧ 0 ≤ (Ix 67 j).toInt ∧ (Ix 67 j).toInt ≤ 719
theorem z_RQ_same {Ix Im Ix1 Im1 : z_I} (h : z_RQ Ix Im) (eN : (Ix1 60 9).toInt = (Ix 60 9).toInt) (eH : (Ix 1 5).toInt ≤ (Ix1 1 5).toInt) (hx : zn_sX Ix1 Ix) (hm : zn_sM Im1 Im) : z_RQ Ix1 Im1 := fun j hj => by
  obtain ⟨a0, a1, a2, a3, a4, a5, a6, a7, a8⟩ := hx j
  obtain ⟨b0, b1, b2, b3, b4, b5, b6, b7, b8⟩ := hm j
  obtain ⟨q1, ⟨⟨c1, c2⟩, c3⟩, q3⟩ := h j (by omega)
  unfold zn_b
  rw [a0, a1, a2, a3, a4, a5, a6, a7, a8, b0, b1, b2, b3, b4, b5, b6, b7, b8]
  exact ⟨q1, ⟨⟨c1, by omega⟩, c3⟩, q3⟩
theorem z_RQ_ask {Ix Im Ix1 Im1 : z_I} {n n1 : Nat} {v0 v1 v2 v3 v4 v5 v6 v7 v8 w0 w1 w2 w3 w4 w5 w6 w7 w8 : Int32} (h : z_RQ Ix Im) (eN : (Ix1 60 9).toInt = (Ix 60 9).toInt + 1) (eH : (Ix1 1 5).toInt = (Ix 1 5).toInt) (en : (n : Int) = (Ix 60 9).toInt) (en1 : n1 = n) (hx : zn_rX Ix1 Ix n v0 v1 v2 v3 v4 v5 v6 v7 v8) (hm : zn_rM Im1 Im n1 w0 w1 w2 w3 w4 w5 w6 w7 w8) (e0 : w0 = v0) (e1 : w1 = v1) (e2 : w2 = v2) (e3 : w3 = v3) (e4 : w4 = v4) (e5 : w5 = v5) (e6 : w6 = v6) (e7 : w7 = v7) (e8 : w8 = v8) (hr : ((0 ≤ v0.toInt ∧ v0.toInt < (Ix 1 5).toInt) ∧ (0 ≤ v4.toInt ∧ v4.toInt ≤ 719) ∧ (0 ≤ v1.toInt ∧ v1.toInt ≤ 500) ∧ (0 ≤ v2.toInt ∧ v2.toInt ≤ 8) ∧ (0 ≤ v3.toInt ∧ v3.toInt ≤ 4)) ∧ 0 ≤ v6.toInt ∧ v6.toInt ≤ 719) : z_RQ Ix1 Im1 := fun j hj => by
  subst en1 e0 e1 e2 e3 e4 e5 e6 e7 e8
  obtain ⟨a0, a1, a2, a3, a4, a5, a6, a7, a8⟩ := hx
  obtain ⟨b0, b1, b2, b3, b4, b5, b6, b7, b8⟩ := hm
  unfold zn_b
  rw [a0, a1, a2, a3, a4, a5, a6, a7, a8, b0, b1, b2, b3, b4, b5, b6, b7, b8, eH]
  by_cases q : j = n1
  · simp only [if_pos q]
    exact ⟨⟨trivial, trivial, trivial, trivial, trivial, trivial, trivial, trivial, trivial⟩, hr⟩
  · simp only [if_neg q]
    exact h j (by omega)
theorem z_RQ_appeal {Ix Im Ix1 Im1 : z_I} {n n1 : Nat} {v w r r1 : Int32} (h : z_RQ Ix Im) (eN : (Ix1 60 9).toInt = (Ix 60 9).toInt) (eH : (Ix1 1 5).toInt = (Ix 1 5).toInt) (en1 : n1 = n) (x0 : ∀ j, Ix1 61 j = Ix 61 j) (x1 : ∀ j, Ix1 62 j = Ix 62 j) (x2 : ∀ j, Ix1 63 j = Ix 63 j) (x3 : ∀ j, Ix1 64 j = if j = n then v else Ix 64 j) (x4 : ∀ j, Ix1 65 j = Ix 65 j) (x5 : ∀ j, Ix1 66 j = Ix 66 j) (x6 : ∀ j, Ix1 67 j = Ix 67 j) (x7 : ∀ j, Ix1 68 j = if j = n then r else Ix 68 j) (x8 : ∀ j, Ix1 69 j = Ix 69 j) (y0 : ∀ j, Im1 59 j = Im 59 j) (y1 : ∀ j, Im1 60 j = Im 60 j) (y2 : ∀ j, Im1 61 j = Im 61 j) (y3 : ∀ j, Im1 62 j = if j = n1 then w else Im 62 j) (y4 : ∀ j, Im1 63 j = Im 63 j) (y5 : ∀ j, Im1 64 j = Im 64 j) (y6 : ∀ j, Im1 65 j = Im 65 j) (y7 : ∀ j, Im1 66 j = if j = n1 then r1 else Im 66 j) (y8 : ∀ j, Im1 67 j = Im 67 j) (e1 : w = v) (e2 : r1 = r) (hv : 0 ≤ v.toInt ∧ v.toInt ≤ 4) : z_RQ Ix1 Im1 := fun j hj => by
  subst en1 e1 e2
  obtain ⟨⟨c0, c1, c2, c3, c4, c5, c6, c7, c8⟩, ⟨d1, d2, d3, d4, d5⟩, q3⟩ := h j (by omega)
  unfold zn_b
  rw [x0, x1, x2, x3, x4, x5, x6, x7, x8, y0, y1, y2, y3, y4, y5, y6, y7, y8, eH]
  by_cases q : j = n1
  · simp only [if_pos q]
    exact ⟨⟨c0, c1, c2, trivial, c4, c5, c6, trivial, c8⟩, ⟨d1, d2, d3, d4, hv⟩, q3⟩
  · simp only [if_neg q]
    exact ⟨⟨c0, c1, c2, c3, c4, c5, c6, c7, c8⟩, ⟨d1, d2, d3, d4, d5⟩, q3⟩
theorem z_RQ_b {Ix Im : z_I} {a : Int32} (h : z_RQ Ix Im) (ha : 0 ≤ a.toInt ∧ a.toInt < (Ix 60 9).toInt) : zn_b Ix a.toNatClampNeg := (h a.toNatClampNeg (by have := z_clt (x := a) rfl ha.1; omega)).2.1
theorem z_RQ_c {Ix Im : z_I} {a : Int32} (h : z_RQ Ix Im) (hN : (Ix 60 9).toInt = (Im 0 83).toInt) (hH : (Ix 1 5).toInt = (Im 0 1).toInt) (ha : 0 ≤ a.toInt ∧ a.toInt < (Im 0 83).toInt) : zn_c Im a.toNatClampNeg := by
  obtain ⟨⟨c0, c1, c2, c3, c4, c5, c6, c7, c8⟩, ⟨d1, d2, d3, d4, d5⟩, q3⟩ := h a.toNatClampNeg (by have := z_clt (x := a) rfl ha.1; omega)
  unfold zn_c
  rw [← c0, ← c1, ← c2, ← c3, ← c4, ← hH]
  exact ⟨d1, d2, d3, d4, d5⟩
theorem z_RQ_mx {Ix Im : z_I} (h : z_RQ Ix Im) : ∀ j : Nat, (j : Int) < (Ix 60 9).toInt → 0 ≤ (Ix 62 j).toInt ∧ (Ix 62 j).toInt ≤ 500 := fun j hj => (h j hj).2.1.2.2.1
theorem z_RQ_mm {Ix Im : z_I} (h : z_RQ Ix Im) (hN : (Ix 60 9).toInt = (Im 0 83).toInt) : ∀ j : Nat, (j : Int) < (Im 0 83).toInt → 0 ≤ (Im 60 j).toInt ∧ (Im 60 j).toInt ≤ 500 := fun j hj => by
  have q := h j (by omega)
  rw [← q.1.2.1]
  exact q.2.1.2.2.1
/-- what is granted is the same -/
theorem zn_AB {Ix Im : z_I} {w d k mi pe re : Int32} (hRH : z_RH Ix Im) (hRN : z_RN Ix Im) (hN : (Ix 1 11).toInt = (Im 0 2).toInt) (h0 : 0 ≤ (Ix 1 11).toInt) (hk : k.toInt ≤ 719) (hw : 0 ≤ w.toInt ∧ w.toInt < (Ix 1 5).toInt) : zn_A Ix w d k mi pe re = zn_B Im w d k mi pe re := by
  have c1 := z_clt (x := (Ix 1 11)) rfl h0
  have c2 := z_clt (x := (Im 0 2)) rfl (by omega)
  have c3 := z_clt (x := w) rfl hw.1
  obtain ⟨⟨e1, e2, _⟩, _⟩ := hRH w.toNatClampNeg (by omega)
  unfold zn_A zn_B
  rw [e1, e2, z_RN_r hRN hk (n := (Ix 1 11).toNatClampNeg) (m := (Im 0 2).toNatClampNeg) (by omega) (by omega)]
theorem zn_e {c : z_C} {Ix Im : z_I} {RS : Nat → List zm_row} {FF : Nat → Nat} {w d k mi pe re : Int32} {r r1 : Int} (hCH : ∀ k, k < c.2.1 → zw_T Im k (FF k) (RS k) ∧ zv_ss c Ix k ((RS k).map Prod.fst) ∧ zi_mo Ix k = zi_km Im k ∧ zi_td Ix k = zi_kt Im k ∧ 0 ≤ zi_mo Ix k) (hn : (Im 0 13).toNatClampNeg = c.2.1) (hA : zn_A Ix w d k mi pe re = zn_B Im w d k mi pe re) (h1 : zn_X c Ix (fun k => (RS k).map Prod.fst) w d k mi pe re r) (h2 : zn_M Im RS w d k mi pe re r1) : r = r1 := by
  unfold zn_M at h2
  rw [hn] at h2
  unfold zn_X at h1
  refine zi_R_u h1 h2 (fun j hj => ⟨(hCH j hj).2.2.1.symm, (hCH j hj).2.2.2.1.symm⟩) (fun j _ => ?_)
  show zv_fi (zn_A Ix w d k mi pe re) 301 _ = zv_fi (zn_B Im w d k mi pe re) 301 _
  rw [hA]
/-- those that are like it are the same -/
theorem zn_L {Ix Im : z_I} {td : Int} {o j : Nat} (h : z_RQ Ix Im) (hRN : z_RN Ix Im) (hN : (Ix 1 11).toInt = (Im 0 2).toInt) (h0 : 0 ≤ (Ix 1 11).toInt) (ht : td ≤ 719) (ho : (o : Int) < (Ix 60 9).toInt) (hj : (j : Int) < (Ix 60 9).toInt) : zn_lm Im td o j ↔ zn_lx Ix td o j := by
  have c1 := z_clt (x := (Ix 1 11)) rfl h0
  have c2 := z_clt (x := (Im 0 2)) rfl (by omega)
  obtain ⟨⟨a0, a1, a2, a3, a4, a5, a6, a7, a8⟩, _⟩ := h o ho
  obtain ⟨⟨b0, b1, b2, b3, b4, b5, b6, b7, b8⟩, _⟩ := h j hj
  unfold zn_lm zn_lx
  rw [← a0, ← a1, ← a2, ← a3, ← a4, ← a7, ← b0, ← b1, ← b2, ← b3, ← b4, ← b7, ← z_RN_r hRN ht (n := (Ix 1 11).toNatClampNeg) (m := (Im 0 2).toNatClampNeg) (by omega) (by omega), ← z_RN_r hRN ht (n := (Ix 1 11).toNatClampNeg) (m := (Im 0 2).toNatClampNeg) (by omega) (by omega)]
theorem z_RQ_t {Ix Im : z_I} {j : Nat} (h : z_RQ Ix Im) (hj : (j : Int) < (Ix 60 9).toInt) (k : Nat) : zn_tm Im j k = zn_tx Ix j k := by
  obtain ⟨⟨a0, a1, a2, a3, a4, a5, a6, a7, a8⟩, _⟩ := h j hj
  unfold zn_tm zn_tx
  rw [a0, a1, a2, a3, a4, a5, a7, a8]
end SG60zd
