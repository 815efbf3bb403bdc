

theorem zr_nm_b {h : Nat → Int} {f : Nat} : ∀ m : Nat, (∀ j, f ≤ j → j < f + m → zp_dg (h j)) → 0 ≤ zp_nm h f m ∧ zp_nm h f m + 1 ≤ 10 ^ m
  | 0, _ => ⟨Int.le_refl 0, by show (0 : Int) + 1 ≤ 10 ^ 0; decide⟩
  | m + 1, hl => by
    obtain ⟨h1, h2⟩ := zr_nm_b m (fun j a b => hl j a (by omega))
    have h3 := hl (f + m) (by omega) (by omega)
    unfold zp_dg at h3
    have e : zp_nm h f (m + 1) = zp_nm h f m * 10 + (h (f + m) - 48) := rfl
    rw [e, Int.pow_succ]
    omega
/-! a whole text, as the class reads it -/
theorem zp_tk_400 {h : Nat → Int} {f e : Nat} {t v : Int} (ht : zp_tk h f e t v) (h4 : t = 400) : 0 ≤ v ∧ v ≤ 999999 := by
  rcases ht with ⟨a1, a2, a3⟩ | ⟨a1, a2, a3⟩ | ⟨a1, a2, a3⟩ | ⟨a1, a2, a3⟩ | ⟨a1, a2, a3, a4, a5, a6⟩
  · omega
  · rcases a3 with ⟨i, hi, c1, c2⟩ | ⟨c1, c2⟩ <;> omega
  · rcases a3 with ⟨c1, c2, c3⟩ | ⟨c1, c2⟩
    · rw [c3]
      obtain ⟨b1, b2⟩ := zr_nm_b (h := h) (f := f) (e - f) (fun j q1 q2 => a2.2.1 j q1 (by omega))
      have hp : (10 : Int) ^ (e - f) ≤ 1000000 := by
        have : e - f = 0 ∨ e - f = 1 ∨ e - f = 2 ∨ e - f = 3 ∨ e - f = 4 ∨ e - f = 5 ∨ e - f = 6 := by omega
        rcases this with q | q | q | q | q | q | q <;> rw [q] <;> decide
      omega
    · omega
  · have := zp_sg_b a1
    omega
  · omega
/-- the row of tokens in a memory -/
noncomputable def zr_SM (h : Nat → Int) (K : z_I) : Prop := ∃ (m : Nat) (pe : Nat → Nat), (K 12 5).toInt = (m : Int) + 1 ∧ m ≤ 500 ∧ zp_SM h (zr_tk K) (zr_va K) (fun j => (K 16 j).toNatClampNeg) pe m ∧ ∀ k, k ≤ m → ((K 16 k).toNatClampNeg : Int) = (K 16 k).toInt
theorem zr_SM_F {I K : z_I} {n : Nat} (hn : n ≤ 500) (h : zs_F I n K) : zr_SM (zx_h I n) K := by
  obtain ⟨m, pe, a1, a2, ⟨b1, b2, b3, b4⟩, a4⟩ := h
  have e : ∀ k, k ≤ m → zr_tk K k = (K 14 k).toInt := fun k hk => by
    unfold zr_tk
    rw [if_pos (by omega)]
  exact ⟨m, pe, a1, by omega, ⟨b1, fun k hk => by rw [e k hk]; exact b2 k hk, fun k hk => ⟨by rw [e k (by omega)]; exact (b3 k hk).1, (b3 k hk).2⟩, by rw [e m (Nat.le_refl m)]; exact b4⟩, a4⟩
theorem zr_SM_S {h : Nat → Int} {K K1 : z_I} (hs : zr_SM h K) (hS : zr_S K K1) : zr_SM h K1 := by
  obtain ⟨m, pe, a1, a2, a3, a4⟩ := hs
  refine ⟨m, pe, by rw [hS.1]; exact a1, a2, ?_, fun k hk => by rw [hS.2.2.2 k]; exact a4 k hk⟩
  rw [zr_S_tk hS, zr_S_va hS]
  have e : (fun j => (K1 16 j).toNatClampNeg) = fun j => (K 16 j).toNatClampNeg := funext fun j => by rw [hS.2.2.2 j]
  rw [e]
  exact a3
theorem zr_SM_va {h : Nat → Int} {K : z_I} (hs : zr_SM h K) : ∀ k, zr_tk K k = 400 → 0 ≤ zr_va K k ∧ zr_va K k ≤ 999999 := fun k hk => by
  obtain ⟨m, pe, a1, a2, a3, a4⟩ := hs
  by_cases q : k ≤ m
  · exact zp_tk_400 (a3.2.1 k q) hk
  · exfalso
    unfold zr_tk at hk
    rw [if_neg (by omega)] at hk
    omega
theorem zr_SM_Q {h : Nat → Int} {K : z_I} (hs : zr_SM h K) : 1 ≤ (K 12 5).toInt ∧ (K 12 5).toInt ≤ 501 ∧ ∀ j : Nat, (j : Int) < (K 12 5).toInt → zr_tk K j ≠ 401 → (j : Int) + 1 < (K 12 5).toInt := by
  obtain ⟨m, pe, a1, a2, a3, a4⟩ := hs
  refine ⟨by omega, by omega, fun j hj hn => ?_⟩
  have : j ≠ m := fun q => hn (by rw [q]; exact a3.2.2.2)
  omega
theorem zr_SM_p {h : Nat → Int} {K : z_I} (hs : zr_SM h K) {f : Nat} (hf : (f : Int) < (K 12 5).toInt) : ((K 16 f).toNatClampNeg : Int) = (K 16 f).toInt := by
  obtain ⟨m, pe, a1, a2, a3, a4⟩ := hs
  exact a4 f (by omega)
noncomputable def zr_RL (Ia I : z_I) (y : Int) : Prop := ∃ (ss : List zp_T) (ke : Nat) (cs : List Int), zr_M Ia I ke cs ∧ (ss.length : Int) = y ∧ cs.length ≤ ke ∧ zp_ts (zr_tk Ia) (zr_va Ia) 0 ss ke ∧ (∀ (j : Nat) (s : zp_T), ss[j]? = some s → zr_row I j s) ∧ (I 12 13).toInt = y
theorem zr_RL_0 {Ia : z_I} {y : Int} (h : zr_M Ia Ia 0 []) (hs : (Ia 12 13).toInt = 0) (hy : y = 0) : zr_RL Ia Ia y := ⟨[], 0, [], h, by rw [hy]; rfl, Nat.le_refl 0, rfl, fun j s q => by simp at q, by rw [hy]; exact hs⟩
theorem zr_M_st {I0 I K : z_I} {k : Nat} {cs : List Int} {v : Int32} (h : zr_M I0 I k cs) (e : K = z_up I 12 13 v) : zr_M I0 K k cs := by
  obtain ⟨a1, a2, a3, a4, a5, a6, a7, a8, a9, a10⟩ := h
  have q : ∀ c i, (c ≠ 12 ∨ i ≠ 13) → K c i = I c i := fun c i hc => by
    rw [e]
    rcases hc with hc | hc
    · exact z_up_n hc
    · exact z_up_k hc
  refine ⟨by rw [q 12 _ (by decide)]; exact a1, a2, by rw [q 12 _ (by decide)]; exact a3, by rw [q 12 _ (by decide)]; exact a4, ?_, fun i hi => by rw [q 17 _ (Or.inl (by decide))]; exact a6 i hi, by rw [q 12 _ (by decide)]; exact a7, fun i => by rw [q 14 _ (Or.inl (by decide))]; exact a8 i, fun i => by rw [q 15 _ (Or.inl (by decide))]; exact a9 i, fun i => by rw [q 16 _ (Or.inl (by decide))]; exact a10 i⟩
  refine zp_cd_ex cs _ (fun i _ _ => ?_) a5
  show (K 17 i).toInt = (I 17 i).toInt
  rw [q 17 i (Or.inl (by decide))]
theorem zr_RL_s {Ia I I1 I2 I3 : z_I} {y : Int} {ss : List zp_T} {ke k1 n : Nat} {cs cs1 : List Int} {s : zp_T} {v : Int32} (hu : 0 ≤ (Ia 12 9).toInt) (hM : zr_M Ia I ke cs) (hl : (ss.length : Int) = y) (hc : cs.length ≤ ke) (ht : zp_ts (zr_tk Ia) (zr_va Ia) 0 ss ke) (hr : ∀ (j : Nat) (s : zp_T), ss[j]? = some s → zr_row I j s)
    (hm : zr_M I I1 k1 cs1) (hl1 : cs1.length + ke ≤ k1) (hsm : zp_sm (zr_tk I) (zr_va I) ke k1 s) (hrow : zr_row I1 n s) (hos : zr_os I I1 n) (hn : (n : Int) = y) (h59 : zr_tk I k1 = 59) (h2 : zr_M I I2 (k1 + 1) cs1) (h18 : ∀ j, I2 18 j = I1 18 j ∧ I2 19 j = I1 19 j ∧ I2 20 j = I1 20 j ∧ I2 17 j = I1 17 j) (e3 : I3 = z_up I2 12 13 v) (hv : v.toInt = y + 1) {y1 : Int} (hy1 : y1 = y + 1) : zr_RL Ia I3 y1 := by
  have hus : (I2 12 9).toInt = (I1 12 9).toInt := by rw [h2.2.2.2.1, hm.2.2.2.1]
  have hk : ∀ c i, (c ≠ 12 ∨ i ≠ 13) → I3 c i = I2 c i := fun c i hc => by
    rw [e3]
    rcases hc with hc | hc
    · exact z_up_n hc
    · exact z_up_k hc
  have r3 : ∀ j s, zr_row I1 j s → zr_row I3 j s := fun j s hj => by
    refine zr_row_k hj ?_ (fun i hi => ?_) ?_
    · obtain ⟨q1, q2, q3, -⟩ := h18 j
      exact ⟨by rw [hk _ _ (Or.inl (by decide))]; exact q1, by rw [hk _ _ (Or.inl (by decide))]; exact q2, by rw [hk _ _ (Or.inl (by decide))]; exact q3⟩
    · rw [hk _ _ (Or.inl (by decide))]
      exact (h18 i).2.2.2
    · rw [hk 12 _ (by decide), hus]
      exact Int.le_refl _
  refine ⟨ss ++ [s], k1 + 1, cs ++ cs1, zr_M_st (zr_M_t hM h2 hu) e3, ?_, ?_, ?_, fun j s' hj => ?_, ?_⟩
  · rw [List.length_append, List.length_cons, List.length_nil]
    omega
  · rw [List.length_append]
    omega
  · rw [zr_S_tk hM.2.2.2.2.2.2, zr_S_va hM.2.2.2.2.2.2] at hsm
    rw [zr_S_tk hM.2.2.2.2.2.2] at h59
    exact zp_ts_snoc ss 0 ke k1 s ht hsm h59
  · by_cases q : j < ss.length
    · rw [List.getElem?_append_left q] at hj
      have hnj : j ≠ n := by omega
      refine r3 j s' (zr_row_k (hr j s' hj) (hos j hnj) (fun i hi => hm.2.2.2.2.2.1 i hi) ?_)
      rw [hm.2.2.2.1]
      omega
    · rw [List.getElem?_append_right (by omega)] at hj
      have hjn : j = n := by
        rcases Nat.lt_or_ge (j - ss.length) 1 with q2 | q2
        · omega
        · rw [List.getElem?_eq_none (by simpa using q2)] at hj
          cases hj
      have e0 : j - ss.length = 0 := by omega
      rw [e0] at hj
      have hs : s = s' := by simpa using hj
      rw [hjn, ← hs]
      exact r3 n s hrow
  · rw [e3, z_up_s, hv, hy1]
/-- what read() tells -/
noncomputable def zr_OK (h : Nat → Int) (K : z_I) : Prop := ∃ ss : List zp_T, zp_tx (zr_tk K) (zr_va K) ss ∧ (K 12 13).toInt = (ss.length : Int) ∧ ∀ (j : Nat) (s : zp_T), ss[j]? = some s → zr_row K j s
noncomputable def zr_RE (h : Nat → Int) (K : z_I) (r : Int) : Prop := zr_SM h K ∧ ((r = -1 ∧ zr_OK h K) ∨ ∃ f, zp_tn (zr_tk K) (zr_va K) f ∧ (f : Int) < (K 12 5).toInt ∧ r = (((K 16 f).toNatClampNeg : Nat) : Int))
theorem zr_RE_ok {h : Nat → Int} {Ia K : z_I} {y : Int} (hs : zr_SM h Ia) (hr : zr_RL Ia K y) (hy : y ≤ 24) (ht : (K 12 7).toInt = 401) : zr_RE h K (-1) := by
  obtain ⟨ss, ke, cs, a1, a2, a3, a4, a5, a6⟩ := hr
  have hS := a1.2.2.2.2.2.2
  refine ⟨zr_SM_S hs hS, Or.inl ⟨rfl, ss, ⟨by omega, ke, ?_, ?_⟩, by omega, a5⟩⟩
  · rw [zr_S_tk hS, zr_S_va hS]
    exact a4
  · rw [zr_S_tk hS, ← a1.2.2.1]
    exact ht
theorem zr_RE_no {h : Nat → Int} {Ia I K : z_I} {y : Int} {ss : List zp_T} {ke f : Nat} {cs : List Int} {r : Int} (hs : zr_SM h Ia) (hM : zr_M Ia I ke cs) (hl : (ss.length : Int) = y) (hy : y ≤ 24) (hts : zp_ts (zr_tk Ia) (zr_va Ia) 0 ss ke) (hF : zr_F I K f) (hn : zr_tk I ke ≠ 401) (hw : (y = 24 ∧ f = ke) ∨ (y < 24 ∧ (zp_sn (zr_tk I) (zr_va I) ke f ∨ ∃ k1 s, zp_sm (zr_tk I) (zr_va I) ke k1 s ∧ zr_tk I k1 ≠ 59 ∧ f = k1))) (hr : r = (K 16 f).toInt) : zr_RE h K r := by
  have hS1 := hM.2.2.2.2.2.2
  have hS := zr_S_t hS1 hF.2.2
  have hsK := zr_SM_S hs hS
  have hfl : (f : Int) < (K 12 5).toInt := by rw [hF.2.2.1]; exact hF.2.1
  rw [zr_S_tk hS1] at hn
  rw [zr_S_tk hS1, zr_S_va hS1] at hw
  refine ⟨hsK, Or.inr ⟨f, ?_, hfl, by rw [hr]; exact (zr_SM_p hsK hfl).symm⟩⟩
  rw [zr_S_tk hS, zr_S_va hS]
  refine ⟨ss, ke, hts, by omega, hn, ?_⟩
  rcases hw with ⟨w1, w2⟩ | ⟨w1, w2⟩
  · exact Or.inl ⟨by omega, w2⟩
  · exact Or.inr ⟨by omega, w2⟩
set_option maxHeartbeats 8000000 in
set_option maxRecDepth 100000 in
theorem sx_X9_place_x (l : Launch) (G : z_G) (ad : Nat → Nat) (c : z_C) (I : z_I) (hR : z_iR I) (I0 : z_I) (tf : Nat) (hF : zr_F I0 I tf) (h5 : (I0 12 5).toInt ≤ 501) : z_M l yX9_place wsX9_place { frames := 1, cells := 0, slots := 0, locals := 12 } [.ref (ad 12)] G (shC c, ad, I, JX, PC c ad) (fun r u1 => u1 = (shC c, ad, I, JX, PC c ad) ∧ (r.toInt = (I 16 tf).toInt)) 0 0 := by
  intro sz
  refine z_headQ (cc := cX9_place) (maxL := 1) (ret := (some .int)) (by decide) rfl (Nat.le_of_ble_eq_true rfl) ?_
  intro p e s m below meth c0 ls hIn hK hsz hW hl
  obtain ⟨hx, hb, hr, hml, hown, hts, hlocks, hname⟩ := hIn
  subst hsz
  have hown : s.vm.findClass RX9 = some m.cls := hown
  have hA : ∀ q : Nat, s.heap.size ≤ q → z_A (shC c, ad, I, JX, PC c ad) s.heap.size q := fun q h => Or.inr h
  generalize hAe : z_A (shC c, ad, I, JX, PC c ad) s.heap.size = A at *
  have hS : va_S A s.heap s.heap [] := va_S.rf
  have hl : lv_has ls 1 [(0, .ref (ad 12))] := hl
  have hF1 := hF.1
  have hF2 := hF.2.1
  have hF3 := congrArg Int32.toInt hF.2.2.1
  refine lv_aload_n hx hb dX9_place_0 rfl (lv_at hl 0 rfl) ?_
  have r1 : (-1) ≤ (I 12 6).toInt ∧ (I 12 6).toInt ≤ 1000000 := hR.2.2.1
  refine z_get (T := TX9) (N := 14) (ci := 9) (i := 12) (v := .int (I 12 6)) hx hb hts zj_X9_place_X9 hown hK hW rfl rfl 6 (by decide) (hts (.fieldLink RX9 56 "PetrolBoard$Reader" "at" "I") (me_s (me_l (List.mem_of_getElem? (i := 0) rfl)))) (fun _ h => h) rfl dX9_place_1 ?_
  refine lv_if_lt (tgt := 42) hx hb dX9_place_4 (by decide) (fun c2 => ?_) (fun c2 => ?_)
  · have g3 := z_f_lt rfl z_l0 c2
    refine lv_iconst (v := 0) hx hb dX9_place_42 (by decide) ?_
    exact z_iret hx hb hr hK hS (Nat.le_of_ble_eq_true rfl) (Nat.le_of_ble_eq_true rfl) hlocks dX9_place_43 (shC c, ad, I, JX, PC c ad) hW ⟨rfl, (False.elim (by omega))⟩
  · have g4 := z_f_nlt rfl z_l0 c2
    refine lv_aload_n hx hb dX9_place_7 rfl (lv_at hl 0 rfl) ?_
    refine z_get (T := TX9) (N := 14) (ci := 9) (i := 12) (v := .int (I 12 6)) hx hb hts zj_X9_place_X9 hown hK hW rfl rfl 6 (by decide) (hts (.fieldLink RX9 56 "PetrolBoard$Reader" "at" "I") (me_s (me_l (List.mem_of_getElem? (i := 0) rfl)))) (fun _ h => h) rfl dX9_place_8 ?_
    refine lv_aload_n hx hb dX9_place_11 rfl (lv_at hl 0 rfl) ?_
    have r5 : 0 ≤ (I 12 5).toInt ∧ (I 12 5).toInt ≤ 501 := hR.2.1
    refine z_get (T := TX9) (N := 14) (ci := 9) (i := 12) (v := .int (I 12 5)) hx hb hts zj_X9_place_X9 hown hK hW rfl rfl 5 (by decide) (hts (.fieldLink RX9 76 "PetrolBoard$Reader" "scanned" "I") (me_s (me_l (List.mem_of_getElem? (i := 1) rfl)))) (fun _ h => h) rfl dX9_place_12 ?_
    refine lv_icmp_ge (tgt := 42) hx hb dX9_place_15 (by decide) (fun c6 => ?_) (fun c6 => ?_)
    · have g7 := z_f_ge rfl rfl c6
      refine lv_iconst (v := 0) hx hb dX9_place_42 (by decide) ?_
      exact z_iret hx hb hr hK hS (Nat.le_of_ble_eq_true rfl) (Nat.le_of_ble_eq_true rfl) hlocks dX9_place_43 (shC c, ad, I, JX, PC c ad) hW ⟨rfl, (False.elim (by omega))⟩
    · have g8 := z_f_nge rfl rfl c6
      refine lv_aload_n hx hb dX9_place_18 rfl (lv_at hl 0 rfl) ?_
      refine z_get (T := TX9) (N := 14) (ci := 9) (i := 12) (v := .int (I 12 6)) hx hb hts zj_X9_place_X9 hown hK hW rfl rfl 6 (by decide) (hts (.fieldLink RX9 56 "PetrolBoard$Reader" "at" "I") (me_s (me_l (List.mem_of_getElem? (i := 0) rfl)))) (fun _ h => h) rfl dX9_place_19 ?_
      refine lv_aload_n hx hb dX9_place_22 rfl (lv_at hl 0 rfl) ?_
      refine z_get (T := TX9) (N := 14) (ci := 9) (i := 12) (v := .ref (ad 16)) hx hb hts zj_X9_place_X9 hown hK hW rfl rfl 4 (by decide) (hts (.fieldLink RX9 21 "PetrolBoard$Reader" "places" "[I") (me_s (me_l (List.mem_of_getElem? (i := 2) rfl)))) (fun _ h => h) rfl dX9_place_23 ?_
      refine z_alen (i := 16) (v := 501) hx hb hK hW rfl (by simp [z_tys]) (by rfl) dX9_place_26 ?_
      refine lv_icmp_ge (tgt := 42) hx hb dX9_place_27 (by decide) (fun c9 => (by have g := z_f_ge rfl z_l501 c9; omega)) (fun c9 => ?_)
      have g10 := z_f_nge rfl z_l501 c9
      refine lv_aload_n hx hb dX9_place_30 rfl (lv_at hl 0 rfl) ?_
      refine z_get (T := TX9) (N := 14) (ci := 9) (i := 12) (v := .ref (ad 16)) hx hb hts zj_X9_place_X9 hown hK hW rfl rfl 4 (by decide) (hts (.fieldLink RX9 21 "PetrolBoard$Reader" "places" "[I") (me_s (me_l (List.mem_of_getElem? (i := 2) rfl)))) (fun _ h => h) rfl dX9_place_31 ?_
      refine lv_aload_n hx hb dX9_place_34 rfl (lv_at hl 0 rfl) ?_
      refine z_get (T := TX9) (N := 14) (ci := 9) (i := 12) (v := .int (I 12 6)) hx hb hts zj_X9_place_X9 hown hK hW rfl rfl 6 (by decide) (hts (.fieldLink RX9 56 "PetrolBoard$Reader" "at" "I") (me_s (me_l (List.mem_of_getElem? (i := 0) rfl)))) (fun _ h => h) rfl dX9_place_35 ?_
      refine z_iald (i := 16) hx hb hK hW rfl (z_ix rfl (by omega) (by omega)) dX9_place_38 ?_
      refine lv_topi (fun x11 ex11 => ?_)
      refine lv_goto (tgt := 43) hx hb dX9_place_39 (by decide) ?_
      exact z_iret hx hb hr hK hS (Nat.le_of_ble_eq_true rfl) (Nat.le_of_ble_eq_true rfl) hlocks dX9_place_43 (shC c, ad, I, JX, PC c ad) hW ⟨rfl, (by rw [ex11]; show (I 16 (I 12 6).toNatClampNeg).toInt = _; rw [show (I 12 6).toNatClampNeg = tf by have := z_clt hF.1 (by omega); omega])⟩
noncomputable def L_X9_read_x : z_L := [(14, 999), (16, 999), (15, 999), (12, 5), (12, 1), (12, 9), (12, 13), (12, 6), (12, 7), (17, 999), (20, 999), (19, 999), (18, 999)]
set_option maxHeartbeats 8000000 in
set_option maxRecDepth 100000 in
theorem sx_X9_read_x (l : Launch) (G : z_G) (adK adV : Nat → Nat) (ad : Nat → Nat) (c : z_C) (I : z_I) (hR : z_iR I) (tn : Nat) (a1 : Int32) (q1 : 0 ≤ a1.toInt) (q2 : a1.toInt ≤ (I 12 1).toInt) (hn : a1.toInt = (tn : Int)) (hn5 : tn ≤ 500) (h0 : ∀ p, p < tn → 0 ≤ zx_h I tn p) : z_MN (z_Ck adK adV) l yX9_read wsX9_read { frames := 87, cells := 0, slots := 0, locals := 1901 } [.ref (ad 12), .int a1] G (shC c, ad, I, JX, PC c ad) (fun r u1 => ∃ I1 : z_I, u1 = (shC c, ad, I1, JX, PC c ad) ∧ z_iR I1 ∧ z_fr L_X9_read_x I1 I ∧ (zr_RE (zx_h I tn) I1 r.toInt ∧ (I1 12 1).toInt = 0)) 0 0 := by
  intro sz
  refine z_headN (cc := cX9_read) (maxL := 3) (ret := (some .int)) (by decide) rfl (Nat.le_of_ble_eq_true rfl) ?_
  intro p e s m below meth c0 ls hIn hK hsz hW hl hKn
  obtain ⟨hx, hb, hr, hml, hown, hts, hlocks, hname⟩ := hIn
  subst hsz
  have hown : s.vm.findClass RX9 = some m.cls := hown
  have hA : ∀ q : Nat, s.heap.size ≤ q → z_A (shC c, ad, I, JX, PC c ad) s.heap.size q := fun q h => Or.inr h
  generalize hAe : z_A (shC c, ad, I, JX, PC c ad) s.heap.size = A at *
  have hS : va_S A s.heap s.heap [] := va_S.rf
  have hl : lv_has ls 3 [(0, .ref (ad 12)), (1, .int a1)] := hl
  refine lv_aload_n hx hb dX9_read_0 rfl (lv_at hl 0 rfl) ?_
  refine lv_iload_n hx hb dX9_read_1 rfl (lv_at hl 1 rfl) ?_
  refine lv_aload_n hx hb dX9_read_2 rfl (lv_at hl 0 rfl) ?_
  have r1 : 0 ≤ (I 12 1).toInt ∧ (I 12 1).toInt ≤ 500 := hR.1
  refine z_get (T := TX9) (N := 14) (ci := 9) (i := 12) (v := .int (I 12 1)) hx hb hts zj_X9_read_X9 hown hK hW rfl rfl 1 (by decide) (hts (.fieldLink RX9 36 "PetrolBoard$Reader" "taped" "I") (me_s (me_l (me_l (List.mem_of_getElem? (i := 0) rfl))))) (fun _ h => h) rfl dX9_read_3 ?_
  refine va_mmin (x := a1) (y := (I 12 1)) hx hb (hml.trans hl.1.symm) hown (hts (.methodLink RX9 40 Lib.Math.min.name) (me_s (me_l (me_l (List.mem_of_getElem? (i := 1) rfl))))) (hts (.static Lib.Math.min.name) (me_s (me_l (me_l (List.mem_of_getElem? (i := 2) rfl))))) (hts (.initialized "java/lang/Math") (me_s (me_l (me_l (List.mem_of_getElem? (i := 3) rfl))))) (hts (.code Lib.Math.min.name Lib.Math.min.code 2 (some .int)) (me_s (me_l (me_l (List.mem_of_getElem? (i := 4) rfl))))) (Nat.le_of_ble_eq_true rfl) (Nat.le_of_ble_eq_true rfl) (Nat.le_of_ble_eq_true rfl) (Nat.le_of_ble_eq_true rfl) dX9_read_6 ?_
  refine lv_topi (fun x2 ex2 => ?_)
  have tx2 := z_tmmin ex2 rfl rfl
  refine z_cv hW hS hA (va_runV (As := [.int x2]) (rest := []) ⟨hx, hb, hml, hown, hts⟩ (sx_X9_scan_x l G adK adV ad c I ⟨(by show 0 ≤ (I 12 1).toInt ∧ (I 12 1).toInt ≤ 500; exact hR.1), (by show 0 ≤ (I 12 5).toInt ∧ (I 12 5).toInt ≤ 501; exact hR.2.1), (by show (-1) ≤ (I 12 6).toInt ∧ (I 12 6).toInt ≤ 1000000; exact hR.2.2.1), (by show 0 ≤ (I 12 9).toInt ∧ (I 12 9).toInt ≤ 500; exact hR.2.2.2.1), (by show 0 ≤ (I 12 13).toInt ∧ (I 12 13).toInt ≤ 24; exact hR.2.2.2.2)⟩ tn x2 (by omega) hn5 h0 _) (cwV 1 hts gX9_read_X9_scan rfl rfl rfl (by decide +kernel) ⟨Nat.le_of_ble_eq_true rfl, Nat.le_of_ble_eq_true rfl⟩) (z_preVN (z_Ck.nice adK adV) (i := 12) hK hW hS hA hKn rfl rfl) rfl rfl hl.1 rfl (lv_room (Nat.le_of_ble_eq_true rfl)) dX9_read_9 ⟨Nat.le_of_ble_eq_true rfl, Nat.le_of_ble_eq_true rfl⟩) (fun u1 H locs hp hW hS => ?_)
  obtain ⟨I3, e9, hI3R, fI3, hp⟩ := hp
  rw [e9] at hW
  have f4 := z_fr_sub (L := L_X9_read_x) z_fr_0 fI3 (by decide)
  have hsF := hp
  have hsm0 := zr_SM_F hn5 hsF
  refine lv_aload_n hx hb dX9_read_12 rfl (lv_at hl 0 rfl) ?_
  refine lv_iconst (v := 0) hx hb dX9_read_13 (by decide) ?_
  refine z_put (T := TX9) (N := 14) (ci := 9) (i := 12) (v := .int 0) (I1 := z_up I3 12 1 0) (J1 := JX) (P1 := PC c ad) hx hb hts zj_X9_read_X9 tyX9 tyX9_ok nmX9 hown hK hW hS rfl rfl 1 (by decide) (hts (.fieldLink RX9 36 "PetrolBoard$Reader" "taped" "I") (me_s (me_l (me_l (List.mem_of_getElem? (i := 0) rfl))))) (fun _ h => h) rfl rfl rfl (by first | rfl | exact congrArg _ z_up_s) (fun a b h ty => z_vI h ty) dX9_read_14 (fun H locs hz1 hW hS => ?_)
  obtain ⟨I5, eI5⟩ : ∃ K : z_I, K = z_up I3 12 1 0 := ⟨_, rfl⟩
  rw [← eI5] at hW
  have f6 := z_fr_k f4 (show z_wr L_X9_read_x 12 1 = true by decide) eI5
  refine lv_aload_n hx hb dX9_read_17 rfl (lv_at hl 0 rfl) ?_
  refine lv_iconst (v := 0) hx hb dX9_read_18 (by decide) ?_
  refine z_put (T := TX9) (N := 14) (ci := 9) (i := 12) (v := .int 0) (I1 := z_up I5 12 9 0) (J1 := JX) (P1 := PC c ad) hx hb hts zj_X9_read_X9 tyX9 tyX9_ok nmX9 hown hK hW hS rfl rfl 9 (by decide) (hts (.fieldLink RX9 50 "PetrolBoard$Reader" "used" "I") (me_s (me_l (me_l (List.mem_of_getElem? (i := 5) rfl))))) (fun _ h => h) rfl rfl rfl (by first | rfl | exact congrArg _ z_up_s) (fun a b h ty => z_vI h ty) dX9_read_19 (fun H locs hz1 hW hS => ?_)
  obtain ⟨I7, eI7⟩ : ∃ K : z_I, K = z_up I5 12 9 0 := ⟨_, rfl⟩
  rw [← eI7] at hW
  have f8 := z_fr_k f6 (show z_wr L_X9_read_x 12 9 = true by decide) eI7
  refine lv_aload_n hx hb dX9_read_22 rfl (lv_at hl 0 rfl) ?_
  refine lv_iconst (v := 0) hx hb dX9_read_23 (by decide) ?_
  refine z_put (T := TX9) (N := 14) (ci := 9) (i := 12) (v := .int 0) (I1 := z_up I7 12 13 0) (J1 := JX) (P1 := PC c ad) hx hb hts zj_X9_read_X9 tyX9 tyX9_ok nmX9 hown hK hW hS rfl rfl 13 (by decide) (hts (.fieldLink RX9 53 "PetrolBoard$Reader" "statements" "I") (me_s (me_l (me_l (List.mem_of_getElem? (i := 6) rfl))))) (fun _ h => h) rfl rfl rfl (by first | rfl | exact congrArg _ z_up_s) (fun a b h ty => z_vI h ty) dX9_read_24 (fun H locs hz1 hW hS => ?_)
  obtain ⟨I9, eI9⟩ : ∃ K : z_I, K = z_up I7 12 13 0 := ⟨_, rfl⟩
  rw [← eI9] at hW
  have f10 := z_fr_k f8 (show z_wr L_X9_read_x 12 13 = true by decide) eI9
  refine lv_aload_n hx hb dX9_read_27 rfl (lv_at hl 0 rfl) ?_
  refine lv_iconst (v := (-1)) hx hb dX9_read_28 (by decide) ?_
  refine z_put (T := TX9) (N := 14) (ci := 9) (i := 12) (v := .int (-1)) (I1 := z_up I9 12 6 (-1)) (J1 := JX) (P1 := PC c ad) hx hb hts zj_X9_read_X9 tyX9 tyX9_ok nmX9 hown hK hW hS rfl rfl 6 (by decide) (hts (.fieldLink RX9 56 "PetrolBoard$Reader" "at" "I") (me_s (me_l (me_l (List.mem_of_getElem? (i := 7) rfl))))) (fun _ h => h) rfl rfl rfl (by first | rfl | exact congrArg _ z_up_s) (fun a b h ty => z_vI h ty) dX9_read_29 (fun H locs hz1 hW hS => ?_)
  obtain ⟨I11, eI11⟩ : ∃ K : z_I, K = z_up I9 12 6 (-1) := ⟨_, rfl⟩
  rw [← eI11] at hW
  have f12 := z_fr_k f10 (show z_wr L_X9_read_x 12 6 = true by decide) eI11
  have hSs : zr_S I3 I11 := ⟨by rw [eI11, z_up_k (by decide), eI9, z_up_k (by decide), eI7, z_up_k (by decide), eI5, z_up_k (by decide)], fun j => by rw [eI11, z_up_n (by decide), eI9, z_up_n (by decide), eI7, z_up_n (by decide), eI5, z_up_n (by decide)], fun j => by rw [eI11, z_up_n (by decide), eI9, z_up_n (by decide), eI7, z_up_n (by decide), eI5, z_up_n (by decide)], fun j => by rw [eI11, z_up_n (by decide), eI9, z_up_n (by decide), eI7, z_up_n (by decide), eI5, z_up_n (by decide)]⟩
  have hsm1 := zr_SM_S hsm0 hSs
  have hsq1 := zr_SM_Q hsm1
  have hat : (I11 12 6).toInt + 1 = ((0 : Nat) : Int) := (by show (I11 12 6).toInt + 1 = ((0 : Nat) : Int); have q9 : (I11 12 6) = (-1) := (by rw [eI11, z_up_s]); rw [q9]; first | omega | decide)
  refine lv_aload_n hx hb dX9_read_32 rfl (lv_at hl 0 rfl) ?_
  refine z_cv hW hS hA (va_runV (As := []) (rest := []) ⟨hx, hb, hml, hown, hts⟩ (sx_X9_step_x l G ad c I11 ⟨(by show 0 ≤ (I11 12 1).toInt ∧ (I11 12 1).toInt ≤ 500; rw [eI11, z_up_k (by decide), eI9, z_up_k (by decide), eI7, z_up_k (by decide), eI5, z_up_s]; decide), (by show 0 ≤ (I11 12 5).toInt ∧ (I11 12 5).toInt ≤ 501; rw [eI11, z_up_k (by decide), eI9, z_up_k (by decide), eI7, z_up_k (by decide), eI5, z_up_k (by decide)]; exact hI3R.2.1), (by show (-1) ≤ (I11 12 6).toInt ∧ (I11 12 6).toInt ≤ 1000000; rw [eI11, z_up_s]; decide), (by show 0 ≤ (I11 12 9).toInt ∧ (I11 12 9).toInt ≤ 500; rw [eI11, z_up_k (by decide), eI9, z_up_k (by decide), eI7, z_up_s]; decide), (by show 0 ≤ (I11 12 13).toInt ∧ (I11 12 13).toInt ≤ 24; rw [eI11, z_up_k (by decide), eI9, z_up_s]; decide)⟩ 0 ⟨hat, by omega, by omega⟩ _) (cwV 0 hts gX9_read_X9_step rfl rfl rfl (by decide +kernel) ⟨Nat.le_of_ble_eq_true rfl, Nat.le_of_ble_eq_true rfl⟩) (z_preV (i := 12) hK hW rfl rfl) rfl rfl hl.1 rfl (lv_room (Nat.le_of_ble_eq_true rfl)) dX9_read_33 ⟨Nat.le_of_ble_eq_true rfl, Nat.le_of_ble_eq_true rfl⟩) (fun u1 H locs hp hW hS => ?_)
  obtain ⟨I13, e9, hI13R, hI13T, fI13, hp⟩ := hp
  rw [e9] at hW
  have f14 := z_fr_sub (L := L_X9_read_x) f12 fI13 (by decide)
  have hMs := hp
  have hsm : zr_SM (zx_h I tn) I13 := zr_SM_S hsm1 hMs.2.2.2.2.2.2
  have hsq := zr_SM_Q hsm
  have hus : (I13 12 9).toInt = 0 := (by rw [fI13 12 9 (by decide), eI11, z_up_k (by decide), eI9, z_up_k (by decide), eI7, z_up_s]; decide)
  have hst0 : (I13 12 13).toInt = 0 := (by rw [fI13 12 13 (by decide), eI11, z_up_k (by decide), eI9, z_up_s]; decide)
  have hta0 : (I13 12 1).toInt = 0 := (by rw [fI13 12 1 (by decide), eI11, z_up_k (by decide), eI9, z_up_k (by decide), eI7, z_up_k (by decide), eI5, z_up_s]; decide)
  have hPa : zr_P I13 0 := ⟨hMs.1, by rw [hMs.2.2.2.2.2.2.1]; exact hMs.2.1, by rw [zr_S_tk hMs.2.2.2.2.2.2]; exact hMs.2.2.1, by omega, by omega, hsq.2.1, hsq.2.2⟩
  have hvaA := zr_SM_va hsm
  have hPa1 := hPa.1
  refine lv_iconst (v := 0) hx hb dX9_read_36 (by decide) ?_
  refine lv_istore_n (lv' := [(2, .int 0), (0, .ref (ad 12)), (1, .int a1)]) hx hb dX9_read_37 rfl hl (by decide) rfl (fun ls hl => ?_)
  have lp15 : ∀ (f : Nat) (y16 : Int32) (I17 : z_I) (H : Heap) (locs : List Loc) (ls : Array Slot), (2147483647 < y16.toInt + (f : Int)) → (0 ≤ y16.toInt) → (y16.toInt ≤ 24) → (z_iR I17) → (z_iT I17) → (zr_RL I13 I17 y16.toInt) → ((I17 12 1).toInt = 0) → (z_fr L_X9_read_x I17 I) → z_W G A (shC c, ad, I17, JX, PC c ad) H → va_S A s.heap H locs → lv_has ls 3 [(2, .int y16), (0, .ref (ad 12)), (1, .int a1)] → W p l e (headSpec wsX9_read { frames := 87, cells := 0, slots := 0, locals := 1901 }).room s m ([.ref (ad 12), .int a1] : List Value).toArray below meth c0 H locs 0 0 (MQ below (va_Qi (fun (r : Int32) (u1 : z_U) => ∃ I1 : z_I, u1 = (shC c, ad, I1, JX, PC c ad) ∧ z_iR I1 ∧ z_fr L_X9_read_x I1 I ∧ (zr_RE (zx_h I tn) I1 r.toInt ∧ (I1 12 1).toInt = 0)) (z_B G A) A) ([.ref (ad 12), .int a1] : List Value).toArray s 0 0 A) (F0 m 38 ls []) := by
    intro f
    induction f with
    | zero => intro y16 I17  H locs ls lp15m lp15l2 lp15u2 lp15R lp15T lp15RL lp15TA lp15fr hW hS hl; exact absurd lp15m (by have := Int32.toInt_lt y16; have := Int32.le_toInt y16; omega)
    | succ f lp15ih =>
      intro y16 I17  H locs ls lp15m lp15l2 lp15u2 lp15R lp15T lp15RL lp15TA lp15fr hW hS hl
      have k18 : (I17 12 6).toInt ≤ 501 ∧ ((I17 12 7).toInt = 401 ∨ (I17 12 6).toInt ≤ 500) := lp15T
      refine lv_iload_n hx hb dX9_read_38 rfl (lv_at hl 0 rfl) ?_
      obtain ⟨ss9, ke9, cs9, hMa, hla, hca, hta, hra, hya⟩ := id lp15RL
      have hP := zr_P_m hPa hMa (by omega)
      have hM0 := zr_M_0 hP
      have hP1 := hP.1
      have hP2 := hP.2.1
      have hP3 := hP.2.2.1
      have hP4 := hP.2.2.2.1
      have hP5 := hP.2.2.2.2.1
      have hP6 := hP.2.2.2.2.2.1
      have hlz : ([] : List Int).length = 0 := rfl
      have hva : ∀ k, zr_tk I17 k = 400 → 0 ≤ zr_va I17 k ∧ zr_va I17 k ≤ 999999 := fun k hk => (by rw [zr_tkS hMa] at hk; rw [zr_vaS hMa]; exact hvaA k hk)
      refine lv_bipush (v := 24) hx hb dX9_read_39 (by decide) ?_
      refine lv_icmp_ge (tgt := 89) hx hb dX9_read_41 (by decide) (fun c19 => ?_) (fun c19 => ?_)
      · have g20 := z_f_ge rfl z_l24 c19
        refine lv_aload_n hx hb dX9_read_89 rfl (lv_at hl 1 rfl) ?_
        refine z_get (T := TX9) (N := 14) (ci := 9) (i := 12) (v := .int (I17 12 7)) hx hb hts zj_X9_read_X9 hown hK hW rfl rfl 7 (by decide) (hts (.fieldLink RX9 62 "PetrolBoard$Reader" "token" "I") (me_s (me_l (me_l (List.mem_of_getElem? (i := 8) rfl))))) (fun _ h => h) rfl dX9_read_90 ?_
        refine lv_sipush (v := 401) hx hb dX9_read_93 (by decide) ?_
        refine lv_icmp_ne (tgt := 103) hx hb dX9_read_96 (by decide) (fun c21 => ?_) (fun c21 => ?_)
        · have g22 := z_f_ne rfl z_l401 c21
          have b23 := Int32.toInt_lt (I17 12 7)
          refine lv_aload_n hx hb dX9_read_103 rfl (lv_at hl 1 rfl) ?_
          refine z_ci hW hS hA (va_runV (As := []) (rest := []) ⟨hx, hb, hml, hown, hts⟩ (sx_X9_place_x l G ad c I17 ⟨(by show 0 ≤ (I17 12 1).toInt ∧ (I17 12 1).toInt ≤ 500; exact lp15R.1), (by show 0 ≤ (I17 12 5).toInt ∧ (I17 12 5).toInt ≤ 501; exact lp15R.2.1), (by show (-1) ≤ (I17 12 6).toInt ∧ (I17 12 6).toInt ≤ 1000000; exact lp15R.2.2.1), (by show 0 ≤ (I17 12 9).toInt ∧ (I17 12 9).toInt ≤ 500; exact lp15R.2.2.2.1), (by show 0 ≤ (I17 12 13).toInt ∧ (I17 12 13).toInt ≤ 24; exact lp15R.2.2.2.2)⟩ I17 ke9 (zr_F_0 hM0) (by omega) _) (cwV 0 hts gX9_read_X9_place rfl rfl rfl (by decide +kernel) ⟨Nat.le_of_ble_eq_true rfl, Nat.le_of_ble_eq_true rfl⟩) (z_preV (i := 12) hK hW rfl rfl) rfl rfl hl.1 rfl (lv_room (Nat.le_of_ble_eq_true rfl)) dX9_read_104 ⟨Nat.le_of_ble_eq_true rfl, Nat.le_of_ble_eq_true rfl⟩) (fun r u1 H locs hp hW hS => ?_)
          obtain ⟨e9, hp⟩ := hp
          rw [e9] at hW
          refine lv_topi (fun x24 ex24 => ?_)
          rw [← ex24] at hp
          have h25 := hp
          exact z_iret hx hb hr hK hS (Nat.le_of_ble_eq_true rfl) (Nat.le_of_ble_eq_true rfl) hlocks dX9_read_107 (shC c, ad, I17, JX, PC c ad) hW ⟨I17, rfl, ⟨(by show 0 ≤ (I17 12 1).toInt ∧ (I17 12 1).toInt ≤ 500; exact lp15R.1), (by show 0 ≤ (I17 12 5).toInt ∧ (I17 12 5).toInt ≤ 501; exact lp15R.2.1), (by show (-1) ≤ (I17 12 6).toInt ∧ (I17 12 6).toInt ≤ 1000000; exact lp15R.2.2.1), (by show 0 ≤ (I17 12 9).toInt ∧ (I17 12 9).toInt ≤ 500; exact lp15R.2.2.2.1), (by show 0 ≤ (I17 12 13).toInt ∧ (I17 12 13).toInt ≤ 24; exact lp15R.2.2.2.2)⟩, lp15fr, ⟨(zr_RE_no hsm hMa hla (by omega) hta (zr_F_0 hM0) (by omega) (Or.inl ⟨by omega, rfl⟩) h25), (by exact lp15TA)⟩⟩
        · have g26 := z_f_eq rfl z_l401 c21
          have b27 := Int32.toInt_lt (I17 12 7)
          refine lv_iconst (v := (-1)) hx hb dX9_read_99 (by decide) ?_
          refine lv_goto (tgt := 107) hx hb dX9_read_100 (by decide) ?_
          exact z_iret hx hb hr hK hS (Nat.le_of_ble_eq_true rfl) (Nat.le_of_ble_eq_true rfl) hlocks dX9_read_107 (shC c, ad, I17, JX, PC c ad) hW ⟨I17, rfl, ⟨(by show 0 ≤ (I17 12 1).toInt ∧ (I17 12 1).toInt ≤ 500; exact lp15R.1), (by show 0 ≤ (I17 12 5).toInt ∧ (I17 12 5).toInt ≤ 501; exact lp15R.2.1), (by show (-1) ≤ (I17 12 6).toInt ∧ (I17 12 6).toInt ≤ 1000000; exact lp15R.2.2.1), (by show 0 ≤ (I17 12 9).toInt ∧ (I17 12 9).toInt ≤ 500; exact lp15R.2.2.2.1), (by show 0 ≤ (I17 12 13).toInt ∧ (I17 12 13).toInt ≤ 24; exact lp15R.2.2.2.2)⟩, lp15fr, ⟨(zr_RE_ok hsm lp15RL (by omega) (by omega)), (by exact lp15TA)⟩⟩
      · have g28 := z_f_nge rfl z_l24 c19
        refine lv_aload_n hx hb dX9_read_44 rfl (lv_at hl 1 rfl) ?_
        refine z_get (T := TX9) (N := 14) (ci := 9) (i := 12) (v := .int (I17 12 7)) hx hb hts zj_X9_read_X9 hown hK hW rfl rfl 7 (by decide) (hts (.fieldLink RX9 62 "PetrolBoard$Reader" "token" "I") (me_s (me_l (me_l (List.mem_of_getElem? (i := 8) rfl))))) (fun _ h => h) rfl dX9_read_45 ?_
        refine lv_sipush (v := 401) hx hb dX9_read_48 (by decide) ?_
        refine lv_icmp_eq (tgt := 89) hx hb dX9_read_51 (by decide) (fun c29 => ?_) (fun c29 => ?_)
        · have g30 := z_f_eq rfl z_l401 c29
          have b31 := Int32.toInt_lt (I17 12 7)
          refine lv_aload_n hx hb dX9_read_89 rfl (lv_at hl 1 rfl) ?_
          refine z_get (T := TX9) (N := 14) (ci := 9) (i := 12) (v := .int (I17 12 7)) hx hb hts zj_X9_read_X9 hown hK hW rfl rfl 7 (by decide) (hts (.fieldLink RX9 62 "PetrolBoard$Reader" "token" "I") (me_s (me_l (me_l (List.mem_of_getElem? (i := 8) rfl))))) (fun _ h => h) rfl dX9_read_90 ?_
          refine lv_sipush (v := 401) hx hb dX9_read_93 (by decide) ?_
          refine lv_icmp_ne (tgt := 103) hx hb dX9_read_96 (by decide) (fun c32 => (by have g := z_f_ne rfl z_l401 c32; omega)) (fun c32 => ?_)
          have g33 := z_f_eq rfl z_l401 c32
          refine lv_iconst (v := (-1)) hx hb dX9_read_99 (by decide) ?_
          refine lv_goto (tgt := 107) hx hb dX9_read_100 (by decide) ?_
          exact z_iret hx hb hr hK hS (Nat.le_of_ble_eq_true rfl) (Nat.le_of_ble_eq_true rfl) hlocks dX9_read_107 (shC c, ad, I17, JX, PC c ad) hW ⟨I17, rfl, ⟨(by show 0 ≤ (I17 12 1).toInt ∧ (I17 12 1).toInt ≤ 500; exact lp15R.1), (by show 0 ≤ (I17 12 5).toInt ∧ (I17 12 5).toInt ≤ 501; exact lp15R.2.1), (by show (-1) ≤ (I17 12 6).toInt ∧ (I17 12 6).toInt ≤ 1000000; exact lp15R.2.2.1), (by show 0 ≤ (I17 12 9).toInt ∧ (I17 12 9).toInt ≤ 500; exact lp15R.2.2.2.1), (by show 0 ≤ (I17 12 13).toInt ∧ (I17 12 13).toInt ≤ 24; exact lp15R.2.2.2.2)⟩, lp15fr, ⟨(zr_RE_ok hsm lp15RL (by omega) (by omega)), (by exact lp15TA)⟩⟩
        · have g34 := z_f_ne rfl z_l401 c29
          have b35 := Int32.toInt_lt (I17 12 7)
          refine lv_aload_n hx hb dX9_read_54 rfl (lv_at hl 1 rfl) ?_
          refine lv_iload_n hx hb dX9_read_55 rfl (lv_at hl 0 rfl) ?_
          refine z_ci hW hS hA (va_runV (As := [.int y16]) (rest := []) ⟨hx, hb, hml, hown, hts⟩ (sx_X9_statement_x l G ad c I17 ⟨(by show 0 ≤ (I17 12 1).toInt ∧ (I17 12 1).toInt ≤ 500; exact lp15R.1), (by show 0 ≤ (I17 12 5).toInt ∧ (I17 12 5).toInt ≤ 501; exact lp15R.2.1), (by show (-1) ≤ (I17 12 6).toInt ∧ (I17 12 6).toInt ≤ 1000000; exact lp15R.2.2.1), (by show 0 ≤ (I17 12 9).toInt ∧ (I17 12 9).toInt ≤ 500; exact lp15R.2.2.2.1), (by show 0 ≤ (I17 12 13).toInt ∧ (I17 12 13).toInt ≤ 24; exact lp15R.2.2.2.2)⟩ (by show (I17 12 6).toInt ≤ 501 ∧ ((I17 12 7).toInt = 401 ∨ (I17 12 6).toInt ≤ 500); first | omega | decide) ke9 y16 hP ⟨by omega, by omega⟩ hva _) (cwV 1 hts gX9_read_X9_statement rfl rfl rfl (by decide +kernel) ⟨Nat.le_of_ble_eq_true rfl, Nat.le_of_ble_eq_true rfl⟩) (z_preV (i := 12) hK hW rfl rfl) rfl rfl hl.1 rfl (lv_room (Nat.le_of_ble_eq_true rfl)) dX9_read_56 ⟨Nat.le_of_ble_eq_true rfl, Nat.le_of_ble_eq_true rfl⟩) (fun r u1 H locs hp hW hS => ?_)
          obtain ⟨I36, e9, hI36R, hI36T, fI36, hp⟩ := hp
          rw [e9] at hW
          have f37 := z_fr_sub (L := L_X9_read_x) lp15fr fI36 (by decide)
          have k38 : (I36 12 6).toInt ≤ 501 ∧ ((I36 12 7).toInt = 401 ∨ (I36 12 6).toInt ≤ 500) := hI36T
          rcases hp with ⟨rfl, hq⟩ | ⟨rfl, hq⟩
          · obtain ⟨kS, sS, csS, hmS, hkS, hlS, hsmS, hrowS, hosS⟩ := hq
            have hM39 := (zr_M_t0 hM0 hmS hP.2.2.2.2.1)
            have h40 := hM39.1
            have h41 := hM39.2.1
            have h42 := hM39.2.2.1
            have h43 := hM39.2.2.2.1
            have l44 : (csS).length = csS.length := by first | rfl | (simp only [List.length_append, List.length_cons, List.length_nil] <;> omega)
            refine lv_if_eq (tgt := 71) hx hb dX9_read_59 (by decide) (fun c45 => absurd c45 (by decide)) (fun c45 => ?_)
            refine lv_aload_n hx hb dX9_read_62 rfl (lv_at hl 1 rfl) ?_
            refine lv_bipush (v := 59) hx hb dX9_read_63 (by decide) ?_
            refine z_ci hW hS hA (va_runV (As := [.int 59]) (rest := []) ⟨hx, hb, hml, hown, hts⟩ (sx_X9_taken_x l G ad c I36 ⟨(by show 0 ≤ (I36 12 1).toInt ∧ (I36 12 1).toInt ≤ 500; exact hI36R.1), (by show 0 ≤ (I36 12 5).toInt ∧ (I36 12 5).toInt ≤ 501; exact hI36R.2.1), (by show (-1) ≤ (I36 12 6).toInt ∧ (I36 12 6).toInt ≤ 1000000; exact hI36R.2.2.1), (by show 0 ≤ (I36 12 9).toInt ∧ (I36 12 9).toInt ≤ 500; exact hI36R.2.2.2.1), (by show 0 ≤ (I36 12 13).toInt ∧ (I36 12 13).toInt ≤ 24; exact hI36R.2.2.2.2)⟩ (by show (I36 12 6).toInt ≤ 501 ∧ ((I36 12 7).toInt = 401 ∨ (I36 12 6).toInt ≤ 500); first | omega | decide) kS 59 (zr_P_m hP hM39 (by omega)) (by first | omega | decide) _) (cwV 1 hts gX9_read_X9_taken rfl rfl rfl (by decide +kernel) ⟨Nat.le_of_ble_eq_true rfl, Nat.le_of_ble_eq_true rfl⟩) (z_preV (i := 12) hK hW rfl rfl) rfl rfl hl.1 rfl (lv_room (Nat.le_of_ble_eq_true rfl)) dX9_read_65 ⟨Nat.le_of_ble_eq_true rfl, Nat.le_of_ble_eq_true rfl⟩) (fun r u1 H locs hp hW hS => ?_)
            obtain ⟨I46, e9, hI46R, hI46T, fI46, hp⟩ := hp
            rw [e9] at hW
            have f47 := z_fr_sub (L := L_X9_read_x) f37 fI46 (by decide)
            have k48 : (I46 12 6).toInt ≤ 501 ∧ ((I46 12 7).toInt = 401 ∨ (I46 12 6).toInt ≤ 500) := hI46T
            rcases hp with ⟨rfl, h49, h50⟩ | ⟨rfl, h49, h50⟩
            · rw [zr_tkS hM39] at h49
              have z51 := z_l59
              have hM52 := zr_M_s hM39 h50 hP.2.2.2.2.1
              have h53 := hM52.1
              have h54 := hM52.2.1
              have h55 := hM52.2.2.1
              have h56 := hM52.2.2.2.1
              have l57 : (csS).length = csS.length := by first | rfl | (simp only [List.length_append, List.length_cons, List.length_nil] <;> omega)
              refine lv_if_ne (tgt := 76) hx hb dX9_read_68 (by decide) (fun c58 => ?_) (fun c58 => absurd c58 (by decide))
              refine lv_aload_n hx hb dX9_read_76 rfl (lv_at hl 1 rfl) ?_
              refine lv_iload_n hx hb dX9_read_77 rfl (lv_at hl 0 rfl) ?_
              refine lv_iconst (v := 1) hx hb dX9_read_78 (by decide) ?_
              refine lv_iadd hx hb dX9_read_79 ?_
              refine lv_topi (fun x59 ex59 => ?_)
              have tx59 : x59.toInt = y16.toInt + 1 := z_tadd ex59 rfl z_l1 (by omega) (by omega)
              refine z_put (T := TX9) (N := 14) (ci := 9) (i := 12) (v := .int x59) (I1 := z_up I46 12 13 x59) (J1 := JX) (P1 := PC c ad) hx hb hts zj_X9_read_X9 tyX9 tyX9_ok nmX9 hown hK hW hS rfl rfl 13 (by decide) (hts (.fieldLink RX9 53 "PetrolBoard$Reader" "statements" "I") (me_s (me_l (me_l (List.mem_of_getElem? (i := 6) rfl))))) (fun _ h => h) rfl rfl rfl (by first | rfl | exact congrArg _ z_up_s) (fun a b h ty => z_vI h ty) dX9_read_80 (fun H locs hz1 hW hS => ?_)
              obtain ⟨I60, eI60⟩ : ∃ K : z_I, K = z_up I46 12 13 x59 := ⟨_, rfl⟩
              rw [← eI60] at hW
              have f61 := z_fr_k f47 (show z_wr L_X9_read_x 12 13 = true by decide) eI60
              obtain ⟨x62, ex62⟩ : ∃ y : Int32, y = y16 + 1 := ⟨_, rfl⟩
              have tx62 : x62.toInt = y16.toInt + 1 := z_tadd ex62 rfl z_l1 (by omega) (by omega)
              refine lv_iinc (v := x62) (lv' := [(2, .int x62), (0, .ref (ad 12)), (1, .int a1)]) hx hb dX9_read_83 hl (k := 0) rfl (by rw [ex62]; rfl) (by decide) rfl (fun ls hl => ?_)
              refine lv_goto (tgt := 38) hx hb dX9_read_86 (by decide) ?_
              exact lp15ih x62 I60  _ _ _ (by omega) (by omega) (by omega) ⟨(by show 0 ≤ (I60 12 1).toInt ∧ (I60 12 1).toInt ≤ 500; rw [eI60, z_up_k (by decide)]; exact hI46R.1), (by show 0 ≤ (I60 12 5).toInt ∧ (I60 12 5).toInt ≤ 501; rw [eI60, z_up_k (by decide)]; exact hI46R.2.1), (by show (-1) ≤ (I60 12 6).toInt ∧ (I60 12 6).toInt ≤ 1000000; rw [eI60, z_up_k (by decide)]; exact hI46R.2.2.1), (by show 0 ≤ (I60 12 9).toInt ∧ (I60 12 9).toInt ≤ 500; rw [eI60, z_up_k (by decide)]; exact hI46R.2.2.2.1), (by show 0 ≤ (I60 12 13).toInt ∧ (I60 12 13).toInt ≤ 24; rw [eI60, z_up_s]; omega)⟩ (by have q0 : (I60 12 6) = (I46 12 6) := (by rw [eI60, z_up_k (by decide)]); have q1 : (I60 12 7) = (I46 12 7) := (by rw [eI60, z_up_k (by decide)]); show (I60 12 6).toInt ≤ 501 ∧ ((I60 12 7).toInt = 401 ∨ (I60 12 6).toInt ≤ 500); rw [q0, q1]; first | omega | decide) (zr_RL_s (n := y16.toNatClampNeg) (by omega) hMa hla (by omega) hta hra hmS hlS hsmS hrowS hosS (z_clt rfl (by omega)) (by omega) hM52 (fun j => ⟨fI46 18 j (z_wr_c (by decide)), fI46 19 j (z_wr_c (by decide)), fI46 20 j (z_wr_c (by decide)), fI46 17 j (z_wr_c (by decide))⟩) eI60 (by omega) (by omega)) (by rw [eI60, z_up_k (by decide), fI46 12 1 (by decide), fI36 12 1 (by decide)]; exact lp15TA) f61 hW hS (lv_sub hl [0, 1, 2] rfl)
            · rw [zr_tkS hM39] at h49
              have z63 := z_l59
              have hM64 := zr_M_s hM39 h50 hP.2.2.2.2.1
              have h65 := hM64.1
              have h66 := hM64.2.1
              have h67 := hM64.2.2.1
              have h68 := hM64.2.2.2.1
              have l69 : (csS).length = csS.length := by first | rfl | (simp only [List.length_append, List.length_cons, List.length_nil] <;> omega)
              refine lv_if_ne (tgt := 76) hx hb dX9_read_68 (by decide) (fun c70 => absurd (by decide) c70) (fun c70 => ?_)
              refine lv_aload_n hx hb dX9_read_71 rfl (lv_at hl 1 rfl) ?_
              refine z_ci hW hS hA (va_runV (As := []) (rest := []) ⟨hx, hb, hml, hown, hts⟩ (sx_X9_place_x l G ad c I46 ⟨(by show 0 ≤ (I46 12 1).toInt ∧ (I46 12 1).toInt ≤ 500; exact hI46R.1), (by show 0 ≤ (I46 12 5).toInt ∧ (I46 12 5).toInt ≤ 501; exact hI46R.2.1), (by show (-1) ≤ (I46 12 6).toInt ∧ (I46 12 6).toInt ≤ 1000000; exact hI46R.2.2.1), (by show 0 ≤ (I46 12 9).toInt ∧ (I46 12 9).toInt ≤ 500; exact hI46R.2.2.2.1), (by show 0 ≤ (I46 12 13).toInt ∧ (I46 12 13).toInt ≤ 24; exact hI46R.2.2.2.2)⟩ I17 kS (zr_F_0 hM64) (by omega) _) (cwV 0 hts gX9_read_X9_place rfl rfl rfl (by decide +kernel) ⟨Nat.le_of_ble_eq_true rfl, Nat.le_of_ble_eq_true rfl⟩) (z_preV (i := 12) hK hW rfl rfl) rfl rfl hl.1 rfl (lv_room (Nat.le_of_ble_eq_true rfl)) dX9_read_72 ⟨Nat.le_of_ble_eq_true rfl, Nat.le_of_ble_eq_true rfl⟩) (fun r u1 H locs hp hW hS => ?_)
              obtain ⟨e9, hp⟩ := hp
              rw [e9] at hW
              refine lv_topi (fun x71 ex71 => ?_)
              rw [← ex71] at hp
              have h72 := hp
              exact z_iret hx hb hr hK hS (Nat.le_of_ble_eq_true rfl) (Nat.le_of_ble_eq_true rfl) hlocks dX9_read_75 (shC c, ad, I46, JX, PC c ad) hW ⟨I46, rfl, ⟨(by show 0 ≤ (I46 12 1).toInt ∧ (I46 12 1).toInt ≤ 500; exact hI46R.1), (by show 0 ≤ (I46 12 5).toInt ∧ (I46 12 5).toInt ≤ 501; exact hI46R.2.1), (by show (-1) ≤ (I46 12 6).toInt ∧ (I46 12 6).toInt ≤ 1000000; exact hI46R.2.2.1), (by show 0 ≤ (I46 12 9).toInt ∧ (I46 12 9).toInt ≤ 500; exact hI46R.2.2.2.1), (by show 0 ≤ (I46 12 13).toInt ∧ (I46 12 13).toInt ≤ 24; exact hI46R.2.2.2.2)⟩, f47, ⟨(zr_RE_no hsm hMa hla (by omega) hta (zr_F_0 hM64) (by omega) (Or.inr ⟨by omega, Or.inr ⟨_, _, hsmS, by omega, rfl⟩⟩) h72), (by rw [fI46 12 1 (by decide), fI36 12 1 (by decide)]; exact lp15TA)⟩⟩
          · obtain ⟨fS, hFS, hsnS⟩ := hq
            refine lv_if_eq (tgt := 71) hx hb dX9_read_59 (by decide) (fun c73 => ?_) (fun c73 => absurd (by decide) c73)
            refine lv_aload_n hx hb dX9_read_71 rfl (lv_at hl 1 rfl) ?_
            refine z_ci hW hS hA (va_runV (As := []) (rest := []) ⟨hx, hb, hml, hown, hts⟩ (sx_X9_place_x l G ad c I36 ⟨(by show 0 ≤ (I36 12 1).toInt ∧ (I36 12 1).toInt ≤ 500; exact hI36R.1), (by show 0 ≤ (I36 12 5).toInt ∧ (I36 12 5).toInt ≤ 501; exact hI36R.2.1), (by show (-1) ≤ (I36 12 6).toInt ∧ (I36 12 6).toInt ≤ 1000000; exact hI36R.2.2.1), (by show 0 ≤ (I36 12 9).toInt ∧ (I36 12 9).toInt ≤ 500; exact hI36R.2.2.2.1), (by show 0 ≤ (I36 12 13).toInt ∧ (I36 12 13).toInt ≤ 24; exact hI36R.2.2.2.2)⟩ I17 fS hFS (by omega) _) (cwV 0 hts gX9_read_X9_place rfl rfl rfl (by decide +kernel) ⟨Nat.le_of_ble_eq_true rfl, Nat.le_of_ble_eq_true rfl⟩) (z_preV (i := 12) hK hW rfl rfl) rfl rfl hl.1 rfl (lv_room (Nat.le_of_ble_eq_true rfl)) dX9_read_72 ⟨Nat.le_of_ble_eq_true rfl, Nat.le_of_ble_eq_true rfl⟩) (fun r u1 H locs hp hW hS => ?_)
            obtain ⟨e9, hp⟩ := hp
            rw [e9] at hW
            refine lv_topi (fun x74 ex74 => ?_)
            rw [← ex74] at hp
            have h75 := hp
            exact z_iret hx hb hr hK hS (Nat.le_of_ble_eq_true rfl) (Nat.le_of_ble_eq_true rfl) hlocks dX9_read_75 (shC c, ad, I36, JX, PC c ad) hW ⟨I36, rfl, ⟨(by show 0 ≤ (I36 12 1).toInt ∧ (I36 12 1).toInt ≤ 500; exact hI36R.1), (by show 0 ≤ (I36 12 5).toInt ∧ (I36 12 5).toInt ≤ 501; exact hI36R.2.1), (by show (-1) ≤ (I36 12 6).toInt ∧ (I36 12 6).toInt ≤ 1000000; exact hI36R.2.2.1), (by show 0 ≤ (I36 12 9).toInt ∧ (I36 12 9).toInt ≤ 500; exact hI36R.2.2.2.1), (by show 0 ≤ (I36 12 13).toInt ∧ (I36 12 13).toInt ≤ 24; exact hI36R.2.2.2.2)⟩, f37, ⟨(zr_RE_no hsm hMa hla (by omega) hta hFS (by omega) (Or.inr ⟨by omega, (Or.inl hsnS)⟩) h75), (by rw [fI36 12 1 (by decide)]; exact lp15TA)⟩⟩
  exact lp15 4294967296 (0) I13  _ _ _ (z_m0u _) (by rw [z_l0]; omega) (by rw [z_l0]; omega) ⟨(by show 0 ≤ (I13 12 1).toInt ∧ (I13 12 1).toInt ≤ 500; exact hI13R.1), (by show 0 ≤ (I13 12 5).toInt ∧ (I13 12 5).toInt ≤ 501; exact hI13R.2.1), (by show (-1) ≤ (I13 12 6).toInt ∧ (I13 12 6).toInt ≤ 1000000; exact hI13R.2.2.1), (by show 0 ≤ (I13 12 9).toInt ∧ (I13 12 9).toInt ≤ 500; exact hI13R.2.2.2.1), (by show 0 ≤ (I13 12 13).toInt ∧ (I13 12 13).toInt ≤ 24; exact hI13R.2.2.2.2)⟩ (by show (I13 12 6).toInt ≤ 501 ∧ ((I13 12 7).toInt = 401 ∨ (I13 12 6).toInt ≤ 500); first | omega | decide) (zr_RL_0 (zr_M_0 hPa) hst0 (by decide)) hta0 f14 hW hS (lv_sub hl [0, 1, 2] rfl)
