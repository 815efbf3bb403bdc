

set_option maxHeartbeats 8000000 in
set_option maxRecDepth 100000 in
theorem sx_X11_station_e (l : Launch) (G : z_G) (ad : Nat → Nat) (c : z_C) (I : z_I) (h10 : c.1 ≤ 10) (hsn : (I 0 8).toInt = (c.1 : Int)) : z_M l yX11_station wsX11_station { frames := 2, cells := 8, slots := 220, locals := 40 } [.ref (ad 0)] G (shC c, ad, I, JX, PC c ad) (fun r u1 => ∃ (c1 : z_C) (ad1 : Nat → Nat) (I1 : z_I), u1 = (shC c1, ad1, I1, JX, PC c1 ad1) ∧ c1.2 = c.2 ∧ c1.1 ≤ 10 ∧ (I1 0 8).toInt = (c1.1 : Int) ∧ (∀ j, j < 75 → ad1 j = ad j) ∧ (∀ a k, a < 75 → ¬ (a = 0 ∧ k = 8) → I1 a k = I a k) ∧ (z_iS c I → z_iS c1 I1) ∧ (((I 0 8).toInt < 10 ∧ r.toInt = (I 0 8).toInt ∧ (I1 0 8).toInt = (I 0 8).toInt + 1) ∨ (¬ (I 0 8).toInt < 10 ∧ r.toInt = -1 ∧ (I1 0 8).toInt = (I 0 8).toInt))) 8 220 := by
  intro sz
  refine z_headQ (cc := cX11_station) (maxL := 1) (ret := (some .int)) (by decide) rfl (Nat.le_of_ble_eq_true rfl) ?_
  intro p e s m below meth c0 ls hIn hK hsz hW hl
  obtain ⟨hx, hb, hr, hml, hown, hts, hlocks, hname⟩ := hIn
  subst hsz
  have hown : s.vm.findClass RX11 = some m.cls := hown
  have hA : ∀ q : Nat, s.heap.size ≤ q → z_A (shC c, ad, I, JX, PC c ad) s.heap.size q := fun q h => Or.inr h
  generalize hAe : z_A (shC c, ad, I, JX, PC c ad) s.heap.size = A at *
  have hS : va_S A s.heap s.heap [] := va_S.rf
  have hl : lv_has ls 1 [(0, .ref (ad 0))] := hl
  refine lv_aload_n hx hb dX11_station_0 rfl (lv_at hl 0 rfl) ?_
  refine z_get (T := TX11) (N := 13) (ci := 11) (i := 0) (v := .int (I 0 8)) hx hb hts zj_X11_station_X11 hown hK hW rfl rfl 8 (by decide) (hts (.fieldLink RX11 178 "PetrolBoard" "stationNumber" "I") (me_s (me_l (me_l (List.mem_of_getElem? (i := 0) rfl))))) (fun _ h => h) rfl dX11_station_1 ?_
  refine lv_aload_n hx hb dX11_station_4 rfl (lv_at hl 0 rfl) ?_
  refine z_get (T := TX11) (N := 13) (ci := 11) (i := 0) (v := .ref (ad 39)) hx hb hts zj_X11_station_X11 hown hK hW rfl rfl 7 (by decide) (hts (.fieldLink RX11 50 "PetrolBoard" "stations" "[LPetrolBoard$Station;") (me_s (me_l (me_l (List.mem_of_getElem? (i := 1) rfl))))) (fun _ h => h) rfl dX11_station_5 ?_
  refine z_alen (i := 39) (v := 10) hx hb hK hW rfl (by simp [z_tys]) (by rfl) dX11_station_8 ?_
  refine lv_icmp_lt (tgt := 14) hx hb dX11_station_9 (by decide) (fun c1 => ?_) (fun c1 => ?_)
  · have g1 := z_f_lt rfl (show (10 : Int32).toInt = 10 by decide) c1
    have h9 : c.1 < 10 := by omega
    refine lv_aload_n hx hb dX11_station_14 rfl (lv_at hl 0 rfl) ?_
    refine z_get (T := TX11) (N := 13) (ci := 11) (i := 0) (v := .ref (ad 39)) hx hb hts zj_X11_station_X11 hown hK hW rfl rfl 7 (by decide) (hts (.fieldLink RX11 50 "PetrolBoard" "stations" "[LPetrolBoard$Station;") (me_s (me_l (me_l (List.mem_of_getElem? (i := 1) rfl))))) (fun _ h => h) rfl dX11_station_15 ?_
    refine lv_aload_n hx hb dX11_station_18 rfl (lv_at hl 0 rfl) ?_
    refine z_get (T := TX11) (N := 13) (ci := 11) (i := 0) (v := .int (I 0 8)) hx hb hts zj_X11_station_X11 hown hK hW rfl rfl 8 (by decide) (hts (.fieldLink RX11 178 "PetrolBoard" "stationNumber" "I") (me_s (me_l (me_l (List.mem_of_getElem? (i := 0) rfl))))) (fun _ h => h) rfl dX11_station_19 ?_
    obtain ⟨ad1, ead⟩ : ∃ f, f = z_ad8 ad (z_i0 c) s.heap.size := ⟨_, rfl⟩
    obtain ⟨P1, eP1⟩ : ∃ f, f = z_P8 (PC c ad) (z_i0 c) := ⟨_, rfl⟩
    have hlo : ∀ j, j < 75 → ad1 j = ad j := fun j hj => by rw [ead]; exact if_neg (by unfold z_i0; omega)
    have hnew : ∀ j, j < 8 → ad1 (z_i0 c + j) = s.heap.size + j := fun j hj => by rw [ead]; show (if _ then _ else _) = _; rw [if_pos (by omega)]; omega
    have hW := z_re8 (q := s.heap.size) h9 hW
    rw [← ead, ← eP1] at hW
    have hl : lv_has ls 1 [(0, .ref (ad1 0))] := by rw [hlo 0 (by decide)]; exact hl
    refine W.eq (g2 := F0 m 22 ls [.int (I 0 8), .ref (ad1 39)]) (by rw [hlo 39 (by decide)]) ?_
    refine z_new (z_i0 c) ad1 (T := TX10) (N := 10) (ci := 10) hx hb hts zj_X11_station_X10 tyX10 tyX10_ok hown (hts (.classLink RX11 48 RX10) (me_s (me_l (me_l (List.mem_of_getElem? (i := 2) rfl))))) (hts (.instantiable RX10 10) (me_s (me_l (me_l (List.mem_of_getElem? (i := 3) rfl))))) (hts (.initialized RX10) (me_s (me_l (me_l (List.mem_of_getElem? (i := 4) rfl))))) hK hW hS hA (hnew 0 (by decide)) (fun _ _ => rfl) rfl (fun k hk => (z_v0 (if_pos (by omega)) rfl (by rw [eP1]; exact if_pos rfl) (ndX10 k hk)).symm) (Nat.le_of_ble_eq_true rfl) (Nat.le_of_ble_eq_true rfl) dX11_station_22 (fun H hz1 hW hS => ?_)
    refine lv_dup hx hb dX11_station_25 rfl ?_
    refine z_cc hW hS hA (va_runIN (As := []) (rest := [.ref (ad1 (z_i0 c)), .int (I 0 8), .ref (ad1 39)]) ⟨hx, hb, hml, hown, hts⟩ (sx_X10_init l G (z_sh (shC c) (z_i0 c) (.inr 10)) ad1 (z_I8 I (z_i0 c)) JX P1 (z_i0 c) _ (by simp [z_sh]) (fun j hj => by rw [hz1, Nat.add_assoc, hnew (1 + j) (by omega)]; omega) (fun j hj k => if_pos (by omega))) ⟨va_cnB 0 hts gX11_station_X10_init_n181 rfl rfl rfl (hK.2.2.1 _ (List.mem_of_getElem? (i := 11) rfl)) (hts (.initialized RX10) (me_s (me_l (me_l (List.mem_of_getElem? (i := 4) rfl))))) (by decide +kernel) ⟨(Nat.le_of_ble_eq_true rfl), (Nat.le_of_ble_eq_true rfl)⟩, rfl, (hts (.instanceMethod yX10_init) (me_s (me_l (me_l (List.mem_of_getElem? (i := 5) rfl)))))⟩ (z_preS hK hW) rfl rfl hl.1 rfl (lv_room (Nat.le_of_ble_eq_true rfl)) dX11_station_26 ⟨(Nat.le_of_ble_eq_true rfl), (Nat.le_of_ble_eq_true rfl)⟩) (fun H locs hz1 hW hS => ?_)
    have hsh39 : z_shr (z_sh (shC c) (z_i0 c) (.inr 10)) (z_i0 c) 30 7 39 = some (.inl (.object RX10, 10)) := by rw [z_shC_1 h9]; rfl
    have hsh0 : z_shr (z_sh (shC c) (z_i0 c) (.inr 10)) (z_i0 c) 30 7 0 = some (.inr 11) := by rw [z_shC_1 h9]; rfl
    have hshi : z_shr (z_sh (shC c) (z_i0 c) (.inr 10)) (z_i0 c) 30 7 (z_i0 c) = some (.inr 10) := (z_shr_o 7).trans (by simp [z_sh])
    refine z_aast (i := 39) (j := z_i0 c) (x := I 0 8) (ci := 10) hx hb hK hW hS hsh39 (by simp [z_tys]) hshi rfl (z_ix rfl (by omega) (by omega)) dX11_station_29 (fun H locs hz1 hW hS => ?_)
    have hI8 : z_I8 I (z_i0 c) 0 8 = I 0 8 := if_neg (by unfold z_i0; omega)
    have hx9 : (I 0 8).toNatClampNeg = c.1 := by have := z_clt (x := I 0 8) hsn (by omega); omega
    obtain ⟨P2, eP2⟩ : ∃ f, f = z_up (z_ps z_f10 P1 (z_i0 c) ad1 7) 39 (I 0 8).toNatClampNeg (some (ad1 (z_i0 c))) := ⟨_, rfl⟩
    rw [← eP2] at hW
    refine lv_aload_n hx hb dX11_station_30 rfl (lv_at hl 0 rfl) ?_
    refine lv_dup hx hb dX11_station_31 rfl ?_
    refine z_get (T := TX11) (N := 13) (ci := 11) (i := 0) (v := .int (I 0 8)) hx hb hts zj_X11_station_X11 hown hK hW hsh0 rfl 8 (by decide) (hts (.fieldLink RX11 178 "PetrolBoard" "stationNumber" "I") (me_s (me_l (me_l (List.mem_of_getElem? (i := 0) rfl))))) (fun _ h => h) (congrArg Value.int hI8) dX11_station_32 ?_
    refine lv_iconst (v := 1) hx hb dX11_station_35 (by decide) ?_
    refine lv_iadd hx hb dX11_station_36 ?_
    refine lv_topi (fun y ey => ?_)
    have ty : y.toInt = (c.1 : Int) + 1 := z_tadd ey hsn (show (1 : Int32).toInt = 1 by decide) (by omega) (by omega)
    refine z_put (T := TX11) (N := 13) (ci := 11) (i := 0) (v := .int y) (I1 := z_up (z_I8 I (z_i0 c)) 0 8 y) (J1 := JX) (P1 := P2) hx hb hts zj_X11_station_X11 tyX11 tyX11_ok nmX11 hown hK hW hS hsh0 rfl 8 (by decide) (hts (.fieldLink RX11 178 "PetrolBoard" "stationNumber" "I") (me_s (me_l (me_l (List.mem_of_getElem? (i := 0) rfl))))) (fun _ h => h) rfl rfl rfl (by first | rfl | exact congrArg _ z_up_s) (fun a b h ty => z_vI h ty) dX11_station_37 (fun H locs hz1 hW hS => ?_)
    obtain ⟨I2, eI2⟩ : ∃ f, f = z_up (z_I8 I (z_i0 c)) 0 8 y := ⟨_, rfl⟩
    rw [← eI2] at hW
    refine lv_aload_n hx hb dX11_station_40 rfl (lv_at hl 0 rfl) ?_
    refine z_get (T := TX11) (N := 13) (ci := 11) (i := 0) (v := .int y) hx hb hts zj_X11_station_X11 hown hK hW hsh0 rfl 8 (by decide) (hts (.fieldLink RX11 178 "PetrolBoard" "stationNumber" "I") (me_s (me_l (me_l (List.mem_of_getElem? (i := 0) rfl))))) (fun _ h => h) (congrArg Value.int (by rw [eI2, z_up_s])) dX11_station_41 ?_
    refine lv_iconst (v := 1) hx hb dX11_station_44 (by decide) ?_
    refine lv_isub hx hb dX11_station_45 ?_
    refine lv_topi (fun rr err => ?_)
    have trr : rr.toInt = (c.1 : Int) + 1 - 1 := z_tsub err ty (show (1 : Int32).toInt = 1 by decide) (by omega) (by omega)
    rw [eP2, eP1, ead] at hW
    have hW := z_st1 h9 hx9 hW
    rw [← ead] at hW
    exact z_iret hx hb hr hK hS (Nat.le_of_ble_eq_true rfl) (Nat.le_of_ble_eq_true rfl) hlocks dX11_station_46 (shC (z_c1 c), ad1, I2, JX, PC (z_c1 c) ad1) hW ⟨z_c1 c, ad1, I2, rfl, rfl, (by show c.1 + 1 ≤ 10; omega), (by rw [eI2, z_up_s, ty]; rfl), hlo, (fun a k ha hk => by rw [eI2]; by_cases q : a = 0; (· (rw [z_up_k (fun e => hk ⟨q, e⟩)]; exact if_neg (by unfold z_i0; omega))); (· (rw [z_up_n q]; exact if_neg (by unfold z_i0; omega)))), z_st2 eI2, Or.inl ⟨by omega, by omega, by rw [eI2, z_up_s, ty]; omega⟩⟩
  · refine lv_iconst (v := (-1)) hx hb dX11_station_12 (by decide) ?_
    exact z_iret hx hb hr hK hS (Nat.le_of_ble_eq_true rfl) (Nat.le_of_ble_eq_true rfl) hlocks dX11_station_13 (shC c, ad, I, JX, PC c ad) hW ⟨c, ad, I, rfl, rfl, h10, hsn, fun _ _ => rfl, fun _ _ _ _ => rfl, fun h => h, Or.inr ⟨by have := z_f_nlt rfl (show (10 : Int32).toInt = 10 by decide) c1; omega, by decide, rfl⟩⟩
