noncomputable def shSX35 : Nat → Option z_S := z_sh shSX33 18 (.inl (.int, 24))
theorem hs_shSX35_12 : shSX35 12 = some (.inr 9) := hs_shSX33_12
noncomputable def PSX36 (ad : Nat → Nat) : z_P := z_up (PSX34 ad) 12 10 (some (ad 18))
noncomputable def shSX37 : Nat → Option z_S := z_sh shSX35 19 (.inl (.int, 24))
theorem hs_shSX37_12 : shSX37 12 = some (.inr 9) := hs_shSX35_12
noncomputable def PSX38 (ad : Nat → Nat) : z_P := z_up (PSX36 ad) 12 11 (some (ad 19))
noncomputable def shSX39 : Nat → Option z_S := z_sh shSX37 20 (.inl (.int, 24))
theorem hs_shSX39_12 : shSX39 12 = some (.inr 9) := hs_shSX37_12
noncomputable def PSX40 (ad : Nat → Nat) : z_P := z_up (PSX38 ad) 12 12 (some (ad 20))
theorem zi_X9_init_X9 : ∀ w ∈ wsX90, w ∈ wsX9_init := fun w h => (List.mem_cons_of_mem _ (List.mem_append_right _ h))
set_option maxHeartbeats 8000000 in
set_option maxRecDepth 100000 in
theorem ct_X9_init (l : Launch) (G : z_G) (ad : Nat → Nat) (had : ∀ k i, ad (i + k) = ad i + k) (sz : Nat) (hz : sz = ad 13) : z_Mc l yX9_init wsX9_init { frames := 1, cells := 8, slots := 2575, locals := 12 } [.ref (ad 12)] G (shSX24, ad, ISX1, z_J0, (PSX23 ad)) (shSX39, ad, ISX1, z_J0, (PSX40 ad)) 8 8 2575 sz := by
  refine z_headQ (cc := cX9_init) (maxL := 1) (ret := none) (by decide) rfl (Nat.le_of_ble_eq_true rfl) ?_
  intro p e s m below meth c ls hIn hK hsz hW hl
  obtain ⟨hx, hb, hr, hml, hown, hts, hlocks, hname⟩ := hIn
  subst hsz
  have hz0 := hz
  have hown : s.vm.findClass RX9 = some m.cls := hown
  have hname : meth.name = "<init>" := hname
  have hA : ∀ q : Nat, s.heap.size ≤ q → z_A (shSX24, ad, ISX1, z_J0, (PSX23 ad)) s.heap.size q := fun q h => Or.inr h
  generalize hAe : z_A (shSX24, ad, ISX1, z_J0, (PSX23 ad)) s.heap.size = A at *
  have hS : va_S A s.heap s.heap [] := va_S.rf
  have hl : lv_has ls 1 [(0, .ref (ad 12))] := hl
  refine lv_aload_n hx hb dX9_init_0 rfl (lv_at hl 0 rfl) ?_
  refine W.objInit hx hb hown (hts (.methodLink RX9 3 objectInit) (me_s (me_l (List.mem_of_getElem? (i := 0) rfl)))) (hts (.instanceMethod objectInit) (me_s (me_l (List.mem_of_getElem? (i := 1) rfl)))) (hts (.code objectInit ⟨#[0xb1]⟩ 1 none) (me_s (me_l (List.mem_of_getElem? (i := 2) rfl)))) rfl (by rw [hml]; exact hl.1) rfl dX9_init_1 (Nat.le_of_ble_eq_true rfl) (Nat.le_of_ble_eq_true rfl) ?_
  refine W.eq (g2 := F0 m 4 ls []) rfl ?_
  refine lv_aload_n hx hb dX9_init_4 rfl (lv_at hl 0 rfl) ?_
  refine lv_sipush (v := 500) hx hb dX9_init_5 (by decide) ?_
  refine z_newa 13 ad (atype := .int) (ty := .int) (N' := 500) hx hb (hts (.arrayClass .int) (me_s (me_l (List.mem_of_getElem? (i := 3) rfl)))) rfl hK (by simp [z_tys]) hW hS hA hz.symm (fun _ _ => rfl) (fun _ => rfl) (by decide) rfl (Nat.le_of_ble_eq_true rfl) (Nat.le_of_ble_eq_true rfl) (Nat.le_of_ble_eq_true rfl) dX9_init_8 (fun H hz1 hW hS => ?_)
  have hz : H.size = ad 14 := hz1.trans ((congrArg (· + 1) hz).trans (had 1 _).symm)
  have hW : z_W _ A (shSX25, ad, ISX1, z_J0, (PSX23 ad)) H := hW
  refine z_putF (T := TX9) (N := 14) (ci := 9) (i := 12) (v := .ref (ad 13)) (I1 := ISX1) (J1 := z_J0) (P1 := (PSX26 ad)) hx hb hts zi_X9_init_X9 tyX9 tyX9_ok nmX9 hown hK hW hS hs_shSX25_12 rfl 0 (by decide) (hts (.fieldLink RX9 9 "PetrolBoard$Reader" "text" "[I") (me_s (me_l (List.mem_of_getElem? (i := 4) rfl)))) (fun _ h => h) rfl hname rfl rfl rfl (by first | rfl | exact congrArg _ z_up_s) (fun a b h ty => z_vP h ty) dX9_init_10 (fun H locs hz1 hW hS => ?_)
  have hz : H.size = ad 14 := hz1.trans hz
  refine lv_aload_n hx hb dX9_init_13 rfl (lv_at hl 0 rfl) ?_
  refine lv_sipush (v := 501) hx hb dX9_init_14 (by decide) ?_
  refine z_newa 14 ad (atype := .int) (ty := .int) (N' := 501) hx hb (hts (.arrayClass .int) (me_s (me_l (List.mem_of_getElem? (i := 3) rfl)))) rfl hK (by simp [z_tys]) hW hS hA hz.symm (fun _ _ => rfl) (fun _ => rfl) (by decide) rfl (Nat.le_of_ble_eq_true rfl) (Nat.le_of_ble_eq_true rfl) (Nat.le_of_ble_eq_true rfl) dX9_init_17 (fun H hz1 hW hS => ?_)
  have hz : H.size = ad 15 := hz1.trans ((congrArg (· + 1) hz).trans (had 1 _).symm)
  have hW : z_W _ A (shSX27, ad, ISX1, z_J0, (PSX26 ad)) H := hW
  refine z_putF (T := TX9) (N := 14) (ci := 9) (i := 12) (v := .ref (ad 14)) (I1 := ISX1) (J1 := z_J0) (P1 := (PSX28 ad)) hx hb hts zi_X9_init_X9 tyX9 tyX9_ok nmX9 hown hK hW hS hs_shSX27_12 rfl 2 (by decide) (hts (.fieldLink RX9 15 "PetrolBoard$Reader" "tokens" "[I") (me_s (me_l (List.mem_of_getElem? (i := 5) rfl)))) (fun _ h => h) rfl hname rfl rfl rfl (by first | rfl | exact congrArg _ z_up_s) (fun a b h ty => z_vP h ty) dX9_init_19 (fun H locs hz1 hW hS => ?_)
  have hz : H.size = ad 15 := hz1.trans hz
  refine lv_aload_n hx hb dX9_init_22 rfl (lv_at hl 0 rfl) ?_
  refine lv_sipush (v := 501) hx hb dX9_init_23 (by decide) ?_
  refine z_newa 15 ad (atype := .int) (ty := .int) (N' := 501) hx hb (hts (.arrayClass .int) (me_s (me_l (List.mem_of_getElem? (i := 3) rfl)))) rfl hK (by simp [z_tys]) hW hS hA hz.symm (fun _ _ => rfl) (fun _ => rfl) (by decide) rfl (Nat.le_of_ble_eq_true rfl) (Nat.le_of_ble_eq_true rfl) (Nat.le_of_ble_eq_true rfl) dX9_init_26 (fun H hz1 hW hS => ?_)
  have hz : H.size = ad 16 := hz1.trans ((congrArg (· + 1) hz).trans (had 1 _).symm)
  have hW : z_W _ A (shSX29, ad, ISX1, z_J0, (PSX28 ad)) H := hW
  refine z_putF (T := TX9) (N := 14) (ci := 9) (i := 12) (v := .ref (ad 15)) (I1 := ISX1) (J1 := z_J0) (P1 := (PSX30 ad)) hx hb hts zi_X9_init_X9 tyX9 tyX9_ok nmX9 hown hK hW hS hs_shSX29_12 rfl 3 (by decide) (hts (.fieldLink RX9 18 "PetrolBoard$Reader" "values" "[I") (me_s (me_l (List.mem_of_getElem? (i := 6) rfl)))) (fun _ h => h) rfl hname rfl rfl rfl (by first | rfl | exact congrArg _ z_up_s) (fun a b h ty => z_vP h ty) dX9_init_28 (fun H locs hz1 hW hS => ?_)
  have hz : H.size = ad 16 := hz1.trans hz
  refine lv_aload_n hx hb dX9_init_31 rfl (lv_at hl 0 rfl) ?_
  refine lv_sipush (v := 501) hx hb dX9_init_32 (by decide) ?_
  refine z_newa 16 ad (atype := .int) (ty := .int) (N' := 501) hx hb (hts (.arrayClass .int) (me_s (me_l (List.mem_of_getElem? (i := 3) rfl)))) rfl hK (by simp [z_tys]) hW hS hA hz.symm (fun _ _ => rfl) (fun _ => rfl) (by decide) rfl (Nat.le_of_ble_eq_true rfl) (Nat.le_of_ble_eq_true rfl) (Nat.le_of_ble_eq_true rfl) dX9_init_35 (fun H hz1 hW hS => ?_)
  have hz : H.size = ad 17 := hz1.trans ((congrArg (· + 1) hz).trans (had 1 _).symm)
  have hW : z_W _ A (shSX31, ad, ISX1, z_J0, (PSX30 ad)) H := hW
  refine z_putF (T := TX9) (N := 14) (ci := 9) (i := 12) (v := .ref (ad 16)) (I1 := ISX1) (J1 := z_J0) (P1 := (PSX32 ad)) hx hb hts zi_X9_init_X9 tyX9 tyX9_ok nmX9 hown hK hW hS hs_shSX31_12 rfl 4 (by decide) (hts (.fieldLink RX9 21 "PetrolBoard$Reader" "places" "[I") (me_s (me_l (List.mem_of_getElem? (i := 7) rfl)))) (fun _ h => h) rfl hname rfl rfl rfl (by first | rfl | exact congrArg _ z_up_s) (fun a b h ty => z_vP h ty) dX9_init_37 (fun H locs hz1 hW hS => ?_)
  have hz : H.size = ad 17 := hz1.trans hz
  refine lv_aload_n hx hb dX9_init_40 rfl (lv_at hl 0 rfl) ?_
  refine lv_sipush (v := 500) hx hb dX9_init_41 (by decide) ?_
  refine z_newa 17 ad (atype := .int) (ty := .int) (N' := 500) hx hb (hts (.arrayClass .int) (me_s (me_l (List.mem_of_getElem? (i := 3) rfl)))) rfl hK (by simp [z_tys]) hW hS hA hz.symm (fun _ _ => rfl) (fun _ => rfl) (by decide) rfl (Nat.le_of_ble_eq_true rfl) (Nat.le_of_ble_eq_true rfl) (Nat.le_of_ble_eq_true rfl) dX9_init_44 (fun H hz1 hW hS => ?_)
  have hz : H.size = ad 18 := hz1.trans ((congrArg (· + 1) hz).trans (had 1 _).symm)
  have hW : z_W _ A (shSX33, ad, ISX1, z_J0, (PSX32 ad)) H := hW
  refine z_putF (T := TX9) (N := 14) (ci := 9) (i := 12) (v := .ref (ad 17)) (I1 := ISX1) (J1 := z_J0) (P1 := (PSX34 ad)) hx hb hts zi_X9_init_X9 tyX9 tyX9_ok nmX9 hown hK hW hS hs_shSX33_12 rfl 8 (by decide) (hts (.fieldLink RX9 24 "PetrolBoard$Reader" "code" "[I") (me_s (me_l (List.mem_of_getElem? (i := 8) rfl)))) (fun _ h => h) rfl hname rfl rfl rfl (by first | rfl | exact congrArg _ z_up_s) (fun a b h ty => z_vP h ty) dX9_init_46 (fun H locs hz1 hW hS => ?_)
  have hz : H.size = ad 18 := hz1.trans hz
  refine lv_aload_n hx hb dX9_init_49 rfl (lv_at hl 0 rfl) ?_
  refine lv_bipush (v := 24) hx hb dX9_init_50 (by decide) ?_
  refine z_newa 18 ad (atype := .int) (ty := .int) (N' := 24) hx hb (hts (.arrayClass .int) (me_s (me_l (List.mem_of_getElem? (i := 3) rfl)))) rfl hK (by simp [z_tys]) hW hS hA hz.symm (fun _ _ => rfl) (fun _ => rfl) (by decide) rfl (Nat.le_of_ble_eq_true rfl) (Nat.le_of_ble_eq_true rfl) (Nat.le_of_ble_eq_true rfl) dX9_init_52 (fun H hz1 hW hS => ?_)
  have hz : H.size = ad 19 := hz1.trans ((congrArg (· + 1) hz).trans (had 1 _).symm)
  have hW : z_W _ A (shSX35, ad, ISX1, z_J0, (PSX34 ad)) H := hW
  refine z_putF (T := TX9) (N := 14) (ci := 9) (i := 12) (v := .ref (ad 18)) (I1 := ISX1) (J1 := z_J0) (P1 := (PSX36 ad)) hx hb hts zi_X9_init_X9 tyX9 tyX9_ok nmX9 hown hK hW hS hs_shSX35_12 rfl 10 (by decide) (hts (.fieldLink RX9 27 "PetrolBoard$Reader" "head" "[I") (me_s (me_l (List.mem_of_getElem? (i := 9) rfl)))) (fun _ h => h) rfl hname rfl rfl rfl (by first | rfl | exact congrArg _ z_up_s) (fun a b h ty => z_vP h ty) dX9_init_54 (fun H locs hz1 hW hS => ?_)
  have hz : H.size = ad 19 := hz1.trans hz
  refine lv_aload_n hx hb dX9_init_57 rfl (lv_at hl 0 rfl) ?_
  refine lv_bipush (v := 24) hx hb dX9_init_58 (by decide) ?_
  refine z_newa 19 ad (atype := .int) (ty := .int) (N' := 24) hx hb (hts (.arrayClass .int) (me_s (me_l (List.mem_of_getElem? (i := 3) rfl)))) rfl hK (by simp [z_tys]) hW hS hA hz.symm (fun _ _ => rfl) (fun _ => rfl) (by decide) rfl (Nat.le_of_ble_eq_true rfl) (Nat.le_of_ble_eq_true rfl) (Nat.le_of_ble_eq_true rfl) dX9_init_60 (fun H hz1 hW hS => ?_)
  have hz : H.size = ad 20 := hz1.trans ((congrArg (· + 1) hz).trans (had 1 _).symm)
  have hW : z_W _ A (shSX37, ad, ISX1, z_J0, (PSX36 ad)) H := hW
  refine z_putF (T := TX9) (N := 14) (ci := 9) (i := 12) (v := .ref (ad 19)) (I1 := ISX1) (J1 := z_J0) (P1 := (PSX38 ad)) hx hb hts zi_X9_init_X9 tyX9 tyX9_ok nmX9 hown hK hW hS hs_shSX37_12 rfl 11 (by decide) (hts (.fieldLink RX9 30 "PetrolBoard$Reader" "first" "[I") (me_s (me_l (List.mem_of_getElem? (i := 10) rfl)))) (fun _ h => h) rfl hname rfl rfl rfl (by first | rfl | exact congrArg _ z_up_s) (fun a b h ty => z_vP h ty) dX9_init_62 (fun H locs hz1 hW hS => ?_)
  have hz : H.size = ad 20 := hz1.trans hz
  refine lv_aload_n hx hb dX9_init_65 rfl (lv_at hl 0 rfl) ?_
  refine lv_bipush (v := 24) hx hb dX9_init_66 (by decide) ?_
  refine z_newa 20 ad (atype := .int) (ty := .int) (N' := 24) hx hb (hts (.arrayClass .int) (me_s (me_l (List.mem_of_getElem? (i := 3) rfl)))) rfl hK (by simp [z_tys]) hW hS hA hz.symm (fun _ _ => rfl) (fun _ => rfl) (by decide) rfl (Nat.le_of_ble_eq_true rfl) (Nat.le_of_ble_eq_true rfl) (Nat.le_of_ble_eq_true rfl) dX9_init_68 (fun H hz1 hW hS => ?_)
  have hz : H.size = ad 21 := hz1.trans ((congrArg (· + 1) hz).trans (had 1 _).symm)
  have hW : z_W _ A (shSX39, ad, ISX1, z_J0, (PSX38 ad)) H := hW
  refine z_putF (T := TX9) (N := 14) (ci := 9) (i := 12) (v := .ref (ad 20)) (I1 := ISX1) (J1 := z_J0) (P1 := (PSX40 ad)) hx hb hts zi_X9_init_X9 tyX9 tyX9_ok nmX9 hown hK hW hS hs_shSX39_12 rfl 12 (by decide) (hts (.fieldLink RX9 33 "PetrolBoard$Reader" "second" "[I") (me_s (me_l (List.mem_of_getElem? (i := 11) rfl)))) (fun _ h => h) rfl hname rfl rfl rfl (by first | rfl | exact congrArg _ z_up_s) (fun a b h ty => z_vP h ty) dX9_init_70 (fun H locs hz1 hW hS => ?_)
  have hz : H.size = ad 21 := hz1.trans hz
  exact z_cret hx hb hr hK hS (Nat.le_of_ble_eq_true rfl) (Nat.le_of_ble_eq_true rfl) hlocks dX9_init_73 (hz.trans ((had 8 13).trans (congrArg (· + 8) hz0.symm))) hW
theorem hs_shSX39_0 : shSX39 0 = some (.inr 11) := by rfl
noncomputable def PSX41 (ad : Nat → Nat) : z_P := z_up (PSX40 ad) 0 3 (some (ad 12))
noncomputable def shSX42 : Nat → Option z_S := z_sh shSX39 21 (.inr 6)
noncomputable def shSX43 : Nat → Option z_S := z_sh shSX42 22 (.inl (.object RX7, 12))
theorem hs_shSX43_21 : shSX43 21 = some (.inr 6) := rfl
noncomputable def PSX44 (ad : Nat → Nat) : z_P := z_up (PSX41 ad) 21 0 (some (ad 22))
noncomputable def shSX45 : Nat → Option z_S := z_sh shSX43 23 (.inr 5)
noncomputable def shSX46 : Nat → Option z_S := z_sh shSX45 24 (.inl (.int, 7))
theorem hs_shSX46_23 : shSX46 23 = some (.inr 5) := rfl
noncomputable def PSX47 (ad : Nat → Nat) : z_P := z_up (PSX44 ad) 23 0 (some (ad 24))
noncomputable def shSX48 : Nat → Option z_S := z_sh shSX46 25 (.inl (.int, 64))
theorem hs_shSX48_23 : shSX48 23 = some (.inr 5) := hs_shSX46_23
noncomputable def PSX49 (ad : Nat → Nat) : z_P := z_up (PSX47 ad) 23 1 (some (ad 25))
theorem zi_X5_init_X5 : ∀ w ∈ wsX50, w ∈ wsX5_init := fun w h => (List.mem_cons_of_mem _ (List.mem_append_right _ h))
set_option maxHeartbeats 8000000 in
set_option maxRecDepth 100000 in
theorem ct_X5_init (l : Launch) (G : z_G) (ad : Nat → Nat) (had : ∀ k i, ad (i + k) = ad i + k) (sz : Nat) (hz : sz = ad 24) : z_Mc l yX5_init wsX5_init { frames := 1, cells := 2, slots := 71, locals := 12 } [.ref (ad 23)] G (shSX45, ad, ISX1, z_J0, (PSX44 ad)) (shSX48, ad, ISX1, z_J0, (PSX49 ad)) 2 2 71 sz := by
  refine z_headQ (cc := cX5_init) (maxL := 1) (ret := none) (by decide) rfl (Nat.le_of_ble_eq_true rfl) ?_
  intro p e s m below meth c ls hIn hK hsz hW hl
  obtain ⟨hx, hb, hr, hml, hown, hts, hlocks, hname⟩ := hIn
  subst hsz
  have hz0 := hz
  have hown : s.vm.findClass RX5 = some m.cls := hown
  have hname : meth.name = "<init>" := hname
  have hA : ∀ q : Nat, s.heap.size ≤ q → z_A (shSX45, ad, ISX1, z_J0, (PSX44 ad)) s.heap.size q := fun q h => Or.inr h
  generalize hAe : z_A (shSX45, ad, ISX1, z_J0, (PSX44 ad)) s.heap.size = A at *
  have hS : va_S A s.heap s.heap [] := va_S.rf
  have hl : lv_has ls 1 [(0, .ref (ad 23))] := hl
  refine lv_aload_n hx hb dX5_init_0 rfl (lv_at hl 0 rfl) ?_
  refine W.objInit hx hb hown (hts (.methodLink RX5 3 objectInit) (me_s (me_l (List.mem_of_getElem? (i := 0) rfl)))) (hts (.instanceMethod objectInit) (me_s (me_l (List.mem_of_getElem? (i := 1) rfl)))) (hts (.code objectInit ⟨#[0xb1]⟩ 1 none) (me_s (me_l (List.mem_of_getElem? (i := 2) rfl)))) rfl (by rw [hml]; exact hl.1) rfl dX5_init_1 (Nat.le_of_ble_eq_true rfl) (Nat.le_of_ble_eq_true rfl) ?_
  refine W.eq (g2 := F0 m 4 ls []) rfl ?_
  refine lv_aload_n hx hb dX5_init_4 rfl (lv_at hl 0 rfl) ?_
  refine lv_bipush (v := 7) hx hb dX5_init_5 (by decide) ?_
  refine z_newa 24 ad (atype := .int) (ty := .int) (N' := 7) hx hb (hts (.arrayClass .int) (me_s (me_l (List.mem_of_getElem? (i := 3) rfl)))) rfl hK (by simp [z_tys]) hW hS hA hz.symm (fun _ _ => rfl) (fun _ => rfl) (by decide) rfl (Nat.le_of_ble_eq_true rfl) (Nat.le_of_ble_eq_true rfl) (Nat.le_of_ble_eq_true rfl) dX5_init_7 (fun H hz1 hW hS => ?_)
  have hz : H.size = ad 25 := hz1.trans ((congrArg (· + 1) hz).trans (had 1 _).symm)
  have hW : z_W _ A (shSX46, ad, ISX1, z_J0, (PSX44 ad)) H := hW
  refine z_putF (T := TX5) (N := 2) (ci := 5) (i := 23) (v := .ref (ad 24)) (I1 := ISX1) (J1 := z_J0) (P1 := (PSX47 ad)) hx hb hts zi_X5_init_X5 tyX5 tyX5_ok nmX5 hown hK hW hS hs_shSX46_23 rfl 0 (by decide) (hts (.fieldLink RX5 9 "PetrolBoard$Machine" "names" "[I") (me_s (me_l (List.mem_of_getElem? (i := 4) rfl)))) (fun _ h => h) rfl hname rfl rfl rfl (by first | rfl | exact congrArg _ z_up_s) (fun a b h ty => z_vP h ty) dX5_init_9 (fun H locs hz1 hW hS => ?_)
  have hz : H.size = ad 25 := hz1.trans hz
  refine lv_aload_n hx hb dX5_init_12 rfl (lv_at hl 0 rfl) ?_
  refine lv_bipush (v := 64) hx hb dX5_init_13 (by decide) ?_
  refine z_newa 25 ad (atype := .int) (ty := .int) (N' := 64) hx hb (hts (.arrayClass .int) (me_s (me_l (List.mem_of_getElem? (i := 3) rfl)))) rfl hK (by simp [z_tys]) hW hS hA hz.symm (fun _ _ => rfl) (fun _ => rfl) (by decide) rfl (Nat.le_of_ble_eq_true rfl) (Nat.le_of_ble_eq_true rfl) (Nat.le_of_ble_eq_true rfl) dX5_init_15 (fun H hz1 hW hS => ?_)
  have hz : H.size = ad 26 := hz1.trans ((congrArg (· + 1) hz).trans (had 1 _).symm)
  have hW : z_W _ A (shSX48, ad, ISX1, z_J0, (PSX47 ad)) H := hW
  refine z_putF (T := TX5) (N := 2) (ci := 5) (i := 23) (v := .ref (ad 25)) (I1 := ISX1) (J1 := z_J0) (P1 := (PSX49 ad)) hx hb hts zi_X5_init_X5 tyX5 tyX5_ok nmX5 hown hK hW hS hs_shSX48_23 rfl 1 (by decide) (hts (.fieldLink RX5 15 "PetrolBoard$Machine" "stack" "[I") (me_s (me_l (List.mem_of_getElem? (i := 5) rfl)))) (fun _ h => h) rfl hname rfl rfl rfl (by first | rfl | exact congrArg _ z_up_s) (fun a b h ty => z_vP h ty) dX5_init_17 (fun H locs hz1 hW hS => ?_)
  have hz : H.size = ad 26 := hz1.trans hz
  exact z_cret hx hb hr hK hS (Nat.le_of_ble_eq_true rfl) (Nat.le_of_ble_eq_true rfl) hlocks dX5_init_20 (hz.trans ((had 2 24).trans (congrArg (· + 2) hz0.symm))) hW
