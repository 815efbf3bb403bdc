set_option maxHeartbeats 8000000 in
set_option maxRecDepth 100000 in
theorem ct_X8_init (l : Launch) (G : z_G) (ad : Nat → Nat) (had : ∀ k i, ad (i + k) = ad i + k) (sz : Nat) (hz : sz = ad 31) : z_Mc l yX8_init wsX8_init { frames := 1, cells := 8, slots := 2400, locals := 12 } [.ref (ad 30)] G (shSX61, ad, ISX59, z_J0, (PSX60 ad)) (shSX76, ad, ISX59, z_J0, (PSX77 ad)) 8 8 2400 sz := by
  refine z_headQ (cc := cX8_init) (maxL := 1) (ret := none) (by decide) rfl (Nat.le_of_ble_eq_true rfl) ?_
  intro p e s m below meth c ls hIn hK hsz hW hl
  obtain ⟨hx, hb, hr, hml, hown, hts, hlocks, hname⟩ := hIn
  subst hsz
  have hz0 := hz
  have hown : s.vm.findClass RX8 = some m.cls := hown
  have hname : meth.name = "<init>" := hname
  have hA : ∀ q : Nat, s.heap.size ≤ q → z_A (shSX61, ad, ISX59, z_J0, (PSX60 ad)) s.heap.size q := fun q h => Or.inr h
  generalize hAe : z_A (shSX61, ad, ISX59, z_J0, (PSX60 ad)) s.heap.size = A at *
  have hS : va_S A s.heap s.heap [] := va_S.rf
  have hl : lv_has ls 1 [(0, .ref (ad 30))] := hl
  refine lv_aload_n hx hb dX8_init_0 rfl (lv_at hl 0 rfl) ?_
  refine W.objInit hx hb hown (hts (.methodLink RX8 3 objectInit) (me_s (me_l (List.mem_of_getElem? (i := 0) rfl)))) (hts (.instanceMethod objectInit) (me_s (me_l (List.mem_of_getElem? (i := 1) rfl)))) (hts (.code objectInit ⟨#[0xb1]⟩ 1 none) (me_s (me_l (List.mem_of_getElem? (i := 2) rfl)))) rfl (by rw [hml]; exact hl.1) rfl dX8_init_1 (Nat.le_of_ble_eq_true rfl) (Nat.le_of_ble_eq_true rfl) ?_
  refine W.eq (g2 := F0 m 4 ls []) rfl ?_
  refine lv_aload_n hx hb dX8_init_4 rfl (lv_at hl 0 rfl) ?_
  refine lv_sipush (v := 300) hx hb dX8_init_5 (by decide) ?_
  refine z_newa 31 ad (atype := .int) (ty := .int) (N' := 300) hx hb (hts (.arrayClass .int) (me_s (me_l (List.mem_of_getElem? (i := 3) rfl)))) rfl hK (by simp [z_tys]) hW hS hA hz.symm (fun _ _ => rfl) (fun _ => rfl) (by decide) rfl (Nat.le_of_ble_eq_true rfl) (Nat.le_of_ble_eq_true rfl) (Nat.le_of_ble_eq_true rfl) dX8_init_8 (fun H hz1 hW hS => ?_)
  have hz : H.size = ad 32 := hz1.trans ((congrArg (· + 1) hz).trans (had 1 _).symm)
  have hW : z_W _ A (shSX62, ad, ISX59, z_J0, (PSX60 ad)) H := hW
  refine z_putF (T := TX8) (N := 9) (ci := 8) (i := 30) (v := .ref (ad 31)) (I1 := ISX59) (J1 := z_J0) (P1 := (PSX63 ad)) hx hb hts zi_X8_init_X8 tyX8 tyX8_ok nmX8 hown hK hW hS hs_shSX62_30 rfl 0 (by decide) (hts (.fieldLink RX8 9 "PetrolBoard$Pours" "station" "[I") (me_s (me_l (List.mem_of_getElem? (i := 4) rfl)))) (fun _ h => h) rfl hname rfl rfl rfl (by first | rfl | exact congrArg _ z_up_s) (fun a b h ty => z_vP h ty) dX8_init_10 (fun H locs hz1 hW hS => ?_)
  have hz : H.size = ad 32 := hz1.trans hz
  refine lv_aload_n hx hb dX8_init_13 rfl (lv_at hl 0 rfl) ?_
  refine lv_sipush (v := 300) hx hb dX8_init_14 (by decide) ?_
  refine z_newa 32 ad (atype := .int) (ty := .int) (N' := 300) hx hb (hts (.arrayClass .int) (me_s (me_l (List.mem_of_getElem? (i := 3) rfl)))) rfl hK (by simp [z_tys]) hW hS hA hz.symm (fun _ _ => rfl) (fun _ => rfl) (by decide) rfl (Nat.le_of_ble_eq_true rfl) (Nat.le_of_ble_eq_true rfl) (Nat.le_of_ble_eq_true rfl) dX8_init_17 (fun H hz1 hW hS => ?_)
  have hz : H.size = ad 33 := hz1.trans ((congrArg (· + 1) hz).trans (had 1 _).symm)
  have hW : z_W _ A (shSX64, ad, ISX59, z_J0, (PSX63 ad)) H := hW
  refine z_putF (T := TX8) (N := 9) (ci := 8) (i := 30) (v := .ref (ad 32)) (I1 := ISX59) (J1 := z_J0) (P1 := (PSX65 ad)) hx hb hts zi_X8_init_X8 tyX8 tyX8_ok nmX8 hown hK hW hS hs_shSX64_30 rfl 1 (by decide) (hts (.fieldLink RX8 15 "PetrolBoard$Pours" "holder" "[I") (me_s (me_l (List.mem_of_getElem? (i := 5) rfl)))) (fun _ h => h) rfl hname rfl rfl rfl (by first | rfl | exact congrArg _ z_up_s) (fun a b h ty => z_vP h ty) dX8_init_19 (fun H locs hz1 hW hS => ?_)
  have hz : H.size = ad 33 := hz1.trans hz
  refine lv_aload_n hx hb dX8_init_22 rfl (lv_at hl 0 rfl) ?_
  refine lv_sipush (v := 300) hx hb dX8_init_23 (by decide) ?_
  refine z_newa 33 ad (atype := .int) (ty := .int) (N' := 300) hx hb (hts (.arrayClass .int) (me_s (me_l (List.mem_of_getElem? (i := 3) rfl)))) rfl hK (by simp [z_tys]) hW hS hA hz.symm (fun _ _ => rfl) (fun _ => rfl) (by decide) rfl (Nat.le_of_ble_eq_true rfl) (Nat.le_of_ble_eq_true rfl) (Nat.le_of_ble_eq_true rfl) dX8_init_26 (fun H hz1 hW hS => ?_)
  have hz : H.size = ad 34 := hz1.trans ((congrArg (· + 1) hz).trans (had 1 _).symm)
  have hW : z_W _ A (shSX66, ad, ISX59, z_J0, (PSX65 ad)) H := hW
  refine z_putF (T := TX8) (N := 9) (ci := 8) (i := 30) (v := .ref (ad 33)) (I1 := ISX59) (J1 := z_J0) (P1 := (PSX67 ad)) hx hb hts zi_X8_init_X8 tyX8 tyX8_ok nmX8 hown hK hW hS hs_shSX66_30 rfl 2 (by decide) (hts (.fieldLink RX8 18 "PetrolBoard$Pours" "coupon" "[I") (me_s (me_l (List.mem_of_getElem? (i := 6) rfl)))) (fun _ h => h) rfl hname rfl rfl rfl (by first | rfl | exact congrArg _ z_up_s) (fun a b h ty => z_vP h ty) dX8_init_28 (fun H locs hz1 hW hS => ?_)
  have hz : H.size = ad 34 := hz1.trans hz
  refine lv_aload_n hx hb dX8_init_31 rfl (lv_at hl 0 rfl) ?_
  refine lv_sipush (v := 300) hx hb dX8_init_32 (by decide) ?_
  refine z_newa 34 ad (atype := .int) (ty := .int) (N' := 300) hx hb (hts (.arrayClass .int) (me_s (me_l (List.mem_of_getElem? (i := 3) rfl)))) rfl hK (by simp [z_tys]) hW hS hA hz.symm (fun _ _ => rfl) (fun _ => rfl) (by decide) rfl (Nat.le_of_ble_eq_true rfl) (Nat.le_of_ble_eq_true rfl) (Nat.le_of_ble_eq_true rfl) dX8_init_35 (fun H hz1 hW hS => ?_)
  have hz : H.size = ad 35 := hz1.trans ((congrArg (· + 1) hz).trans (had 1 _).symm)
  have hW : z_W _ A (shSX68, ad, ISX59, z_J0, (PSX67 ad)) H := hW
  refine z_putF (T := TX8) (N := 9) (ci := 8) (i := 30) (v := .ref (ad 34)) (I1 := ISX59) (J1 := z_J0) (P1 := (PSX69 ad)) hx hb hts zi_X8_init_X8 tyX8 tyX8_ok nmX8 hown hK hW hS hs_shSX68_30 rfl 3 (by decide) (hts (.fieldLink RX8 21 "PetrolBoard$Pours" "day" "[I") (me_s (me_l (List.mem_of_getElem? (i := 7) rfl)))) (fun _ h => h) rfl hname rfl rfl rfl (by first | rfl | exact congrArg _ z_up_s) (fun a b h ty => z_vP h ty) dX8_init_37 (fun H locs hz1 hW hS => ?_)
  have hz : H.size = ad 35 := hz1.trans hz
  refine lv_aload_n hx hb dX8_init_40 rfl (lv_at hl 0 rfl) ?_
  refine lv_sipush (v := 300) hx hb dX8_init_41 (by decide) ?_
  refine z_newa 35 ad (atype := .int) (ty := .int) (N' := 300) hx hb (hts (.arrayClass .int) (me_s (me_l (List.mem_of_getElem? (i := 3) rfl)))) rfl hK (by simp [z_tys]) hW hS hA hz.symm (fun _ _ => rfl) (fun _ => rfl) (by decide) rfl (Nat.le_of_ble_eq_true rfl) (Nat.le_of_ble_eq_true rfl) (Nat.le_of_ble_eq_true rfl) dX8_init_44 (fun H hz1 hW hS => ?_)
  have hz : H.size = ad 36 := hz1.trans ((congrArg (· + 1) hz).trans (had 1 _).symm)
  have hW : z_W _ A (shSX70, ad, ISX59, z_J0, (PSX69 ad)) H := hW
  refine z_putF (T := TX8) (N := 9) (ci := 8) (i := 30) (v := .ref (ad 35)) (I1 := ISX59) (J1 := z_J0) (P1 := (PSX71 ad)) hx hb hts zi_X8_init_X8 tyX8 tyX8_ok nmX8 hown hK hW hS hs_shSX70_30 rfl 4 (by decide) (hts (.fieldLink RX8 24 "PetrolBoard$Pours" "tenths" "[I") (me_s (me_l (List.mem_of_getElem? (i := 8) rfl)))) (fun _ h => h) rfl hname rfl rfl rfl (by first | rfl | exact congrArg _ z_up_s) (fun a b h ty => z_vP h ty) dX8_init_46 (fun H locs hz1 hW hS => ?_)
  have hz : H.size = ad 36 := hz1.trans hz
  refine lv_aload_n hx hb dX8_init_49 rfl (lv_at hl 0 rfl) ?_
  refine lv_sipush (v := 300) hx hb dX8_init_50 (by decide) ?_
  refine z_newa 36 ad (atype := .int) (ty := .int) (N' := 300) hx hb (hts (.arrayClass .int) (me_s (me_l (List.mem_of_getElem? (i := 3) rfl)))) rfl hK (by simp [z_tys]) hW hS hA hz.symm (fun _ _ => rfl) (fun _ => rfl) (by decide) rfl (Nat.le_of_ble_eq_true rfl) (Nat.le_of_ble_eq_true rfl) (Nat.le_of_ble_eq_true rfl) dX8_init_53 (fun H hz1 hW hS => ?_)
  have hz : H.size = ad 37 := hz1.trans ((congrArg (· + 1) hz).trans (had 1 _).symm)
  have hW : z_W _ A (shSX72, ad, ISX59, z_J0, (PSX71 ad)) H := hW
  refine z_putF (T := TX8) (N := 9) (ci := 8) (i := 30) (v := .ref (ad 36)) (I1 := ISX59) (J1 := z_J0) (P1 := (PSX73 ad)) hx hb hts zi_X8_init_X8 tyX8 tyX8_ok nmX8 hown hK hW hS hs_shSX72_30 rfl 5 (by decide) (hts (.fieldLink RX8 27 "PetrolBoard$Pours" "verdict" "[I") (me_s (me_l (List.mem_of_getElem? (i := 9) rfl)))) (fun _ h => h) rfl hname rfl rfl rfl (by first | rfl | exact congrArg _ z_up_s) (fun a b h ty => z_vP h ty) dX8_init_55 (fun H locs hz1 hW hS => ?_)
  have hz : H.size = ad 37 := hz1.trans hz
  refine lv_aload_n hx hb dX8_init_58 rfl (lv_at hl 0 rfl) ?_
  refine lv_sipush (v := 300) hx hb dX8_init_59 (by decide) ?_
  refine z_newa 37 ad (atype := .int) (ty := .int) (N' := 300) hx hb (hts (.arrayClass .int) (me_s (me_l (List.mem_of_getElem? (i := 3) rfl)))) rfl hK (by simp [z_tys]) hW hS hA hz.symm (fun _ _ => rfl) (fun _ => rfl) (by decide) rfl (Nat.le_of_ble_eq_true rfl) (Nat.le_of_ble_eq_true rfl) (Nat.le_of_ble_eq_true rfl) dX8_init_62 (fun H hz1 hW hS => ?_)
  have hz : H.size = ad 38 := hz1.trans ((congrArg (· + 1) hz).trans (had 1 _).symm)
  have hW : z_W _ A (shSX74, ad, ISX59, z_J0, (PSX73 ad)) H := hW
  refine z_putF (T := TX8) (N := 9) (ci := 8) (i := 30) (v := .ref (ad 37)) (I1 := ISX59) (J1 := z_J0) (P1 := (PSX75 ad)) hx hb hts zi_X8_init_X8 tyX8 tyX8_ok nmX8 hown hK hW hS hs_shSX74_30 rfl 6 (by decide) (hts (.fieldLink RX8 30 "PetrolBoard$Pours" "dyed" "[I") (me_s (me_l (List.mem_of_getElem? (i := 10) rfl)))) (fun _ h => h) rfl hname rfl rfl rfl (by first | rfl | exact congrArg _ z_up_s) (fun a b h ty => z_vP h ty) dX8_init_64 (fun H locs hz1 hW hS => ?_)
  have hz : H.size = ad 38 := hz1.trans hz
  refine lv_aload_n hx hb dX8_init_67 rfl (lv_at hl 0 rfl) ?_
  refine lv_sipush (v := 300) hx hb dX8_init_68 (by decide) ?_
  refine z_newa 38 ad (atype := .int) (ty := .int) (N' := 300) hx hb (hts (.arrayClass .int) (me_s (me_l (List.mem_of_getElem? (i := 3) rfl)))) rfl hK (by simp [z_tys]) hW hS hA hz.symm (fun _ _ => rfl) (fun _ => rfl) (by decide) rfl (Nat.le_of_ble_eq_true rfl) (Nat.le_of_ble_eq_true rfl) (Nat.le_of_ble_eq_true rfl) dX8_init_71 (fun H hz1 hW hS => ?_)
  have hz : H.size = ad 39 := hz1.trans ((congrArg (· + 1) hz).trans (had 1 _).symm)
  have hW : z_W _ A (shSX76, ad, ISX59, z_J0, (PSX75 ad)) H := hW
  refine z_putF (T := TX8) (N := 9) (ci := 8) (i := 30) (v := .ref (ad 38)) (I1 := ISX59) (J1 := z_J0) (P1 := (PSX77 ad)) hx hb hts zi_X8_init_X8 tyX8 tyX8_ok nmX8 hown hK hW hS hs_shSX76_30 rfl 7 (by decide) (hts (.fieldLink RX8 33 "PetrolBoard$Pours" "ownerThen" "[I") (me_s (me_l (List.mem_of_getElem? (i := 11) rfl)))) (fun _ h => h) rfl hname rfl rfl rfl (by first | rfl | exact congrArg _ z_up_s) (fun a b h ty => z_vP h ty) dX8_init_73 (fun H locs hz1 hW hS => ?_)
  have hz : H.size = ad 39 := hz1.trans hz
  exact z_cret hx hb hr hK hS (Nat.le_of_ble_eq_true rfl) (Nat.le_of_ble_eq_true rfl) hlocks dX8_init_76 (hz.trans ((had 8 31).trans (congrArg (· + 8) hz0.symm))) hW
theorem hs_shSX76_0 : shSX76 0 = some (.inr 11) := by rfl
noncomputable def PSX78 (ad : Nat → Nat) : z_P := z_up (PSX77 ad) 0 6 (some (ad 30))
noncomputable def shSX79 : Nat → Option z_S := z_sh shSX76 39 (.inl (.object RX10, 10))
theorem hs_shSX79_0 : shSX79 0 = some (.inr 11) := hs_shSX76_0
noncomputable def PSX80 (ad : Nat → Nat) : z_P := z_up (PSX78 ad) 0 7 (some (ad 39))
noncomputable def shSX81 : Nat → Option z_S := z_sh shSX79 40 (.inl (.int, 30))
theorem hs_shSX81_0 : shSX81 0 = some (.inr 11) := hs_shSX79_0
noncomputable def PSX82 (ad : Nat → Nat) : z_P := z_up (PSX80 ad) 0 9 (some (ad 40))
noncomputable def shSX83 : Nat → Option z_S := z_sh shSX81 41 (.inr 4)
noncomputable def shSX84 : Nat → Option z_S := z_sh shSX83 42 (.inl (.int, 4))
theorem hs_shSX84_41 : shSX84 41 = some (.inr 4) := rfl
noncomputable def PSX85 (ad : Nat → Nat) : z_P := z_up (PSX82 ad) 41 0 (some (ad 42))
noncomputable def shSX86 : Nat → Option z_S := z_sh shSX84 43 (.inl (.int, 10))
theorem hs_shSX86_41 : shSX86 41 = some (.inr 4) := hs_shSX84_41
noncomputable def PSX87 (ad : Nat → Nat) : z_P := z_up (PSX85 ad) 41 1 (some (ad 43))
noncomputable def shSX88 : Nat → Option z_S := z_shr (z_sh shSX86 44 (.inl (.array .int, 4))) 44 10 4
theorem hs_shSX88_41 : shSX88 41 = some (.inr 4) := hs_shSX86_41
noncomputable def PSX89 (ad : Nat → Nat) : z_P := z_pr (PSX87 ad) 44 ad
noncomputable def PSX90 (ad : Nat → Nat) : z_P := z_up (PSX89 ad) 41 2 (some (ad 44))
noncomputable def shSX91 : Nat → Option z_S := z_shr (z_sh shSX88 49 (.inl (.array .int, 4))) 49 10 4
theorem hs_shSX91_41 : shSX91 41 = some (.inr 4) := hs_shSX88_41
noncomputable def PSX92 (ad : Nat → Nat) : z_P := z_pr (PSX90 ad) 49 ad
noncomputable def PSX93 (ad : Nat → Nat) : z_P := z_up (PSX92 ad) 41 3 (some (ad 49))
noncomputable def shSX94 : Nat → Option z_S := z_sh shSX91 54 (.inl (.int, 4))
theorem hs_shSX94_41 : shSX94 41 = some (.inr 4) := hs_shSX91_41
noncomputable def PSX95 (ad : Nat → Nat) : z_P := z_up (PSX93 ad) 41 4 (some (ad 54))
noncomputable def shSX96 : Nat → Option z_S := z_sh shSX94 55 (.inl (.int, 10))
theorem hs_shSX96_41 : shSX96 41 = some (.inr 4) := hs_shSX94_41
noncomputable def PSX97 (ad : Nat → Nat) : z_P := z_up (PSX95 ad) 41 5 (some (ad 55))
noncomputable def shSX98 : Nat → Option z_S := z_sh shSX96 56 (.inl (.int, 4))
theorem hs_shSX98_41 : shSX98 41 = some (.inr 4) := hs_shSX96_41
noncomputable def PSX99 (ad : Nat → Nat) : z_P := z_up (PSX97 ad) 41 6 (some (ad 56))
noncomputable def shSX100 : Nat → Option z_S := z_sh shSX98 57 (.inl (.int, 10))
theorem hs_shSX100_41 : shSX100 41 = some (.inr 4) := hs_shSX98_41
noncomputable def PSX101 (ad : Nat → Nat) : z_P := z_up (PSX99 ad) 41 7 (some (ad 57))
noncomputable def shSX102 : Nat → Option z_S := z_sh shSX100 58 (.inl (.int, 10))
theorem hs_shSX102_41 : shSX102 41 = some (.inr 4) := hs_shSX100_41
noncomputable def PSX103 (ad : Nat → Nat) : z_P := z_up (PSX101 ad) 41 8 (some (ad 58))
noncomputable def shSX104 : Nat → Option z_S := z_sh shSX102 59 (.inl (.int, 4))
theorem hs_shSX104_41 : shSX104 41 = some (.inr 4) := hs_shSX102_41
noncomputable def PSX105 (ad : Nat → Nat) : z_P := z_up (PSX103 ad) 41 9 (some (ad 59))
theorem zi_X4_init_X4 : ∀ w ∈ wsX40, w ∈ wsX4_init := fun w h => (List.mem_cons_of_mem _ (List.mem_append_right _ h))
set_option maxHeartbeats 8000000 in
set_option maxRecDepth 100000 in
theorem ct_X4_init (l : Launch) (G : z_G) (ad : Nat → Nat) (had : ∀ k i, ad (i + k) = ad i + k) (sz : Nat) (hz : sz = ad 42) : z_Mc l yX4_init wsX4_init { frames := 1, cells := 18, slots := 144, locals := 12 } [.ref (ad 41)] G (shSX83, ad, ISX59, z_J0, (PSX82 ad)) (shSX104, ad, ISX59, z_J0, (PSX105 ad)) 18 18 144 sz := by
  refine z_headQ (cc := cX4_init) (maxL := 1) (ret := none) (by decide) rfl (Nat.le_of_ble_eq_true rfl) ?_
  intro p e s m below meth c ls hIn hK hsz hW hl
  obtain ⟨hx, hb, hr, hml, hown, hts, hlocks, hname⟩ := hIn
  subst hsz
  have hz0 := hz
  have hown : s.vm.findClass RX4 = some m.cls := hown
  have hname : meth.name = "<init>" := hname
  have hA : ∀ q : Nat, s.heap.size ≤ q → z_A (shSX83, ad, ISX59, z_J0, (PSX82 ad)) s.heap.size q := fun q h => Or.inr h
  generalize hAe : z_A (shSX83, ad, ISX59, z_J0, (PSX82 ad)) s.heap.size = A at *
  have hS : va_S A s.heap s.heap [] := va_S.rf
  have hl : lv_has ls 1 [(0, .ref (ad 41))] := hl
  refine lv_aload_n hx hb dX4_init_0 rfl (lv_at hl 0 rfl) ?_
  refine W.objInit hx hb hown (hts (.methodLink RX4 3 objectInit) (me_s (me_l (List.mem_of_getElem? (i := 0) rfl)))) (hts (.instanceMethod objectInit) (me_s (me_l (List.mem_of_getElem? (i := 1) rfl)))) (hts (.code objectInit ⟨#[0xb1]⟩ 1 none) (me_s (me_l (List.mem_of_getElem? (i := 2) rfl)))) rfl (by rw [hml]; exact hl.1) rfl dX4_init_1 (Nat.le_of_ble_eq_true rfl) (Nat.le_of_ble_eq_true rfl) ?_
  refine W.eq (g2 := F0 m 4 ls []) rfl ?_
  refine lv_aload_n hx hb dX4_init_4 rfl (lv_at hl 0 rfl) ?_
  refine lv_iconst (v := 4) hx hb dX4_init_5 (by decide) ?_
  refine z_newa 42 ad (atype := .int) (ty := .int) (N' := 4) hx hb (hts (.arrayClass .int) (me_s (me_l (List.mem_of_getElem? (i := 3) rfl)))) rfl hK (by simp [z_tys]) hW hS hA hz.symm (fun _ _ => rfl) (fun _ => rfl) (by decide) rfl (Nat.le_of_ble_eq_true rfl) (Nat.le_of_ble_eq_true rfl) (Nat.le_of_ble_eq_true rfl) dX4_init_6 (fun H hz1 hW hS => ?_)
  have hz : H.size = ad 43 := hz1.trans ((congrArg (· + 1) hz).trans (had 1 _).symm)
  have hW : z_W _ A (shSX84, ad, ISX59, z_J0, (PSX82 ad)) H := hW
  refine z_putF (T := TX4) (N := 13) (ci := 4) (i := 41) (v := .ref (ad 42)) (I1 := ISX59) (J1 := z_J0) (P1 := (PSX85 ad)) hx hb hts zi_X4_init_X4 tyX4 tyX4_ok nmX4 hown hK hW hS hs_shSX84_41 rfl 0 (by decide) (hts (.fieldLink RX4 9 "PetrolBoard$Loads" "inPort" "[I") (me_s (me_l (List.mem_of_getElem? (i := 4) rfl)))) (fun _ h => h) rfl hname rfl rfl rfl (by first | rfl | exact congrArg _ z_up_s) (fun a b h ty => z_vP h ty) dX4_init_8 (fun H locs hz1 hW hS => ?_)
  have hz : H.size = ad 43 := hz1.trans hz
  refine lv_aload_n hx hb dX4_init_11 rfl (lv_at hl 0 rfl) ?_
  refine lv_bipush (v := 10) hx hb dX4_init_12 (by decide) ?_
  refine z_newa 43 ad (atype := .int) (ty := .int) (N' := 10) hx hb (hts (.arrayClass .int) (me_s (me_l (List.mem_of_getElem? (i := 3) rfl)))) rfl hK (by simp [z_tys]) hW hS hA hz.symm (fun _ _ => rfl) (fun _ => rfl) (by decide) rfl (Nat.le_of_ble_eq_true rfl) (Nat.le_of_ble_eq_true rfl) (Nat.le_of_ble_eq_true rfl) dX4_init_14 (fun H hz1 hW hS => ?_)
  have hz : H.size = ad 44 := hz1.trans ((congrArg (· + 1) hz).trans (had 1 _).symm)
  have hW : z_W _ A (shSX86, ad, ISX59, z_J0, (PSX85 ad)) H := hW
  refine z_putF (T := TX4) (N := 13) (ci := 4) (i := 41) (v := .ref (ad 43)) (I1 := ISX59) (J1 := z_J0) (P1 := (PSX87 ad)) hx hb hts zi_X4_init_X4 tyX4 tyX4_ok nmX4 hown hK hW hS hs_shSX86_41 rfl 1 (by decide) (hts (.fieldLink RX4 15 "PetrolBoard$Loads" "wanted" "[I") (me_s (me_l (List.mem_of_getElem? (i := 5) rfl)))) (fun _ h => h) rfl hname rfl rfl rfl (by first | rfl | exact congrArg _ z_up_s) (fun a b h ty => z_vP h ty) dX4_init_16 (fun H locs hz1 hW hS => ?_)
  have hz : H.size = ad 44 := hz1.trans hz
  refine lv_aload_n hx hb dX4_init_19 rfl (lv_at hl 0 rfl) ?_
  refine lv_iconst (v := 4) hx hb dX4_init_20 (by decide) ?_
  refine lv_bipush (v := 10) hx hb dX4_init_21 (by decide) ?_
  refine z_mna 44 (N' := 4) (K' := 10) hx hb hown (hts (.classLink RX4 18 "[[I") (me_s (me_l (List.mem_of_getElem? (i := 6) rfl)))) (hts (.arrayClass .int) (me_s (me_l (List.mem_of_getElem? (i := 3) rfl)))) hK hW hS hA had hz.symm (fun a b h => hI_ISX59 a b (by omega)) (fun _ => rfl) (by decide) (by decide) rfl rfl (Nat.le_of_ble_eq_true rfl) (Nat.le_of_ble_eq_true rfl) (Nat.le_of_ble_eq_true rfl) (Nat.le_of_ble_eq_true rfl) (Nat.le_of_ble_eq_true rfl) dX4_init_23 (fun H hz1 hW hS => ?_)
  have hz : H.size = ad 49 := hz1.trans ((congrArg (· + 5) hz).trans (had 5 _).symm)
  have hW : z_W _ A (shSX88, ad, ISX59, z_J0, (PSX89 ad)) H := hW
  refine z_putF (T := TX4) (N := 13) (ci := 4) (i := 41) (v := .ref (ad 44)) (I1 := ISX59) (J1 := z_J0) (P1 := (PSX90 ad)) hx hb hts zi_X4_init_X4 tyX4 tyX4_ok nmX4 hown hK hW hS hs_shSX88_41 rfl 2 (by decide) (hts (.fieldLink RX4 20 "PetrolBoard$Loads" "miles" "[[I") (me_s (me_l (List.mem_of_getElem? (i := 7) rfl)))) (fun _ h => h) rfl hname rfl rfl rfl (by first | rfl | exact congrArg _ z_up_s) (fun a b h ty => z_vP h ty) dX4_init_27 (fun H locs hz1 hW hS => ?_)
  have hz : H.size = ad 49 := hz1.trans hz
  refine lv_aload_n hx hb dX4_init_30 rfl (lv_at hl 0 rfl) ?_
  refine lv_iconst (v := 4) hx hb dX4_init_31 (by decide) ?_
  refine lv_bipush (v := 10) hx hb dX4_init_32 (by decide) ?_
  refine z_mna 49 (N' := 4) (K' := 10) hx hb hown (hts (.classLink RX4 18 "[[I") (me_s (me_l (List.mem_of_getElem? (i := 6) rfl)))) (hts (.arrayClass .int) (me_s (me_l (List.mem_of_getElem? (i := 3) rfl)))) hK hW hS hA had hz.symm (fun a b h => hI_ISX59 a b (by omega)) (fun _ => rfl) (by decide) (by decide) rfl rfl (Nat.le_of_ble_eq_true rfl) (Nat.le_of_ble_eq_true rfl) (Nat.le_of_ble_eq_true rfl) (Nat.le_of_ble_eq_true rfl) (Nat.le_of_ble_eq_true rfl) dX4_init_34 (fun H hz1 hW hS => ?_)
  have hz : H.size = ad 54 := hz1.trans ((congrArg (· + 5) hz).trans (had 5 _).symm)
  have hW : z_W _ A (shSX91, ad, ISX59, z_J0, (PSX92 ad)) H := hW
  refine z_putF (T := TX4) (N := 13) (ci := 4) (i := 41) (v := .ref (ad 49)) (I1 := ISX59) (J1 := z_J0) (P1 := (PSX93 ad)) hx hb hts zi_X4_init_X4 tyX4 tyX4_ok nmX4 hown hK hW hS hs_shSX91_41 rfl 3 (by decide) (hts (.fieldLink RX4 23 "PetrolBoard$Loads" "sent" "[[I") (me_s (me_l (List.mem_of_getElem? (i := 8) rfl)))) (fun _ h => h) rfl hname rfl rfl rfl (by first | rfl | exact congrArg _ z_up_s) (fun a b h ty => z_vP h ty) dX4_init_38 (fun H locs hz1 hW hS => ?_)
  have hz : H.size = ad 54 := hz1.trans hz
  refine lv_aload_n hx hb dX4_init_41 rfl (lv_at hl 0 rfl) ?_
  refine lv_iconst (v := 4) hx hb dX4_init_42 (by decide) ?_
  refine z_newa 54 ad (atype := .int) (ty := .int) (N' := 4) hx hb (hts (.arrayClass .int) (me_s (me_l (List.mem_of_getElem? (i := 3) rfl)))) rfl hK (by simp [z_tys]) hW hS hA hz.symm (fun _ _ => rfl) (fun _ => rfl) (by decide) rfl (Nat.le_of_ble_eq_true rfl) (Nat.le_of_ble_eq_true rfl) (Nat.le_of_ble_eq_true rfl) dX4_init_43 (fun H hz1 hW hS => ?_)
  have hz : H.size = ad 55 := hz1.trans ((congrArg (· + 1) hz).trans (had 1 _).symm)
  have hW : z_W _ A (shSX94, ad, ISX59, z_J0, (PSX93 ad)) H := hW
  refine z_putF (T := TX4) (N := 13) (ci := 4) (i := 41) (v := .ref (ad 54)) (I1 := ISX59) (J1 := z_J0) (P1 := (PSX95 ad)) hx hb hts zi_X4_init_X4 tyX4 tyX4_ok nmX4 hown hK hW hS hs_shSX94_41 rfl 4 (by decide) (hts (.fieldLink RX4 26 "PetrolBoard$Loads" "left" "[I") (me_s (me_l (List.mem_of_getElem? (i := 9) rfl)))) (fun _ h => h) rfl hname rfl rfl rfl (by first | rfl | exact congrArg _ z_up_s) (fun a b h ty => z_vP h ty) dX4_init_45 (fun H locs hz1 hW hS => ?_)
  have hz : H.size = ad 55 := hz1.trans hz
  refine lv_aload_n hx hb dX4_init_48 rfl (lv_at hl 0 rfl) ?_
  refine lv_bipush (v := 10) hx hb dX4_init_49 (by decide) ?_
  refine z_newa 55 ad (atype := .int) (ty := .int) (N' := 10) hx hb (hts (.arrayClass .int) (me_s (me_l (List.mem_of_getElem? (i := 3) rfl)))) rfl hK (by simp [z_tys]) hW hS hA hz.symm (fun _ _ => rfl) (fun _ => rfl) (by decide) rfl (Nat.le_of_ble_eq_true rfl) (Nat.le_of_ble_eq_true rfl) (Nat.le_of_ble_eq_true rfl) dX4_init_51 (fun H hz1 hW hS => ?_)
  have hz : H.size = ad 56 := hz1.trans ((congrArg (· + 1) hz).trans (had 1 _).symm)
  have hW : z_W _ A (shSX96, ad, ISX59, z_J0, (PSX95 ad)) H := hW
  refine z_putF (T := TX4) (N := 13) (ci := 4) (i := 41) (v := .ref (ad 55)) (I1 := ISX59) (J1 := z_J0) (P1 := (PSX97 ad)) hx hb hts zi_X4_init_X4 tyX4 tyX4_ok nmX4 hown hK hW hS hs_shSX96_41 rfl 5 (by decide) (hts (.fieldLink RX4 29 "PetrolBoard$Loads" "lacking" "[I") (me_s (me_l (List.mem_of_getElem? (i := 10) rfl)))) (fun _ h => h) rfl hname rfl rfl rfl (by first | rfl | exact congrArg _ z_up_s) (fun a b h ty => z_vP h ty) dX4_init_53 (fun H locs hz1 hW hS => ?_)
  have hz : H.size = ad 56 := hz1.trans hz
  refine lv_aload_n hx hb dX4_init_56 rfl (lv_at hl 0 rfl) ?_
  refine lv_iconst (v := 4) hx hb dX4_init_57 (by decide) ?_
  refine z_newa 56 ad (atype := .int) (ty := .int) (N' := 4) hx hb (hts (.arrayClass .int) (me_s (me_l (List.mem_of_getElem? (i := 3) rfl)))) rfl hK (by simp [z_tys]) hW hS hA hz.symm (fun _ _ => rfl) (fun _ => rfl) (by decide) rfl (Nat.le_of_ble_eq_true rfl) (Nat.le_of_ble_eq_true rfl) (Nat.le_of_ble_eq_true rfl) dX4_init_58 (fun H hz1 hW hS => ?_)
  have hz : H.size = ad 57 := hz1.trans ((congrArg (· + 1) hz).trans (had 1 _).symm)
  have hW : z_W _ A (shSX98, ad, ISX59, z_J0, (PSX97 ad)) H := hW
  refine z_putF (T := TX4) (N := 13) (ci := 4) (i := 41) (v := .ref (ad 56)) (I1 := ISX59) (J1 := z_J0) (P1 := (PSX99 ad)) hx hb hts zi_X4_init_X4 tyX4 tyX4_ok nmX4 hown hK hW hS hs_shSX98_41 rfl 6 (by decide) (hts (.fieldLink RX4 32 "PetrolBoard$Loads" "toPort" "[I") (me_s (me_l (List.mem_of_getElem? (i := 11) rfl)))) (fun _ h => h) rfl hname rfl rfl rfl (by first | rfl | exact congrArg _ z_up_s) (fun a b h ty => z_vP h ty) dX4_init_60 (fun H locs hz1 hW hS => ?_)
  have hz : H.size = ad 57 := hz1.trans hz
  refine lv_aload_n hx hb dX4_init_63 rfl (lv_at hl 0 rfl) ?_
  refine lv_bipush (v := 10) hx hb dX4_init_64 (by decide) ?_
  refine z_newa 57 ad (atype := .int) (ty := .int) (N' := 10) hx hb (hts (.arrayClass .int) (me_s (me_l (List.mem_of_getElem? (i := 3) rfl)))) rfl hK (by simp [z_tys]) hW hS hA hz.symm (fun _ _ => rfl) (fun _ => rfl) (by decide) rfl (Nat.le_of_ble_eq_true rfl) (Nat.le_of_ble_eq_true rfl) (Nat.le_of_ble_eq_true rfl) dX4_init_66 (fun H hz1 hW hS => ?_)
  have hz : H.size = ad 58 := hz1.trans ((congrArg (· + 1) hz).trans (had 1 _).symm)
  have hW : z_W _ A (shSX100, ad, ISX59, z_J0, (PSX99 ad)) H := hW
  refine z_putF (T := TX4) (N := 13) (ci := 4) (i := 41) (v := .ref (ad 57)) (I1 := ISX59) (J1 := z_J0) (P1 := (PSX101 ad)) hx hb hts zi_X4_init_X4 tyX4 tyX4_ok nmX4 hown hK hW hS hs_shSX100_41 rfl 7 (by decide) (hts (.fieldLink RX4 35 "PetrolBoard$Loads" "toStation" "[I") (me_s (me_l (List.mem_of_getElem? (i := 12) rfl)))) (fun _ h => h) rfl hname rfl rfl rfl (by first | rfl | exact congrArg _ z_up_s) (fun a b h ty => z_vP h ty) dX4_init_68 (fun H locs hz1 hW hS => ?_)
  have hz : H.size = ad 58 := hz1.trans hz
  refine lv_aload_n hx hb dX4_init_71 rfl (lv_at hl 0 rfl) ?_
  refine lv_bipush (v := 10) hx hb dX4_init_72 (by decide) ?_
  refine z_newa 58 ad (atype := .int) (ty := .int) (N' := 10) hx hb (hts (.arrayClass .int) (me_s (me_l (List.mem_of_getElem? (i := 3) rfl)))) rfl hK (by simp [z_tys]) hW hS hA hz.symm (fun _ _ => rfl) (fun _ => rfl) (by decide) rfl (Nat.le_of_ble_eq_true rfl) (Nat.le_of_ble_eq_true rfl) (Nat.le_of_ble_eq_true rfl) dX4_init_74 (fun H hz1 hW hS => ?_)
  have hz : H.size = ad 59 := hz1.trans ((congrArg (· + 1) hz).trans (had 1 _).symm)
  have hW : z_W _ A (shSX102, ad, ISX59, z_J0, (PSX101 ad)) H := hW
  refine z_putF (T := TX4) (N := 13) (ci := 4) (i := 41) (v := .ref (ad 58)) (I1 := ISX59) (J1 := z_J0) (P1 := (PSX103 ad)) hx hb hts zi_X4_init_X4 tyX4 tyX4_ok nmX4 hown hK hW hS hs_shSX102_41 rfl 8 (by decide) (hts (.fieldLink RX4 38 "PetrolBoard$Loads" "byPort" "[I") (me_s (me_l (List.mem_of_getElem? (i := 13) rfl)))) (fun _ h => h) rfl hname rfl rfl rfl (by first | rfl | exact congrArg _ z_up_s) (fun a b h ty => z_vP h ty) dX4_init_76 (fun H locs hz1 hW hS => ?_)
  have hz : H.size = ad 59 := hz1.trans hz
  refine lv_aload_n hx hb dX4_init_79 rfl (lv_at hl 0 rfl) ?_
  refine lv_iconst (v := 4) hx hb dX4_init_80 (by decide) ?_
  refine z_newa 59 ad (atype := .int) (ty := .int) (N' := 4) hx hb (hts (.arrayClass .int) (me_s (me_l (List.mem_of_getElem? (i := 3) rfl)))) rfl hK (by simp [z_tys]) hW hS hA hz.symm (fun _ _ => rfl) (fun _ => rfl) (by decide) rfl (Nat.le_of_ble_eq_true rfl) (Nat.le_of_ble_eq_true rfl) (Nat.le_of_ble_eq_true rfl) dX4_init_81 (fun H hz1 hW hS => ?_)
  have hz : H.size = ad 60 := hz1.trans ((congrArg (· + 1) hz).trans (had 1 _).symm)
  have hW : z_W _ A (shSX104, ad, ISX59, z_J0, (PSX103 ad)) H := hW
  refine z_putF (T := TX4) (N := 13) (ci := 4) (i := 41) (v := .ref (ad 59)) (I1 := ISX59) (J1 := z_J0) (P1 := (PSX105 ad)) hx hb hts zi_X4_init_X4 tyX4 tyX4_ok nmX4 hown hK hW hS hs_shSX104_41 rfl 9 (by decide) (hts (.fieldLink RX4 41 "PetrolBoard$Loads" "byStation" "[I") (me_s (me_l (List.mem_of_getElem? (i := 14) rfl)))) (fun _ h => h) rfl hname rfl rfl rfl (by first | rfl | exact congrArg _ z_up_s) (fun a b h ty => z_vP h ty) dX4_init_83 (fun H locs hz1 hW hS => ?_)
  have hz : H.size = ad 60 := hz1.trans hz
  exact z_cret hx hb hr hK hS (Nat.le_of_ble_eq_true rfl) (Nat.le_of_ble_eq_true rfl) hlocks dX4_init_86 (hz.trans ((had 18 42).trans (congrArg (· + 18) hz0.symm))) hW
