theorem hs_shSX104_0 : shSX104 0 = some (.inr 11) := by rfl
noncomputable def PSX106 (ad : Nat → Nat) : z_P := z_up (PSX105 ad) 0 10 (some (ad 41))
noncomputable def shSX107 : Nat → Option z_S := z_sh shSX104 60 (.inr 3)
noncomputable def shSX108 : Nat → Option z_S := z_sh shSX107 61 (.inl (.int, 60))
theorem hs_shSX108_60 : shSX108 60 = some (.inr 3) := rfl
noncomputable def PSX109 (ad : Nat → Nat) : z_P := z_up (PSX106 ad) 60 0 (some (ad 61))
noncomputable def shSX110 : Nat → Option z_S := z_sh shSX108 62 (.inl (.int, 60))
theorem hs_shSX110_60 : shSX110 60 = some (.inr 3) := hs_shSX108_60
noncomputable def PSX111 (ad : Nat → Nat) : z_P := z_up (PSX109 ad) 60 1 (some (ad 62))
noncomputable def shSX112 : Nat → Option z_S := z_sh shSX110 63 (.inl (.int, 60))
theorem hs_shSX112_60 : shSX112 60 = some (.inr 3) := hs_shSX110_60
noncomputable def PSX113 (ad : Nat → Nat) : z_P := z_up (PSX111 ad) 60 2 (some (ad 63))
noncomputable def shSX114 : Nat → Option z_S := z_sh shSX112 64 (.inl (.int, 60))
theorem hs_shSX114_60 : shSX114 60 = some (.inr 3) := hs_shSX112_60
noncomputable def PSX115 (ad : Nat → Nat) : z_P := z_up (PSX113 ad) 60 3 (some (ad 64))
noncomputable def shSX116 : Nat → Option z_S := z_sh shSX114 65 (.inl (.int, 60))
theorem hs_shSX116_60 : shSX116 60 = some (.inr 3) := hs_shSX114_60
noncomputable def PSX117 (ad : Nat → Nat) : z_P := z_up (PSX115 ad) 60 4 (some (ad 65))
noncomputable def shSX118 : Nat → Option z_S := z_sh shSX116 66 (.inl (.int, 60))
theorem hs_shSX118_60 : shSX118 60 = some (.inr 3) := hs_shSX116_60
noncomputable def PSX119 (ad : Nat → Nat) : z_P := z_up (PSX117 ad) 60 5 (some (ad 66))
noncomputable def shSX120 : Nat → Option z_S := z_sh shSX118 67 (.inl (.int, 60))
theorem hs_shSX120_60 : shSX120 60 = some (.inr 3) := hs_shSX118_60
noncomputable def PSX121 (ad : Nat → Nat) : z_P := z_up (PSX119 ad) 60 6 (some (ad 67))
noncomputable def shSX122 : Nat → Option z_S := z_sh shSX120 68 (.inl (.int, 60))
theorem hs_shSX122_60 : shSX122 60 = some (.inr 3) := hs_shSX120_60
noncomputable def PSX123 (ad : Nat → Nat) : z_P := z_up (PSX121 ad) 60 7 (some (ad 68))
noncomputable def shSX124 : Nat → Option z_S := z_sh shSX122 69 (.inl (.int, 60))
theorem hs_shSX124_60 : shSX124 60 = some (.inr 3) := hs_shSX122_60
noncomputable def PSX125 (ad : Nat → Nat) : z_P := z_up (PSX123 ad) 60 8 (some (ad 69))
noncomputable def shSX126 : Nat → Option z_S := z_sh shSX124 70 (.inl (.int, 12))
theorem hs_shSX126_60 : shSX126 60 = some (.inr 3) := hs_shSX124_60
noncomputable def PSX127 (ad : Nat → Nat) : z_P := z_up (PSX125 ad) 60 10 (some (ad 70))
noncomputable def shSX128 : Nat → Option z_S := z_sh shSX126 71 (.inl (.int, 12))
theorem hs_shSX128_60 : shSX128 60 = some (.inr 3) := hs_shSX126_60
noncomputable def PSX129 (ad : Nat → Nat) : z_P := z_up (PSX127 ad) 60 11 (some (ad 71))
theorem zi_X3_init_X3 : ∀ w ∈ wsX30, w ∈ wsX3_init := fun w h => (List.mem_cons_of_mem _ (List.mem_append_right _ h))
set_option maxHeartbeats 8000000 in
set_option maxRecDepth 100000 in
theorem ct_X3_init (l : Launch) (G : z_G) (ad : Nat → Nat) (had : ∀ k i, ad (i + k) = ad i + k) (sz : Nat) (hz : sz = ad 61) : z_Mc l yX3_init wsX3_init { frames := 1, cells := 11, slots := 564, locals := 12 } [.ref (ad 60)] G (shSX107, ad, ISX59, z_J0, (PSX106 ad)) (shSX128, ad, ISX59, z_J0, (PSX129 ad)) 11 11 564 sz := by
  refine z_headQ (cc := cX3_init) (maxL := 1) (ret := none) (by decide) rfl (Nat.le_of_ble_eq_true rfl) ?_
  intro p e s m below meth c ls hIn hK hsz hW hl
  obtain ⟨hx, hb, hr, hml, hown, hts, hlocks, hname⟩ := hIn
  subst hsz
  have hz0 := hz
  have hown : s.vm.findClass RX3 = some m.cls := hown
  have hname : meth.name = "<init>" := hname
  have hA : ∀ q : Nat, s.heap.size ≤ q → z_A (shSX107, ad, ISX59, z_J0, (PSX106 ad)) s.heap.size q := fun q h => Or.inr h
  generalize hAe : z_A (shSX107, ad, ISX59, z_J0, (PSX106 ad)) s.heap.size = A at *
  have hS : va_S A s.heap s.heap [] := va_S.rf
  have hl : lv_has ls 1 [(0, .ref (ad 60))] := hl
  refine lv_aload_n hx hb dX3_init_0 rfl (lv_at hl 0 rfl) ?_
  refine W.objInit hx hb hown (hts (.methodLink RX3 3 objectInit) (me_s (me_l (List.mem_of_getElem? (i := 0) rfl)))) (hts (.instanceMethod objectInit) (me_s (me_l (List.mem_of_getElem? (i := 1) rfl)))) (hts (.code objectInit ⟨#[0xb1]⟩ 1 none) (me_s (me_l (List.mem_of_getElem? (i := 2) rfl)))) rfl (by rw [hml]; exact hl.1) rfl dX3_init_1 (Nat.le_of_ble_eq_true rfl) (Nat.le_of_ble_eq_true rfl) ?_
  refine W.eq (g2 := F0 m 4 ls []) rfl ?_
  refine lv_aload_n hx hb dX3_init_4 rfl (lv_at hl 0 rfl) ?_
  refine lv_bipush (v := 60) hx hb dX3_init_5 (by decide) ?_
  refine z_newa 61 ad (atype := .int) (ty := .int) (N' := 60) hx hb (hts (.arrayClass .int) (me_s (me_l (List.mem_of_getElem? (i := 3) rfl)))) rfl hK (by simp [z_tys]) hW hS hA hz.symm (fun _ _ => rfl) (fun _ => rfl) (by decide) rfl (Nat.le_of_ble_eq_true rfl) (Nat.le_of_ble_eq_true rfl) (Nat.le_of_ble_eq_true rfl) dX3_init_7 (fun H hz1 hW hS => ?_)
  have hz : H.size = ad 62 := hz1.trans ((congrArg (· + 1) hz).trans (had 1 _).symm)
  have hW : z_W _ A (shSX108, ad, ISX59, z_J0, (PSX106 ad)) H := hW
  refine z_putF (T := TX3) (N := 17) (ci := 3) (i := 60) (v := .ref (ad 61)) (I1 := ISX59) (J1 := z_J0) (P1 := (PSX109 ad)) hx hb hts zi_X3_init_X3 tyX3 tyX3_ok nmX3 hown hK hW hS hs_shSX108_60 rfl 0 (by decide) (hts (.fieldLink RX3 9 "PetrolBoard$Journeys" "holder" "[I") (me_s (me_l (List.mem_of_getElem? (i := 4) rfl)))) (fun _ h => h) rfl hname rfl rfl rfl (by first | rfl | exact congrArg _ z_up_s) (fun a b h ty => z_vP h ty) dX3_init_9 (fun H locs hz1 hW hS => ?_)
  have hz : H.size = ad 62 := hz1.trans hz
  refine lv_aload_n hx hb dX3_init_12 rfl (lv_at hl 0 rfl) ?_
  refine lv_bipush (v := 60) hx hb dX3_init_13 (by decide) ?_
  refine z_newa 62 ad (atype := .int) (ty := .int) (N' := 60) hx hb (hts (.arrayClass .int) (me_s (me_l (List.mem_of_getElem? (i := 3) rfl)))) rfl hK (by simp [z_tys]) hW hS hA hz.symm (fun _ _ => rfl) (fun _ => rfl) (by decide) rfl (Nat.le_of_ble_eq_true rfl) (Nat.le_of_ble_eq_true rfl) (Nat.le_of_ble_eq_true rfl) dX3_init_15 (fun H hz1 hW hS => ?_)
  have hz : H.size = ad 63 := hz1.trans ((congrArg (· + 1) hz).trans (had 1 _).symm)
  have hW : z_W _ A (shSX110, ad, ISX59, z_J0, (PSX109 ad)) H := hW
  refine z_putF (T := TX3) (N := 17) (ci := 3) (i := 60) (v := .ref (ad 62)) (I1 := ISX59) (J1 := z_J0) (P1 := (PSX111 ad)) hx hb hts zi_X3_init_X3 tyX3 tyX3_ok nmX3 hown hK hW hS hs_shSX110_60 rfl 1 (by decide) (hts (.fieldLink RX3 15 "PetrolBoard$Journeys" "miles" "[I") (me_s (me_l (List.mem_of_getElem? (i := 5) rfl)))) (fun _ h => h) rfl hname rfl rfl rfl (by first | rfl | exact congrArg _ z_up_s) (fun a b h ty => z_vP h ty) dX3_init_17 (fun H locs hz1 hW hS => ?_)
  have hz : H.size = ad 63 := hz1.trans hz
  refine lv_aload_n hx hb dX3_init_20 rfl (lv_at hl 0 rfl) ?_
  refine lv_bipush (v := 60) hx hb dX3_init_21 (by decide) ?_
  refine z_newa 63 ad (atype := .int) (ty := .int) (N' := 60) hx hb (hts (.arrayClass .int) (me_s (me_l (List.mem_of_getElem? (i := 3) rfl)))) rfl hK (by simp [z_tys]) hW hS hA hz.symm (fun _ _ => rfl) (fun _ => rfl) (by decide) rfl (Nat.le_of_ble_eq_true rfl) (Nat.le_of_ble_eq_true rfl) (Nat.le_of_ble_eq_true rfl) dX3_init_23 (fun H hz1 hW hS => ?_)
  have hz : H.size = ad 64 := hz1.trans ((congrArg (· + 1) hz).trans (had 1 _).symm)
  have hW : z_W _ A (shSX112, ad, ISX59, z_J0, (PSX111 ad)) H := hW
  refine z_putF (T := TX3) (N := 17) (ci := 3) (i := 60) (v := .ref (ad 63)) (I1 := ISX59) (J1 := z_J0) (P1 := (PSX113 ad)) hx hb hts zi_X3_init_X3 tyX3 tyX3_ok nmX3 hown hK hW hS hs_shSX112_60 rfl 2 (by decide) (hts (.fieldLink RX3 18 "PetrolBoard$Journeys" "people" "[I") (me_s (me_l (List.mem_of_getElem? (i := 6) rfl)))) (fun _ h => h) rfl hname rfl rfl rfl (by first | rfl | exact congrArg _ z_up_s) (fun a b h ty => z_vP h ty) dX3_init_25 (fun H locs hz1 hW hS => ?_)
  have hz : H.size = ad 64 := hz1.trans hz
  refine lv_aload_n hx hb dX3_init_28 rfl (lv_at hl 0 rfl) ?_
  refine lv_bipush (v := 60) hx hb dX3_init_29 (by decide) ?_
  refine z_newa 64 ad (atype := .int) (ty := .int) (N' := 60) hx hb (hts (.arrayClass .int) (me_s (me_l (List.mem_of_getElem? (i := 3) rfl)))) rfl hK (by simp [z_tys]) hW hS hA hz.symm (fun _ _ => rfl) (fun _ => rfl) (by decide) rfl (Nat.le_of_ble_eq_true rfl) (Nat.le_of_ble_eq_true rfl) (Nat.le_of_ble_eq_true rfl) dX3_init_31 (fun H hz1 hW hS => ?_)
  have hz : H.size = ad 65 := hz1.trans ((congrArg (· + 1) hz).trans (had 1 _).symm)
  have hW : z_W _ A (shSX114, ad, ISX59, z_J0, (PSX113 ad)) H := hW
  refine z_putF (T := TX3) (N := 17) (ci := 3) (i := 60) (v := .ref (ad 64)) (I1 := ISX59) (J1 := z_J0) (P1 := (PSX115 ad)) hx hb hts zi_X3_init_X3 tyX3 tyX3_ok nmX3 hown hK hW hS hs_shSX114_60 rfl 3 (by decide) (hts (.fieldLink RX3 21 "PetrolBoard$Journeys" "reason" "[I") (me_s (me_l (List.mem_of_getElem? (i := 7) rfl)))) (fun _ h => h) rfl hname rfl rfl rfl (by first | rfl | exact congrArg _ z_up_s) (fun a b h ty => z_vP h ty) dX3_init_33 (fun H locs hz1 hW hS => ?_)
  have hz : H.size = ad 65 := hz1.trans hz
  refine lv_aload_n hx hb dX3_init_36 rfl (lv_at hl 0 rfl) ?_
  refine lv_bipush (v := 60) hx hb dX3_init_37 (by decide) ?_
  refine z_newa 65 ad (atype := .int) (ty := .int) (N' := 60) hx hb (hts (.arrayClass .int) (me_s (me_l (List.mem_of_getElem? (i := 3) rfl)))) rfl hK (by simp [z_tys]) hW hS hA hz.symm (fun _ _ => rfl) (fun _ => rfl) (by decide) rfl (Nat.le_of_ble_eq_true rfl) (Nat.le_of_ble_eq_true rfl) (Nat.le_of_ble_eq_true rfl) dX3_init_39 (fun H hz1 hW hS => ?_)
  have hz : H.size = ad 66 := hz1.trans ((congrArg (· + 1) hz).trans (had 1 _).symm)
  have hW : z_W _ A (shSX116, ad, ISX59, z_J0, (PSX115 ad)) H := hW
  refine z_putF (T := TX3) (N := 17) (ci := 3) (i := 60) (v := .ref (ad 65)) (I1 := ISX59) (J1 := z_J0) (P1 := (PSX117 ad)) hx hb hts zi_X3_init_X3 tyX3 tyX3_ok nmX3 hown hK hW hS hs_shSX116_60 rfl 4 (by decide) (hts (.fieldLink RX3 24 "PetrolBoard$Journeys" "day" "[I") (me_s (me_l (List.mem_of_getElem? (i := 8) rfl)))) (fun _ h => h) rfl hname rfl rfl rfl (by first | rfl | exact congrArg _ z_up_s) (fun a b h ty => z_vP h ty) dX3_init_41 (fun H locs hz1 hW hS => ?_)
  have hz : H.size = ad 66 := hz1.trans hz
  refine lv_aload_n hx hb dX3_init_44 rfl (lv_at hl 0 rfl) ?_
  refine lv_bipush (v := 60) hx hb dX3_init_45 (by decide) ?_
  refine z_newa 66 ad (atype := .int) (ty := .int) (N' := 60) hx hb (hts (.arrayClass .int) (me_s (me_l (List.mem_of_getElem? (i := 3) rfl)))) rfl hK (by simp [z_tys]) hW hS hA hz.symm (fun _ _ => rfl) (fun _ => rfl) (by decide) rfl (Nat.le_of_ble_eq_true rfl) (Nat.le_of_ble_eq_true rfl) (Nat.le_of_ble_eq_true rfl) dX3_init_47 (fun H hz1 hW hS => ?_)
  have hz : H.size = ad 67 := hz1.trans ((congrArg (· + 1) hz).trans (had 1 _).symm)
  have hW : z_W _ A (shSX118, ad, ISX59, z_J0, (PSX117 ad)) H := hW
  refine z_putF (T := TX3) (N := 17) (ci := 3) (i := 60) (v := .ref (ad 66)) (I1 := ISX59) (J1 := z_J0) (P1 := (PSX119 ad)) hx hb hts zi_X3_init_X3 tyX3 tyX3_ok nmX3 hown hK hW hS hs_shSX118_60 rfl 5 (by decide) (hts (.fieldLink RX3 27 "PetrolBoard$Journeys" "way" "[I") (me_s (me_l (List.mem_of_getElem? (i := 9) rfl)))) (fun _ h => h) rfl hname rfl rfl rfl (by first | rfl | exact congrArg _ z_up_s) (fun a b h ty => z_vP h ty) dX3_init_49 (fun H locs hz1 hW hS => ?_)
  have hz : H.size = ad 67 := hz1.trans hz
  refine lv_aload_n hx hb dX3_init_52 rfl (lv_at hl 0 rfl) ?_
  refine lv_bipush (v := 60) hx hb dX3_init_53 (by decide) ?_
  refine z_newa 67 ad (atype := .int) (ty := .int) (N' := 60) hx hb (hts (.arrayClass .int) (me_s (me_l (List.mem_of_getElem? (i := 3) rfl)))) rfl hK (by simp [z_tys]) hW hS hA hz.symm (fun _ _ => rfl) (fun _ => rfl) (by decide) rfl (Nat.le_of_ble_eq_true rfl) (Nat.le_of_ble_eq_true rfl) (Nat.le_of_ble_eq_true rfl) dX3_init_55 (fun H hz1 hW hS => ?_)
  have hz : H.size = ad 68 := hz1.trans ((congrArg (· + 1) hz).trans (had 1 _).symm)
  have hW : z_W _ A (shSX120, ad, ISX59, z_J0, (PSX119 ad)) H := hW
  refine z_putF (T := TX3) (N := 17) (ci := 3) (i := 60) (v := .ref (ad 67)) (I1 := ISX59) (J1 := z_J0) (P1 := (PSX121 ad)) hx hb hts zi_X3_init_X3 tyX3 tyX3_ok nmX3 hown hK hW hS hs_shSX120_60 rfl 6 (by decide) (hts (.fieldLink RX3 30 "PetrolBoard$Journeys" "asked" "[I") (me_s (me_l (List.mem_of_getElem? (i := 10) rfl)))) (fun _ h => h) rfl hname rfl rfl rfl (by first | rfl | exact congrArg _ z_up_s) (fun a b h ty => z_vP h ty) dX3_init_57 (fun H locs hz1 hW hS => ?_)
  have hz : H.size = ad 68 := hz1.trans hz
  refine lv_aload_n hx hb dX3_init_60 rfl (lv_at hl 0 rfl) ?_
  refine lv_bipush (v := 60) hx hb dX3_init_61 (by decide) ?_
  refine z_newa 68 ad (atype := .int) (ty := .int) (N' := 60) hx hb (hts (.arrayClass .int) (me_s (me_l (List.mem_of_getElem? (i := 3) rfl)))) rfl hK (by simp [z_tys]) hW hS hA hz.symm (fun _ _ => rfl) (fun _ => rfl) (by decide) rfl (Nat.le_of_ble_eq_true rfl) (Nat.le_of_ble_eq_true rfl) (Nat.le_of_ble_eq_true rfl) dX3_init_63 (fun H hz1 hW hS => ?_)
  have hz : H.size = ad 69 := hz1.trans ((congrArg (· + 1) hz).trans (had 1 _).symm)
  have hW : z_W _ A (shSX122, ad, ISX59, z_J0, (PSX121 ad)) H := hW
  refine z_putF (T := TX3) (N := 17) (ci := 3) (i := 60) (v := .ref (ad 68)) (I1 := ISX59) (J1 := z_J0) (P1 := (PSX123 ad)) hx hb hts zi_X3_init_X3 tyX3 tyX3_ok nmX3 hown hK hW hS hs_shSX122_60 rfl 7 (by decide) (hts (.fieldLink RX3 33 "PetrolBoard$Journeys" "granted" "[I") (me_s (me_l (List.mem_of_getElem? (i := 11) rfl)))) (fun _ h => h) rfl hname rfl rfl rfl (by first | rfl | exact congrArg _ z_up_s) (fun a b h ty => z_vP h ty) dX3_init_65 (fun H locs hz1 hW hS => ?_)
  have hz : H.size = ad 69 := hz1.trans hz
  refine lv_aload_n hx hb dX3_init_68 rfl (lv_at hl 0 rfl) ?_
  refine lv_bipush (v := 60) hx hb dX3_init_69 (by decide) ?_
  refine z_newa 69 ad (atype := .int) (ty := .int) (N' := 60) hx hb (hts (.arrayClass .int) (me_s (me_l (List.mem_of_getElem? (i := 3) rfl)))) rfl hK (by simp [z_tys]) hW hS hA hz.symm (fun _ _ => rfl) (fun _ => rfl) (by decide) rfl (Nat.le_of_ble_eq_true rfl) (Nat.le_of_ble_eq_true rfl) (Nat.le_of_ble_eq_true rfl) dX3_init_71 (fun H hz1 hW hS => ?_)
  have hz : H.size = ad 70 := hz1.trans ((congrArg (· + 1) hz).trans (had 1 _).symm)
  have hW : z_W _ A (shSX124, ad, ISX59, z_J0, (PSX123 ad)) H := hW
  refine z_putF (T := TX3) (N := 17) (ci := 3) (i := 60) (v := .ref (ad 69)) (I1 := ISX59) (J1 := z_J0) (P1 := (PSX125 ad)) hx hb hts zi_X3_init_X3 tyX3 tyX3_ok nmX3 hown hK hW hS hs_shSX124_60 rfl 8 (by decide) (hts (.fieldLink RX3 36 "PetrolBoard$Journeys" "grantedFirst" "[I") (me_s (me_l (List.mem_of_getElem? (i := 12) rfl)))) (fun _ h => h) rfl hname rfl rfl rfl (by first | rfl | exact congrArg _ z_up_s) (fun a b h ty => z_vP h ty) dX3_init_73 (fun H locs hz1 hW hS => ?_)
  have hz : H.size = ad 70 := hz1.trans hz
  refine lv_aload_n hx hb dX3_init_76 rfl (lv_at hl 0 rfl) ?_
  refine lv_bipush (v := 12) hx hb dX3_init_77 (by decide) ?_
  refine z_newa 70 ad (atype := .int) (ty := .int) (N' := 12) hx hb (hts (.arrayClass .int) (me_s (me_l (List.mem_of_getElem? (i := 3) rfl)))) rfl hK (by simp [z_tys]) hW hS hA hz.symm (fun _ _ => rfl) (fun _ => rfl) (by decide) rfl (Nat.le_of_ble_eq_true rfl) (Nat.le_of_ble_eq_true rfl) (Nat.le_of_ble_eq_true rfl) dX3_init_79 (fun H hz1 hW hS => ?_)
  have hz : H.size = ad 71 := hz1.trans ((congrArg (· + 1) hz).trans (had 1 _).symm)
  have hW : z_W _ A (shSX126, ad, ISX59, z_J0, (PSX125 ad)) H := hW
  refine z_putF (T := TX3) (N := 17) (ci := 3) (i := 60) (v := .ref (ad 70)) (I1 := ISX59) (J1 := z_J0) (P1 := (PSX127 ad)) hx hb hts zi_X3_init_X3 tyX3 tyX3_ok nmX3 hown hK hW hS hs_shSX126_60 rfl 10 (by decide) (hts (.fieldLink RX3 39 "PetrolBoard$Journeys" "pooledSeats" "[I") (me_s (me_l (List.mem_of_getElem? (i := 13) rfl)))) (fun _ h => h) rfl hname rfl rfl rfl (by first | rfl | exact congrArg _ z_up_s) (fun a b h ty => z_vP h ty) dX3_init_81 (fun H locs hz1 hW hS => ?_)
  have hz : H.size = ad 71 := hz1.trans hz
  refine lv_aload_n hx hb dX3_init_84 rfl (lv_at hl 0 rfl) ?_
  refine lv_bipush (v := 12) hx hb dX3_init_85 (by decide) ?_
  refine z_newa 71 ad (atype := .int) (ty := .int) (N' := 12) hx hb (hts (.arrayClass .int) (me_s (me_l (List.mem_of_getElem? (i := 3) rfl)))) rfl hK (by simp [z_tys]) hW hS hA hz.symm (fun _ _ => rfl) (fun _ => rfl) (by decide) rfl (Nat.le_of_ble_eq_true rfl) (Nat.le_of_ble_eq_true rfl) (Nat.le_of_ble_eq_true rfl) dX3_init_87 (fun H hz1 hW hS => ?_)
  have hz : H.size = ad 72 := hz1.trans ((congrArg (· + 1) hz).trans (had 1 _).symm)
  have hW : z_W _ A (shSX128, ad, ISX59, z_J0, (PSX127 ad)) H := hW
  refine z_putF (T := TX3) (N := 17) (ci := 3) (i := 60) (v := .ref (ad 71)) (I1 := ISX59) (J1 := z_J0) (P1 := (PSX129 ad)) hx hb hts zi_X3_init_X3 tyX3 tyX3_ok nmX3 hown hK hW hS hs_shSX128_60 rfl 11 (by decide) (hts (.fieldLink RX3 42 "PetrolBoard$Journeys" "pooledCost" "[I") (me_s (me_l (List.mem_of_getElem? (i := 14) rfl)))) (fun _ h => h) rfl hname rfl rfl rfl (by first | rfl | exact congrArg _ z_up_s) (fun a b h ty => z_vP h ty) dX3_init_89 (fun H locs hz1 hW hS => ?_)
  have hz : H.size = ad 72 := hz1.trans hz
  exact z_cret hx hb hr hK hS (Nat.le_of_ble_eq_true rfl) (Nat.le_of_ble_eq_true rfl) hlocks dX3_init_92 (hz.trans ((had 11 61).trans (congrArg (· + 11) hz0.symm))) hW
