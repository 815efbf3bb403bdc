theorem hs_shSX7_1 : shSX7 1 = some (.inr 2) := hs_shSX5_1
noncomputable def PSX8 (ad : Nat → Nat) : z_P := z_up (PSX6 ad) 1 2 (some (ad 4))
noncomputable def shSX9 : Nat → Option z_S := z_sh shSX7 5 (.inl (.int, 30))
theorem hs_shSX9_1 : shSX9 1 = some (.inr 2) := hs_shSX7_1
noncomputable def PSX10 (ad : Nat → Nat) : z_P := z_up (PSX8 ad) 1 3 (some (ad 5))
noncomputable def shSX11 : Nat → Option z_S := z_sh shSX9 6 (.inl (.int, 30))
theorem hs_shSX11_1 : shSX11 1 = some (.inr 2) := hs_shSX9_1
noncomputable def PSX12 (ad : Nat → Nat) : z_P := z_up (PSX10 ad) 1 4 (some (ad 6))
noncomputable def shSX13 : Nat → Option z_S := z_sh shSX11 7 (.inl (.int, 200))
theorem hs_shSX13_1 : shSX13 1 = some (.inr 2) := hs_shSX11_1
noncomputable def PSX14 (ad : Nat → Nat) : z_P := z_up (PSX12 ad) 1 6 (some (ad 7))
noncomputable def shSX15 : Nat → Option z_S := z_sh shSX13 8 (.inl (.int, 200))
theorem hs_shSX15_1 : shSX15 1 = some (.inr 2) := hs_shSX13_1
noncomputable def PSX16 (ad : Nat → Nat) : z_P := z_up (PSX14 ad) 1 7 (some (ad 8))
noncomputable def shSX17 : Nat → Option z_S := z_sh shSX15 9 (.inl (.int, 200))
theorem hs_shSX17_1 : shSX17 1 = some (.inr 2) := hs_shSX15_1
noncomputable def PSX18 (ad : Nat → Nat) : z_P := z_up (PSX16 ad) 1 8 (some (ad 9))
noncomputable def shSX19 : Nat → Option z_S := z_sh shSX17 10 (.inl (.int, 200))
theorem hs_shSX19_1 : shSX19 1 = some (.inr 2) := hs_shSX17_1
noncomputable def PSX20 (ad : Nat → Nat) : z_P := z_up (PSX18 ad) 1 9 (some (ad 10))
noncomputable def shSX21 : Nat → Option z_S := z_sh shSX19 11 (.inl (.int, 200))
theorem hs_shSX21_1 : shSX21 1 = some (.inr 2) := hs_shSX19_1
noncomputable def PSX22 (ad : Nat → Nat) : z_P := z_up (PSX20 ad) 1 10 (some (ad 11))
theorem zi_X2_init_X2 : ∀ w ∈ wsX20, w ∈ wsX2_init := fun w h => (List.mem_cons_of_mem _ (List.mem_append_right _ h))
set_option maxHeartbeats 8000000 in
set_option maxRecDepth 100000 in
theorem ct_X2_init (l : Launch) (G : z_G) (ad : Nat → Nat) (had : ∀ k i, ad (i + k) = ad i + k) (sz : Nat) (hz : sz = ad 2) : z_Mc l yX2_init wsX2_init { frames := 1, cells := 10, slots := 1150, locals := 12 } [.ref (ad 1)] G (shSX2, ad, ISX1, z_J0, (PX0 ad)) (shSX21, ad, ISX1, z_J0, (PSX22 ad)) 10 10 1150 sz := by
  refine z_headQ (cc := cX2_init) (maxL := 1) (ret := none) (by decide) rfl (Nat.le_of_ble_eq_true rfl) ?_
  intro p e s m below meth c ls hIn hK hsz hW hl
  obtain ⟨hx, hb, hr, hml, hown, hts, hlocks, hname⟩ := hIn
  subst hsz
  have hz0 := hz
  have hown : s.vm.findClass RX2 = some m.cls := hown
  have hname : meth.name = "<init>" := hname
  have hA : ∀ q : Nat, s.heap.size ≤ q → z_A (shSX2, ad, ISX1, z_J0, (PX0 ad)) s.heap.size q := fun q h => Or.inr h
  generalize hAe : z_A (shSX2, ad, ISX1, z_J0, (PX0 ad)) s.heap.size = A at *
  have hS : va_S A s.heap s.heap [] := va_S.rf
  have hl : lv_has ls 1 [(0, .ref (ad 1))] := hl
  refine lv_aload_n hx hb dX2_init_0 rfl (lv_at hl 0 rfl) ?_
  refine W.objInit hx hb hown (hts (.methodLink RX2 3 objectInit) (me_s (me_l (List.mem_of_getElem? (i := 0) rfl)))) (hts (.instanceMethod objectInit) (me_s (me_l (List.mem_of_getElem? (i := 1) rfl)))) (hts (.code objectInit ⟨#[0xb1]⟩ 1 none) (me_s (me_l (List.mem_of_getElem? (i := 2) rfl)))) rfl (by rw [hml]; exact hl.1) rfl dX2_init_1 (Nat.le_of_ble_eq_true rfl) (Nat.le_of_ble_eq_true rfl) ?_
  refine W.eq (g2 := F0 m 4 ls []) rfl ?_
  refine lv_aload_n hx hb dX2_init_4 rfl (lv_at hl 0 rfl) ?_
  refine lv_bipush (v := 30) hx hb dX2_init_5 (by decide) ?_
  refine z_newa 2 ad (atype := .int) (ty := .int) (N' := 30) hx hb (hts (.arrayClass .int) (me_s (me_l (List.mem_of_getElem? (i := 3) rfl)))) rfl hK (by simp [z_tys]) hW hS hA hz.symm (fun _ _ => rfl) (fun _ => rfl) (by decide) rfl (Nat.le_of_ble_eq_true rfl) (Nat.le_of_ble_eq_true rfl) (Nat.le_of_ble_eq_true rfl) dX2_init_7 (fun H hz1 hW hS => ?_)
  have hz : H.size = ad 3 := hz1.trans ((congrArg (· + 1) hz).trans (had 1 _).symm)
  have hW : z_W _ A (shSX3, ad, ISX1, z_J0, (PX0 ad)) H := hW
  refine z_putF (T := TX2) (N := 12) (ci := 2) (i := 1) (v := .ref (ad 2)) (I1 := ISX1) (J1 := z_J0) (P1 := (PSX4 ad)) hx hb hts zi_X2_init_X2 tyX2 tyX2_ok nmX2 hown hK hW hS hs_shSX3_1 rfl 0 (by decide) (hts (.fieldLink RX2 9 "PetrolBoard$Holders" "size" "[I") (me_s (me_l (List.mem_of_getElem? (i := 4) rfl)))) (fun _ h => h) rfl hname rfl rfl rfl (by first | rfl | exact congrArg _ z_up_s) (fun a b h ty => z_vP h ty) dX2_init_9 (fun H locs hz1 hW hS => ?_)
  have hz : H.size = ad 3 := hz1.trans hz
  refine lv_aload_n hx hb dX2_init_12 rfl (lv_at hl 0 rfl) ?_
  refine lv_bipush (v := 30) hx hb dX2_init_13 (by decide) ?_
  refine z_newa 3 ad (atype := .int) (ty := .int) (N' := 30) hx hb (hts (.arrayClass .int) (me_s (me_l (List.mem_of_getElem? (i := 3) rfl)))) rfl hK (by simp [z_tys]) hW hS hA hz.symm (fun _ _ => rfl) (fun _ => rfl) (by decide) rfl (Nat.le_of_ble_eq_true rfl) (Nat.le_of_ble_eq_true rfl) (Nat.le_of_ble_eq_true rfl) dX2_init_15 (fun H hz1 hW hS => ?_)
  have hz : H.size = ad 4 := hz1.trans ((congrArg (· + 1) hz).trans (had 1 _).symm)
  have hW : z_W _ A (shSX5, ad, ISX1, z_J0, (PSX4 ad)) H := hW
  refine z_putF (T := TX2) (N := 12) (ci := 2) (i := 1) (v := .ref (ad 3)) (I1 := ISX1) (J1 := z_J0) (P1 := (PSX6 ad)) hx hb hts zi_X2_init_X2 tyX2 tyX2_ok nmX2 hown hK hW hS hs_shSX5_1 rfl 1 (by decide) (hts (.fieldLink RX2 15 "PetrolBoard$Holders" "town" "[I") (me_s (me_l (List.mem_of_getElem? (i := 5) rfl)))) (fun _ h => h) rfl hname rfl rfl rfl (by first | rfl | exact congrArg _ z_up_s) (fun a b h ty => z_vP h ty) dX2_init_17 (fun H locs hz1 hW hS => ?_)
  have hz : H.size = ad 4 := hz1.trans hz
  refine lv_aload_n hx hb dX2_init_20 rfl (lv_at hl 0 rfl) ?_
  refine lv_bipush (v := 30) hx hb dX2_init_21 (by decide) ?_
  refine z_newa 4 ad (atype := .int) (ty := .int) (N' := 30) hx hb (hts (.arrayClass .int) (me_s (me_l (List.mem_of_getElem? (i := 3) rfl)))) rfl hK (by simp [z_tys]) hW hS hA hz.symm (fun _ _ => rfl) (fun _ => rfl) (by decide) rfl (Nat.le_of_ble_eq_true rfl) (Nat.le_of_ble_eq_true rfl) (Nat.le_of_ble_eq_true rfl) dX2_init_23 (fun H hz1 hW hS => ?_)
  have hz : H.size = ad 5 := hz1.trans ((congrArg (· + 1) hz).trans (had 1 _).symm)
  have hW : z_W _ A (shSX7, ad, ISX1, z_J0, (PSX6 ad)) H := hW
  refine z_putF (T := TX2) (N := 12) (ci := 2) (i := 1) (v := .ref (ad 4)) (I1 := ISX1) (J1 := z_J0) (P1 := (PSX8 ad)) hx hb hts zi_X2_init_X2 tyX2 tyX2_ok nmX2 hown hK hW hS hs_shSX7_1 rfl 2 (by decide) (hts (.fieldLink RX2 18 "PetrolBoard$Holders" "seats" "[I") (me_s (me_l (List.mem_of_getElem? (i := 6) rfl)))) (fun _ h => h) rfl hname rfl rfl rfl (by first | rfl | exact congrArg _ z_up_s) (fun a b h ty => z_vP h ty) dX2_init_25 (fun H locs hz1 hW hS => ?_)
  have hz : H.size = ad 5 := hz1.trans hz
  refine lv_aload_n hx hb dX2_init_28 rfl (lv_at hl 0 rfl) ?_
  refine lv_bipush (v := 30) hx hb dX2_init_29 (by decide) ?_
  refine z_newa 5 ad (atype := .int) (ty := .int) (N' := 30) hx hb (hts (.arrayClass .int) (me_s (me_l (List.mem_of_getElem? (i := 3) rfl)))) rfl hK (by simp [z_tys]) hW hS hA hz.symm (fun _ _ => rfl) (fun _ => rfl) (by decide) rfl (Nat.le_of_ble_eq_true rfl) (Nat.le_of_ble_eq_true rfl) (Nat.le_of_ble_eq_true rfl) dX2_init_31 (fun H hz1 hW hS => ?_)
  have hz : H.size = ad 6 := hz1.trans ((congrArg (· + 1) hz).trans (had 1 _).symm)
  have hW : z_W _ A (shSX9, ad, ISX1, z_J0, (PSX8 ad)) H := hW
  refine z_putF (T := TX2) (N := 12) (ci := 2) (i := 1) (v := .ref (ad 5)) (I1 := ISX1) (J1 := z_J0) (P1 := (PSX10 ad)) hx hb hts zi_X2_init_X2 tyX2 tyX2_ok nmX2 hown hK hW hS hs_shSX9_1 rfl 3 (by decide) (hts (.fieldLink RX2 21 "PetrolBoard$Holders" "bid" "[I") (me_s (me_l (List.mem_of_getElem? (i := 7) rfl)))) (fun _ h => h) rfl hname rfl rfl rfl (by first | rfl | exact congrArg _ z_up_s) (fun a b h ty => z_vP h ty) dX2_init_33 (fun H locs hz1 hW hS => ?_)
  have hz : H.size = ad 6 := hz1.trans hz
  refine lv_aload_n hx hb dX2_init_36 rfl (lv_at hl 0 rfl) ?_
  refine lv_bipush (v := 30) hx hb dX2_init_37 (by decide) ?_
  refine z_newa 6 ad (atype := .int) (ty := .int) (N' := 30) hx hb (hts (.arrayClass .int) (me_s (me_l (List.mem_of_getElem? (i := 3) rfl)))) rfl hK (by simp [z_tys]) hW hS hA hz.symm (fun _ _ => rfl) (fun _ => rfl) (by decide) rfl (Nat.le_of_ble_eq_true rfl) (Nat.le_of_ble_eq_true rfl) (Nat.le_of_ble_eq_true rfl) dX2_init_39 (fun H hz1 hW hS => ?_)
  have hz : H.size = ad 7 := hz1.trans ((congrArg (· + 1) hz).trans (had 1 _).symm)
  have hW : z_W _ A (shSX11, ad, ISX1, z_J0, (PSX10 ad)) H := hW
  refine z_putF (T := TX2) (N := 12) (ci := 2) (i := 1) (v := .ref (ad 6)) (I1 := ISX1) (J1 := z_J0) (P1 := (PSX12 ad)) hx hb hts zi_X2_init_X2 tyX2 tyX2_ok nmX2 hown hK hW hS hs_shSX11_1 rfl 4 (by decide) (hts (.fieldLink RX2 24 "PetrolBoard$Holders" "need" "[I") (me_s (me_l (List.mem_of_getElem? (i := 8) rfl)))) (fun _ h => h) rfl hname rfl rfl rfl (by first | rfl | exact congrArg _ z_up_s) (fun a b h ty => z_vP h ty) dX2_init_41 (fun H locs hz1 hW hS => ?_)
  have hz : H.size = ad 7 := hz1.trans hz
  refine lv_aload_n hx hb dX2_init_44 rfl (lv_at hl 0 rfl) ?_
  refine lv_sipush (v := 200) hx hb dX2_init_45 (by decide) ?_
  refine z_newa 7 ad (atype := .int) (ty := .int) (N' := 200) hx hb (hts (.arrayClass .int) (me_s (me_l (List.mem_of_getElem? (i := 3) rfl)))) rfl hK (by simp [z_tys]) hW hS hA hz.symm (fun _ _ => rfl) (fun _ => rfl) (by decide) rfl (Nat.le_of_ble_eq_true rfl) (Nat.le_of_ble_eq_true rfl) (Nat.le_of_ble_eq_true rfl) dX2_init_48 (fun H hz1 hW hS => ?_)
  have hz : H.size = ad 8 := hz1.trans ((congrArg (· + 1) hz).trans (had 1 _).symm)
  have hW : z_W _ A (shSX13, ad, ISX1, z_J0, (PSX12 ad)) H := hW
  refine z_putF (T := TX2) (N := 12) (ci := 2) (i := 1) (v := .ref (ad 7)) (I1 := ISX1) (J1 := z_J0) (P1 := (PSX14 ad)) hx hb hts zi_X2_init_X2 tyX2 tyX2_ok nmX2 hown hK hW hS hs_shSX13_1 rfl 6 (by decide) (hts (.fieldLink RX2 27 "PetrolBoard$Holders" "noteOf" "[I") (me_s (me_l (List.mem_of_getElem? (i := 9) rfl)))) (fun _ h => h) rfl hname rfl rfl rfl (by first | rfl | exact congrArg _ z_up_s) (fun a b h ty => z_vP h ty) dX2_init_50 (fun H locs hz1 hW hS => ?_)
  have hz : H.size = ad 8 := hz1.trans hz
  refine lv_aload_n hx hb dX2_init_53 rfl (lv_at hl 0 rfl) ?_
  refine lv_sipush (v := 200) hx hb dX2_init_54 (by decide) ?_
  refine z_newa 8 ad (atype := .int) (ty := .int) (N' := 200) hx hb (hts (.arrayClass .int) (me_s (me_l (List.mem_of_getElem? (i := 3) rfl)))) rfl hK (by simp [z_tys]) hW hS hA hz.symm (fun _ _ => rfl) (fun _ => rfl) (by decide) rfl (Nat.le_of_ble_eq_true rfl) (Nat.le_of_ble_eq_true rfl) (Nat.le_of_ble_eq_true rfl) dX2_init_57 (fun H hz1 hW hS => ?_)
  have hz : H.size = ad 9 := hz1.trans ((congrArg (· + 1) hz).trans (had 1 _).symm)
  have hW : z_W _ A (shSX15, ad, ISX1, z_J0, (PSX14 ad)) H := hW
  refine z_putF (T := TX2) (N := 12) (ci := 2) (i := 1) (v := .ref (ad 8)) (I1 := ISX1) (J1 := z_J0) (P1 := (PSX16 ad)) hx hb hts zi_X2_init_X2 tyX2 tyX2_ok nmX2 hown hK hW hS hs_shSX15_1 rfl 7 (by decide) (hts (.fieldLink RX2 30 "PetrolBoard$Holders" "kind" "[I") (me_s (me_l (List.mem_of_getElem? (i := 10) rfl)))) (fun _ h => h) rfl hname rfl rfl rfl (by first | rfl | exact congrArg _ z_up_s) (fun a b h ty => z_vP h ty) dX2_init_59 (fun H locs hz1 hW hS => ?_)
  have hz : H.size = ad 9 := hz1.trans hz
  refine lv_aload_n hx hb dX2_init_62 rfl (lv_at hl 0 rfl) ?_
  refine lv_sipush (v := 200) hx hb dX2_init_63 (by decide) ?_
  refine z_newa 9 ad (atype := .int) (ty := .int) (N' := 200) hx hb (hts (.arrayClass .int) (me_s (me_l (List.mem_of_getElem? (i := 3) rfl)))) rfl hK (by simp [z_tys]) hW hS hA hz.symm (fun _ _ => rfl) (fun _ => rfl) (by decide) rfl (Nat.le_of_ble_eq_true rfl) (Nat.le_of_ble_eq_true rfl) (Nat.le_of_ble_eq_true rfl) dX2_init_66 (fun H hz1 hW hS => ?_)
  have hz : H.size = ad 10 := hz1.trans ((congrArg (· + 1) hz).trans (had 1 _).symm)
  have hW : z_W _ A (shSX17, ad, ISX1, z_J0, (PSX16 ad)) H := hW
  refine z_putF (T := TX2) (N := 12) (ci := 2) (i := 1) (v := .ref (ad 9)) (I1 := ISX1) (J1 := z_J0) (P1 := (PSX18 ad)) hx hb hts zi_X2_init_X2 tyX2 tyX2_ok nmX2 hown hK hW hS hs_shSX17_1 rfl 8 (by decide) (hts (.fieldLink RX2 33 "PetrolBoard$Holders" "from" "[I") (me_s (me_l (List.mem_of_getElem? (i := 11) rfl)))) (fun _ h => h) rfl hname rfl rfl rfl (by first | rfl | exact congrArg _ z_up_s) (fun a b h ty => z_vP h ty) dX2_init_68 (fun H locs hz1 hW hS => ?_)
  have hz : H.size = ad 10 := hz1.trans hz
  refine lv_aload_n hx hb dX2_init_71 rfl (lv_at hl 0 rfl) ?_
  refine lv_sipush (v := 200) hx hb dX2_init_72 (by decide) ?_
  refine z_newa 10 ad (atype := .int) (ty := .int) (N' := 200) hx hb (hts (.arrayClass .int) (me_s (me_l (List.mem_of_getElem? (i := 3) rfl)))) rfl hK (by simp [z_tys]) hW hS hA hz.symm (fun _ _ => rfl) (fun _ => rfl) (by decide) rfl (Nat.le_of_ble_eq_true rfl) (Nat.le_of_ble_eq_true rfl) (Nat.le_of_ble_eq_true rfl) dX2_init_75 (fun H hz1 hW hS => ?_)
  have hz : H.size = ad 11 := hz1.trans ((congrArg (· + 1) hz).trans (had 1 _).symm)
  have hW : z_W _ A (shSX19, ad, ISX1, z_J0, (PSX18 ad)) H := hW
  refine z_putF (T := TX2) (N := 12) (ci := 2) (i := 1) (v := .ref (ad 10)) (I1 := ISX1) (J1 := z_J0) (P1 := (PSX20 ad)) hx hb hts zi_X2_init_X2 tyX2 tyX2_ok nmX2 hown hK hW hS hs_shSX19_1 rfl 9 (by decide) (hts (.fieldLink RX2 36 "PetrolBoard$Holders" "toldOn" "[I") (me_s (me_l (List.mem_of_getElem? (i := 12) rfl)))) (fun _ h => h) rfl hname rfl rfl rfl (by first | rfl | exact congrArg _ z_up_s) (fun a b h ty => z_vP h ty) dX2_init_77 (fun H locs hz1 hW hS => ?_)
  have hz : H.size = ad 11 := hz1.trans hz
  refine lv_aload_n hx hb dX2_init_80 rfl (lv_at hl 0 rfl) ?_
  refine lv_sipush (v := 200) hx hb dX2_init_81 (by decide) ?_
  refine z_newa 11 ad (atype := .int) (ty := .int) (N' := 200) hx hb (hts (.arrayClass .int) (me_s (me_l (List.mem_of_getElem? (i := 3) rfl)))) rfl hK (by simp [z_tys]) hW hS hA hz.symm (fun _ _ => rfl) (fun _ => rfl) (by decide) rfl (Nat.le_of_ble_eq_true rfl) (Nat.le_of_ble_eq_true rfl) (Nat.le_of_ble_eq_true rfl) dX2_init_84 (fun H hz1 hW hS => ?_)
  have hz : H.size = ad 12 := hz1.trans ((congrArg (· + 1) hz).trans (had 1 _).symm)
  have hW : z_W _ A (shSX21, ad, ISX1, z_J0, (PSX20 ad)) H := hW
  refine z_putF (T := TX2) (N := 12) (ci := 2) (i := 1) (v := .ref (ad 11)) (I1 := ISX1) (J1 := z_J0) (P1 := (PSX22 ad)) hx hb hts zi_X2_init_X2 tyX2 tyX2_ok nmX2 hown hK hW hS hs_shSX21_1 rfl 10 (by decide) (hts (.fieldLink RX2 39 "PetrolBoard$Holders" "undoneOn" "[I") (me_s (me_l (List.mem_of_getElem? (i := 13) rfl)))) (fun _ h => h) rfl hname rfl rfl rfl (by first | rfl | exact congrArg _ z_up_s) (fun a b h ty => z_vP h ty) dX2_init_86 (fun H locs hz1 hW hS => ?_)
  have hz : H.size = ad 12 := hz1.trans hz
  exact z_cret hx hb hr hK hS (Nat.le_of_ble_eq_true rfl) (Nat.le_of_ble_eq_true rfl) hlocks dX2_init_89 (hz.trans ((had 10 2).trans (congrArg (· + 10) hz0.symm))) hW
theorem hs_shSX21_0 : shSX21 0 = some (.inr 11) := by rfl
noncomputable def PSX23 (ad : Nat → Nat) : z_P := z_up (PSX22 ad) 0 2 (some (ad 1))
noncomputable def shSX24 : Nat → Option z_S := z_sh shSX21 12 (.inr 9)
noncomputable def shSX25 : Nat → Option z_S := z_sh shSX24 13 (.inl (.int, 500))
theorem hs_shSX25_12 : shSX25 12 = some (.inr 9) := rfl
noncomputable def PSX26 (ad : Nat → Nat) : z_P := z_up (PSX23 ad) 12 0 (some (ad 13))
noncomputable def shSX27 : Nat → Option z_S := z_sh shSX25 14 (.inl (.int, 501))
theorem hs_shSX27_12 : shSX27 12 = some (.inr 9) := hs_shSX25_12
noncomputable def PSX28 (ad : Nat → Nat) : z_P := z_up (PSX26 ad) 12 2 (some (ad 14))
noncomputable def shSX29 : Nat → Option z_S := z_sh shSX27 15 (.inl (.int, 501))
theorem hs_shSX29_12 : shSX29 12 = some (.inr 9) := hs_shSX27_12
noncomputable def PSX30 (ad : Nat → Nat) : z_P := z_up (PSX28 ad) 12 3 (some (ad 15))
noncomputable def shSX31 : Nat → Option z_S := z_sh shSX29 16 (.inl (.int, 501))
theorem hs_shSX31_12 : shSX31 12 = some (.inr 9) := hs_shSX29_12
noncomputable def PSX32 (ad : Nat → Nat) : z_P := z_up (PSX30 ad) 12 4 (some (ad 16))
noncomputable def shSX33 : Nat → Option z_S := z_sh shSX31 17 (.inl (.int, 500))
theorem hs_shSX33_12 : shSX33 12 = some (.inr 9) := hs_shSX31_12
noncomputable def PSX34 (ad : Nat → Nat) : z_P := z_up (PSX32 ad) 12 8 (some (ad 17))
